def w_X11_days (i k : Int) : Prop := (i = 1) ∨ (i = 15) ∨ (30 ≤ i ∧ i ≤ 31) ∨ (34 ≤ i ∧ i ≤ 83) ∨ (i = 87) ∨ (107 ≤ i ∧ i ≤ 110) ∨ (i = 0 ∧ k = 0) ∨ (i = 11 ∧ k = 5) ∨ (i = 29 ∧ 6 ≤ k ∧ k ≤ 10) ∨ (i = 111 ∧ 9 ≤ k ∧ k ≤ 11)
def k_X11_days (a1 : Int) (h : JH) (v : Option JV) (r' g : JH) : Prop := r' = jr0 ∧ jfr w_X11_days h g ∧ ∃ x : Int, v = some (.inl x) ∧ (True) ∧ ((((jLG 0 g ∧ P_X11_days a1 h g) ∧ (((a1 < 0 ∨ 2000 - h 0 0 < a1) ∧ ∀ i k : Int, ¬ i = 1 → g i k = h i k) ∨ (0 ≤ a1 ∧ a1 ≤ 2000 - h 0 0 ∧ ∀ (fl : Prop) (hm : JH), jDR fl h hm → jDR fl g (jit jmDy (a1).toNat hm) ∧ jRft hm (jit jmDy (a1).toNat hm)))) ∧ ∀ i : Int, 36 ≤ i → i ≤ 83 → g i 10 = h i 10) ∧ jFg (a1 < 0 ∨ 2000 - h 0 0 < a1) h g)
set_option maxHeartbeats 4000000 in
theorem c_X11_days {E : JE} {l : Launch} (a1 : Int) (h : JH) (q0 : jLG 0 h) : jMt E l 86 [.inr (.inr (.inl 0)), .inl a1] 229 jr0 h (k_X11_days a1 h) := by
  refine jMt0 (nL := 5) (ls := [.inr (.inr (.inl 0)), .inl a1, .inr (.inr (.inr ())), .inr (.inr (.inr ())), .inr (.inr (.inr ()))]) (by decide +kernel) (by decide +kernel) (by decide +kernel) rfl rfl ?_
  have f0 : jfr w_X11_days h h := jfr_rf _ _
  have key : ∀ N : Nat, (∀ (x2 : Int) (x3 : Int) (x4 : Int) (g : JH), (0 ≤ a1 ∧ a1 ≤ 2000 ∧ 0 ≤ x2 ∧ x2 ≤ 0 ∧ 0 ≤ x4 ∧ x4 ≤ 2000) → (g 0 0 = h 0 0 + x4 ∧ x4 ≤ a1 ∧ h 0 0 + a1 ≤ 2000) → (jLG 0 g) → (∀ (fl : Prop) (hm : JH), jDR fl h hm → jDL fl g (jit jmDy (x4).toNat hm) ∧ jRft hm (jit jmDy (x4).toNat hm)) → (∀ i : Int, 36 ≤ i → i ≤ 83 → g i 10 = h i 10) → (g 111 9 = 0 ∧ g 111 10 = 0 ∧ g 111 11 = 0) → jfr w_X11_days h g → (2000 - x4) < (N : Int) → jGo E l 86 229 229 (jRK (k_X11_days a1 h)) 50 [.inr (.inr (.inl 0)), .inl a1, .inl x2, .inl x3, .inl x4] [] 229 jr0 g) := by
    intro N
    induction N with
    | zero => exact fun _ _ _ _ hi hx0 hx1 hx2 hx3 hx4 _ hN => absurd hN (by omega)
    | succ N ih =>
      intro x2 x3 x4 g hi hx0 hx1 hx2 hx3 hx4 hf hN
      refine jGo_ok (fun hls _ => ?_)
      have rx3 : -2147483648 ≤ x3 ∧ x3 ≤ 2147483647 := hls (.inl x3) (by simp)
      refine jGo_bd (fun hbdg => ?_)
      have hB : ∀ t : Int, -2147483648 ≤ g 87 t ∧ g 87 t ≤ 2147483647 := fun t => (jba_87 t _).1 (hbdg 87 t)
      refine jGo_blk qX11_days_50 ?_
      refine And.intro (fun c1 => ?_) (fun c1 => ?_)
      · replace c1 : a1 ≤ x4 := c1
        show jGo E l 86 229 229 _ 133 [.inr (.inr (.inl 0)), .inl a1, .inl x2, .inl x3, .inl x4] [] 229 jr0 g
        refine jGo_blk qX11_days_133 ?_
        have hc2 : ∀ i : Int, 36 ≤ i → i ≤ 83 → g i 10 = h i 10 := fun i p1 p2 => (hx3 i p1 p2)
        exact st_r0 (ls := []) ⟨rfl, rfl, hf, x3, rfl, trivial, (by refine ⟨by refine ⟨by refine ⟨by exact ⟨hx1, by unfold P_X11_days; omega⟩, Or.inr ⟨by omega, by omega, fun fl hm S => by rw [show a1 = x4 by omega]; exact ⟨(hx2 fl hm S).1.1, (hx2 fl hm S).2⟩⟩⟩, ?_⟩; exact hc2, Or.inl ?_⟩; exact ⟨hx4.1, hx4.2.1, hx4.2.2⟩)⟩
      · replace c1 : x4 < a1 := by first | exact c1 | exact Int.not_le.mp c1 | exact Int.not_lt.mp c1 | exact Decidable.not_not.mp c1
        refine st_gi jo_0 (fun v3 ev3 b4 => ?_)
        replace ev3 : v3 = g 0 0 := ev3
        replace b4 := (jbf_11_0 jo_0 _).1 b4
        have e5 : jw32 (v3 + 1) = v3 + 1 := j32e (by omega) (by omega)
        refine st_pi jo_0 (fun hx => (jbf_11_0 jo_0 _).2 (show 0 ≤ jw32 (v3 + 1) ∧ jw32 (v3 + 1) ≤ 2000 by omega)) (fun g6 eg6 => ?_)
        replace eg6 : g6 = jup g 0 0 (jw32 (v3 + 1)) := eg6
        have fg6 : jfr w_X11_days h g6 := jfr_up hf eg6 (by unfold w_X11_days; omega)
        have e7 : g6 0 0 = jw32 (v3 + 1) := jup_s eg6
        have lg8 : jLG 1 g6 := jLG_day hx1 eg6 (by omega) (by omega)
        refine st_gr jo_0 jr_0_10 ?_
        refine st_gi jo_0 (fun v9 ev9 b10 => ?_)
        replace ev9 : v9 = g6 0 0 := ev9
        replace b10 := (jbf_11_0 jo_0 _).1 b10
        refine st_gr jo_0 jr_0_2 ?_
        refine st_gr jo_0 jr_0_3 ?_
        refine st_cv (na := 4) (st := [.inr (.inr (.inl 11)), .inr (.inr (.inl 2)), .inl v9, .inl 0, .inr (.inr (.inl 106))]) jo_106 rfl rfl rfl (c_X0_write_106 0 v9 g6 (by omega) (by omega)) rfl ?_
        rintro _ _ g12 ⟨rfl, ft11, rfl, zt11⟩ kt11
        have fg12 : jfr w_X11_days h g12 := jfr_tr fg6 ft11 (fun i k q => by unfold w_X0_write_106 at q; unfold w_X11_days; omega)
        replace zt11 : jWri 107 (0 : Int) v9 g6 g12 := zt11
        have lg13 : jLG 1 g12 := jLG_fr (ft11 0 0 (by unfold w_X0_write_106; omega)) (fun t => ft11 87 t (by unfold w_X0_write_106; omega)) lg8
        refine st_gr jo_0 jr_0_5 ?_
        refine st_gi jo_0 (fun v14 ev14 b15 => ?_)
        replace ev14 : v14 = g12 0 0 := ev14
        replace b15 := (jbf_11_0 jo_0 _).1 b15
        have e16 : g12 0 0 = g6 0 0 := ft11 0 0 (by unfold w_X0_write_106; omega)
        refine st_gr jo_0 jr_0_10 ?_
        refine st_gr jo_0 jr_0_4 ?_
        refine st_cv (na := 4) (st := [.inr (.inr (.inl 16)), .inl 0, .inr (.inr (.inl 106)), .inl v14, .inr (.inr (.inl 29)), .inl x3]) jo_29 rfl rfl rfl (c_X10_passDay_29_106 v14 0 g12 (by omega) (by omega)) rfl ?_
        rintro _ _ g18 ⟨rfl, ft17, t17, rfl, ht17, zt17⟩ kt17
        replace kt17 : -2147483648 ≤ t17 ∧ t17 ≤ 2147483647 := kt17
        have fg18 : jfr w_X11_days h g18 := jfr_tr fg12 ft17 (fun i k q => by unfold w_X10_passDay_29_106 at q; unfold w_X11_days; omega)
        replace zt17 : (t17 = jMc 31 36 g12) ∧ g18 = jPD 29 30 31 36 34 35 107 108 109 110 v14 (0 : Int) g12 := zt17
        have lg19 : jLG 1 g18 := jLG_fr (ft17 0 0 (by unfold w_X10_passDay_29_106; omega)) (fun t => ft17 87 t (by unfold w_X10_passDay_29_106; omega)) lg13
        refine st_gi jo_0 (fun v20 ev20 b21 => ?_)
        replace ev20 : v20 = g18 0 0 := ev20
        replace b21 := (jbf_11_0 jo_0 _).1 b21
        have e22 : g18 0 0 = g12 0 0 := ft17 0 0 (by unfold w_X10_passDay_29_106; omega)
        refine And.intro (show 360 ≠ 0 by omega) ?_
        have e23 : v20.tmod 360 = v20 % 360 ∧ 0 ≤ v20.tmod 360 ∧ v20.tmod 360 < 360 := jmd (by omega) (by omega)
        refine And.intro (fun c24 => ?_) (fun c24 => ?_)
        · replace c24 : ¬ v20.tmod 360 = 0 := c24
          show jGo E l 86 229 229 _ 127 [.inr (.inr (.inl 0)), .inl a1, .inl x2, .inl (jw32 (x3 + t17)), .inl x4] [] 229 jr0 g18
          refine jGo_blk qX11_days_127 ?_
          have e25 : jw32 (x4 + 1) = x4 + 1 := j32e (by omega) (by omega)
          show jGo E l 86 229 229 _ 50 [.inr (.inr (.inl 0)), .inl a1, .inl x2, .inl (jw32 (x3 + t17)), .inl (jw32 (x4 + 1))] [] 229 jr0 g18
          have hc26 : ∀ (fl : Prop) (hm : JH), jDR fl h hm → jDL fl g18 (jit jmDy (jw32 (x4 + 1)).toNat hm) ∧ jRft hm (jit jmDy (jw32 (x4 + 1)).toNat hm) := by
            intro fl hm S
            rw [show jw32 (x4 + 1) = x4 + 1 by omega, jit_s (by omega)]
            have w9 := zt11; rw [show v9 = g 0 0 + 1 by omega] at w9
            have p9 := zt17.2; rw [show v14 = g 0 0 + 1 by omega] at p9
            have k9 := jD_step (hx2 fl hm S).1 (eg6.trans (by rw [show jw32 (v3 + 1) = g 0 0 + 1 by omega])) w9 (fun i k q1 q2 q3 => ft11 i k (by unfold w_X0_write_106; omega)) p9 (Or.inr ⟨fun z9 => c24 ((show (g 0 0 + 1).tmod 360 = 0 ↔ v20.tmod 360 = 0 by rw [show g 0 0 + 1 = v20 by omega]).1 z9), rfl⟩) hB
            exact ⟨k9.1, fun b => (k9.2 b).trans ((hx2 fl hm S).2 b)⟩
          have hc27 : ∀ i : Int, 36 ≤ i → i ≤ 83 → g18 i 10 = h i 10 := fun i p1 p2 => (((congrFun (congrFun zt17.2 i) 10).trans (jT0_pd _ i p1 p2)).trans ((ft11 i 10 (by unfold w_X0_write_106; omega)).trans ((jup_o eg6 (by omega)).trans (hx3 i p1 p2))))
          have e28 : g18 111 9 = g12 111 9 := ft17 111 9 (by unfold w_X10_passDay_29_106; omega)
          have e29 : g12 111 9 = g6 111 9 := ft11 111 9 (by unfold w_X0_write_106; omega)
          have e30 : g6 111 9 = g 111 9 := jup_o eg6 (by omega)
          have e31 : g18 111 10 = g12 111 10 := ft17 111 10 (by unfold w_X10_passDay_29_106; omega)
          have e32 : g12 111 10 = g6 111 10 := ft11 111 10 (by unfold w_X0_write_106; omega)
          have e33 : g6 111 10 = g 111 10 := jup_o eg6 (by omega)
          have e34 : g18 111 11 = g12 111 11 := ft17 111 11 (by unfold w_X10_passDay_29_106; omega)
          have e35 : g12 111 11 = g6 111 11 := ft11 111 11 (by unfold w_X0_write_106; omega)
          have e36 : g6 111 11 = g 111 11 := jup_o eg6 (by omega)
          exact ih x2 (jw32 (x3 + t17)) (jw32 (x4 + 1)) g18 (by omega) (by omega) (by exact (jLG_w lg19)) (by exact hc26) (by exact hc27) (by exact ⟨(((ft17 111 9 (by unfold w_X10_passDay_29_106; omega)).trans ((ft11 111 9 (by unfold w_X0_write_106; omega)).trans (jup_o eg6 (by omega))))).trans hx4.1, (((ft17 111 10 (by unfold w_X10_passDay_29_106; omega)).trans ((ft11 111 10 (by unfold w_X0_write_106; omega)).trans (jup_o eg6 (by omega))))).trans hx4.2.1, (((ft17 111 11 (by unfold w_X10_passDay_29_106; omega)).trans ((ft11 111 11 (by unfold w_X0_write_106; omega)).trans (jup_o eg6 (by omega))))).trans hx4.2.2⟩) fg18 (by omega)
        · replace c24 : v20.tmod 360 = 0 := by first | exact c24 | exact Int.not_le.mp c24 | exact Int.not_lt.mp c24 | exact Decidable.not_not.mp c24
          refine st_gr jo_0 jr_0_6 ?_
          refine st_cv (na := 0) (st := [.inr (.inr (.inl 84))]) jo_84 rfl rfl rfl (c_X3_grow g18 (jLG_ok lg19)) rfl ?_
          rintro _ _ g38 ⟨rfl, ft37, rfl, zt37⟩ kt37
          have fg38 : jfr w_X11_days h g38 := jfr_tr fg18 ft37 (fun i k q => by unfold w_X3_grow at q; unfold w_X11_days; omega)
          replace zt37 : (∀ t : Int, 0 ≤ t → t < 40 → g18 87 t ≤ g38 87 t ∧ g38 87 t ≤ g18 87 t + 9) ∧ g38 = jit jGw (g18 84 0).toNat g18 := zt37
          have lg39 : jLG 0 g38 := jLG_grow (ft37 0 0 (by unfold w_X3_grow; omega)) zt37.1 lg19
          show jGo E l 86 229 229 _ 127 [.inr (.inr (.inl 0)), .inl a1, .inl x2, .inl (jw32 (x3 + t17)), .inl x4] [] 229 jr0 g38
          refine jGo_blk qX11_days_127 ?_
          have e40 : jw32 (x4 + 1) = x4 + 1 := j32e (by omega) (by omega)
          show jGo E l 86 229 229 _ 50 [.inr (.inr (.inl 0)), .inl a1, .inl x2, .inl (jw32 (x3 + t17)), .inl (jw32 (x4 + 1))] [] 229 jr0 g38
          have e41 : g38 0 0 = g18 0 0 := ft37 0 0 (by unfold w_X3_grow; omega)
          have hc42 : ∀ (fl : Prop) (hm : JH), jDR fl h hm → jDL fl g38 (jit jmDy (jw32 (x4 + 1)).toNat hm) ∧ jRft hm (jit jmDy (jw32 (x4 + 1)).toNat hm) := by
            intro fl hm S
            rw [show jw32 (x4 + 1) = x4 + 1 by omega, jit_s (by omega)]
            have w9 := zt11; rw [show v9 = g 0 0 + 1 by omega] at w9
            have p9 := zt17.2; rw [show v14 = g 0 0 + 1 by omega] at p9
            have k9 := jD_step (hx2 fl hm S).1 (eg6.trans (by rw [show jw32 (v3 + 1) = g 0 0 + 1 by omega])) w9 (fun i k q1 q2 q3 => ft11 i k (by unfold w_X0_write_106; omega)) p9 (Or.inl ⟨(show (g 0 0 + 1).tmod 360 = 0 ↔ v20.tmod 360 = 0 by rw [show g 0 0 + 1 = v20 by omega]).2 c24, zt37.2⟩) hB
            exact ⟨k9.1, fun b => (k9.2 b).trans ((hx2 fl hm S).2 b)⟩
          have hc43 : ∀ i : Int, 36 ≤ i → i ≤ 83 → g38 i 10 = h i 10 := fun i p1 p2 => ((ft37 i 10 (by unfold w_X3_grow; omega)).trans (((congrFun (congrFun zt17.2 i) 10).trans (jT0_pd _ i p1 p2)).trans ((ft11 i 10 (by unfold w_X0_write_106; omega)).trans ((jup_o eg6 (by omega)).trans (hx3 i p1 p2)))))
          have e44 : g38 111 9 = g18 111 9 := ft37 111 9 (by unfold w_X3_grow; omega)
          have e45 : g18 111 9 = g12 111 9 := ft17 111 9 (by unfold w_X10_passDay_29_106; omega)
          have e46 : g12 111 9 = g6 111 9 := ft11 111 9 (by unfold w_X0_write_106; omega)
          have e47 : g6 111 9 = g 111 9 := jup_o eg6 (by omega)
          have e48 : g38 111 10 = g18 111 10 := ft37 111 10 (by unfold w_X3_grow; omega)
          have e49 : g18 111 10 = g12 111 10 := ft17 111 10 (by unfold w_X10_passDay_29_106; omega)
          have e50 : g12 111 10 = g6 111 10 := ft11 111 10 (by unfold w_X0_write_106; omega)
          have e51 : g6 111 10 = g 111 10 := jup_o eg6 (by omega)
          have e52 : g38 111 11 = g18 111 11 := ft37 111 11 (by unfold w_X3_grow; omega)
          have e53 : g18 111 11 = g12 111 11 := ft17 111 11 (by unfold w_X10_passDay_29_106; omega)
          have e54 : g12 111 11 = g6 111 11 := ft11 111 11 (by unfold w_X0_write_106; omega)
          have e55 : g6 111 11 = g 111 11 := jup_o eg6 (by omega)
          exact ih x2 (jw32 (x3 + t17)) (jw32 (x4 + 1)) g38 (by omega) (by omega) (by exact lg39) (by exact hc42) (by exact hc43) (by exact ⟨(((ft37 111 9 (by unfold w_X3_grow; omega)).trans ((ft17 111 9 (by unfold w_X10_passDay_29_106; omega)).trans ((ft11 111 9 (by unfold w_X0_write_106; omega)).trans (jup_o eg6 (by omega)))))).trans hx4.1, (((ft37 111 10 (by unfold w_X3_grow; omega)).trans ((ft17 111 10 (by unfold w_X10_passDay_29_106; omega)).trans ((ft11 111 10 (by unfold w_X0_write_106; omega)).trans (jup_o eg6 (by omega)))))).trans hx4.2.1, (((ft37 111 11 (by unfold w_X3_grow; omega)).trans ((ft17 111 11 (by unfold w_X10_passDay_29_106; omega)).trans ((ft11 111 11 (by unfold w_X0_write_106; omega)).trans (jup_o eg6 (by omega)))))).trans hx4.2.2⟩) fg38 (by omega)
  refine jGo_blk qX11_days_0 ?_
  refine st_gi jo_0 (fun v56 ev56 b57 => ?_)
  replace ev56 : v56 = h 0 0 := ev56
  replace b57 := (jbf_11_0 jo_0 _).1 b57
  have e58 : jw32 (2000 - v56) = 2000 - v56 := j32e (by omega) (by omega)
  refine st_cs (na := 3) (st := [.inl (jw32 (2000 - v56)), .inl 0, .inl a1]) rfl rfl rfl (c_X11_outside a1 0 (jw32 (2000 - v56)) h) rfl ?_
  rintro _ _ _ ⟨rfl, rfl, t59, rfl, ht59, zt59⟩ kt59
  replace kt59 : -2147483648 ≤ t59 ∧ t59 ≤ 2147483647 := kt59
  replace ht59 : -6 ≤ t59 ∧ t59 ≤ 0 := ht59
  replace zt59 : (t59 = -4 ∧ a1 < (0 : Int)) ∨ (t59 = -6 ∧ (0 : Int) ≤ a1 ∧ (jw32 (2000 - v56)) < a1) ∨ (t59 = 0 ∧ (0 : Int) ≤ a1 ∧ a1 ≤ (jw32 (2000 - v56))) := zt59
  refine And.intro (fun c61 => ?_) (fun c61 => ?_)
  · replace c61 : t59 = 0 := c61
    show jGo E l 86 229 229 _ 24 [.inr (.inr (.inl 0)), .inl a1, .inl t59, .inr (.inr (.inr ())), .inr (.inr (.inr ()))] [] 229 jr0 h
    refine jGo_blk qX11_days_24 ?_
    refine st_gr jo_0 jr_0_11 ?_
    refine st_cv (na := 0) (st := [.inr (.inr (.inl 111))]) jo_111 rfl rfl rfl (c_X7_forget h) rfl ?_
    rintro _ _ g63 ⟨rfl, ft62, rfl, zt62⟩ kt62
    have fg63 : jfr w_X11_days h g63 := jfr_tr f0 ft62 (fun i k q => by unfold w_X7_forget at q; unfold w_X11_days; omega)
    replace zt62 : g63 111 9 = 0 ∧ g63 111 10 = 0 ∧ g63 111 11 = 0 := zt62
    have lg64 : jLG 0 g63 := jLG_fr (ft62 0 0 (by unfold w_X7_forget; omega)) (fun t => ft62 87 t (by unfold w_X7_forget; omega)) q0
    refine st_gr jo_0 jr_0_5 ?_
    refine st_cv (na := 0) (st := [.inr (.inr (.inl 29))]) jo_29 rfl rfl rfl (c_X10_lineUp_29 g63) rfl ?_
    rintro _ _ g66 ⟨rfl, ft65, rfl, zt65⟩ kt65
    have fg66 : jfr w_X11_days h g66 := jfr_tr fg63 ft65 (fun i k q => by unfold w_X10_lineUp_29 at q; unfold w_X11_days; omega)
    replace zt65 : jHo g63 g66 (g63 29 4) (g66 29 6) (g66 29 6) ∧ 0 ≤ g66 29 6 ∧ g66 29 6 ≤ 16 := zt65
    have lg67 : jLG 0 g66 := jLG_fr (ft65 0 0 (by unfold w_X10_lineUp_29; omega)) (fun t => ft65 87 t (by unfold w_X10_lineUp_29; omega)) lg64
    refine st_gr jo_0 jr_0_3 ?_
    refine st_cv (na := 0) (st := [.inr (.inr (.inl 11))]) jo_11 rfl rfl rfl (c_X2_rewind g66) rfl ?_
    rintro _ _ g69 ⟨rfl, ft68, rfl, zt68⟩ kt68
    have fg69 : jfr w_X11_days h g69 := jfr_tr fg66 ft68 (fun i k q => by unfold w_X2_rewind at q; unfold w_X11_days; omega)
    replace zt68 : (∀ t : Int, 0 ≤ t → t ≤ 9 → g69 15 t = if t = 9 then 60 else 0) ∧ g69 11 5 = 0 := zt68
    have lg70 : jLG 0 g69 := jLG_fr (ft68 0 0 (by unfold w_X2_rewind; omega)) (fun t => ft68 87 t (by unfold w_X2_rewind; omega)) lg67
    show jGo E l 86 229 229 _ 50 [.inr (.inr (.inl 0)), .inl a1, .inl t59, .inl 0, .inl 0] [] 229 jr0 g69
    have e71 : g69 0 0 = g66 0 0 := ft68 0 0 (by unfold w_X2_rewind; omega)
    have e72 : g66 0 0 = g63 0 0 := ft65 0 0 (by unfold w_X10_lineUp_29; omega)
    have e73 : g63 0 0 = h 0 0 := ft62 0 0 (by unfold w_X7_forget; omega)
    refine jGo_bd (fun hbd75 => ?_)
    have hc74 : ∀ (fl : Prop) (hm : JH), jDR fl h hm → jDL fl g69 (jit jmDy (0 : Int).toNat hm) ∧ jRft hm (jit jmDy (0 : Int).toNat hm) := fun fl hm S => ⟨jDL_0 S (fun i k q => ft62 i k (by unfold jwk at q; unfold w_X7_forget; omega)) (fun i k q1 q2 => ft65 i k (by unfold w_X10_lineUp_29; omega)) zt65 (fun i k q1 q2 => ft68 i k (by unfold w_X2_rewind; omega)) zt68 ((jbf_2_0 jo_11 _).1 (hbd75 11 0)).1, fun _ => Iff.rfl⟩
    have hc76 : ∀ i : Int, 36 ≤ i → i ≤ 83 → g69 i 10 = h i 10 := fun i p1 p2 => ((ft68 i 10 (by unfold w_X2_rewind; omega)).trans ((ft65 i 10 (by unfold w_X10_lineUp_29; omega)).trans (ft62 i 10 (by unfold w_X7_forget; omega))))
    have e77 : g69 111 9 = g66 111 9 := ft68 111 9 (by unfold w_X2_rewind; omega)
    have e78 : g66 111 9 = g63 111 9 := ft65 111 9 (by unfold w_X10_lineUp_29; omega)
    have e79 : g69 111 10 = g66 111 10 := ft68 111 10 (by unfold w_X2_rewind; omega)
    have e80 : g66 111 10 = g63 111 10 := ft65 111 10 (by unfold w_X10_lineUp_29; omega)
    have e81 : g69 111 11 = g66 111 11 := ft68 111 11 (by unfold w_X2_rewind; omega)
    have e82 : g66 111 11 = g63 111 11 := ft65 111 11 (by unfold w_X10_lineUp_29; omega)
    exact (key 1000000000000) t59 0 0 g69 (by omega) (by omega) (by exact lg70) (by exact hc74) (by exact hc76) (by exact ⟨(((ft68 111 9 (by unfold w_X2_rewind; omega)).trans (ft65 111 9 (by unfold w_X10_lineUp_29; omega)))).trans zt62.1, (((ft68 111 10 (by unfold w_X2_rewind; omega)).trans (ft65 111 10 (by unfold w_X10_lineUp_29; omega)))).trans zt62.2.1, (((ft68 111 11 (by unfold w_X2_rewind; omega)).trans (ft65 111 11 (by unfold w_X10_lineUp_29; omega)))).trans zt62.2.2⟩) fg69 (by omega)
  · replace c61 : ¬ t59 = 0 := by first | exact c61 | exact Int.not_le.mp c61 | exact Int.not_lt.mp c61 | exact Decidable.not_not.mp c61
    refine st_cv (na := 1) (st := [.inl t59, .inr (.inr (.inl 0))]) jo_0 rfl rfl rfl (c_X11_refused t59 h (by omega)) rfl ?_
    rintro _ _ g84 ⟨rfl, ft83, t83, rfl, ht83, zt83⟩ kt83
    replace kt83 : -2147483648 ≤ t83 ∧ t83 ≤ 2147483647 := kt83
    replace ht83 : -7 ≤ t83 ∧ t83 ≤ -1 := ht83
    have fg84 : jfr w_X11_days h g84 := jfr_tr f0 ft83 (fun i k q => by unfold w_X11_refused at q; unfold w_X11_days; omega)
    replace zt83 : t83 = t59 := zt83
    have lg85 : jLG 0 g84 := jLG_fr (ft83 0 0 (by unfold w_X11_refused; omega)) (fun t => ft83 87 t (by unfold w_X11_refused; omega)) q0
    have e86 : g84 0 0 = h 0 0 := ft83 0 0 (by unfold w_X11_refused; omega)
    have hs87 : ∀ i k : Int, ¬ i = 1 → g84 i k = h i k := fun i k p1 => (ft83 i k (by unfold w_X11_refused; omega))
    have hc88 : ∀ i : Int, 36 ≤ i → i ≤ 83 → g84 i 10 = h i 10 := fun i p1 p2 => (ft83 i 10 (by unfold w_X11_refused; omega))
    exact st_r0 (ls := []) ⟨rfl, rfl, fg84, t83, rfl, trivial, (by refine ⟨by refine ⟨by refine ⟨by exact ⟨lg85, by unfold P_X11_days; omega⟩, Or.inl ⟨by omega, hs87⟩⟩, ?_⟩; exact hc88, Or.inr ⟨by omega, fun i k p1 => (ft83 i k (by unfold w_X11_refused; omega))⟩⟩)⟩
