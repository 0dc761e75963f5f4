def w_X2_goOnTo (i k : Int) : Prop := (i = 15) ∨ (i = 11 ∧ k = 5)
def k_X2_goOnTo (a1 : Int) (h : JH) (v : Option JV) (r' g : JH) : Prop := r' = jr0 ∧ jfr w_X2_goOnTo h g ∧ v = none ∧ (jGOP a1 h g)
set_option maxHeartbeats 4000000 in
theorem c_X2_goOnTo {E : JE} {l : Launch} (a1 : Int) (h : JH) : jMt E l 47 [.inr (.inr (.inl 11)), .inl a1] 229 jr0 h (k_X2_goOnTo a1 h) := by
  refine jMt0 (nL := 2) (ls := [.inr (.inr (.inl 11)), .inl a1]) (by decide +kernel) (by decide +kernel) (by decide +kernel) rfl rfl ?_
  have f0 : jfr w_X2_goOnTo h h := jfr_rf _ _
  refine jGo_bd (fun hbd => ?_)
  have hb0 := (jbf_2_5 jo_11 _).1 (hbd 11 5)
  have key : ∀ N : Nat, (∀ (g : JH), (True) → (0 ≤ g 11 5 ∧ g 11 5 ≤ 40) → ((jCo h → jCo g) ∧ h 11 5 ≤ g 11 5 ∧ (∀ i : Int, h 11 5 ≤ i → i < g 11 5 → h 14 i ≤ a1) ∧ (h 11 5 ≤ h 11 0 → g 11 5 ≤ h 11 0)) → jfr w_X2_goOnTo h g → 40 - g 11 5 < (N : Int) → jGo E l 47 229 229 (jRK (k_X2_goOnTo a1 h)) 0 [.inr (.inr (.inl 11)), .inl a1] [] 229 jr0 g) := by
    intro N
    induction N with
    | zero => exact fun _ hi hx0 hx1 _ hN => absurd hN (by omega)
    | succ N ih =>
      intro g hi hx0 hx1 hf hN
      refine jGo_blk qX2_goOnTo_0 ?_
      refine st_gi jo_11 (fun v1 ev1 b2 => ?_)
      replace ev1 : v1 = g 11 5 := ev1
      replace b2 := (jbf_2_5 jo_11 _).1 b2
      refine st_gi jo_11 (fun v3 ev3 b4 => ?_)
      replace ev3 : v3 = g 11 0 := ev3
      replace b4 := (jbf_2_0 jo_11 _).1 b4
      refine And.intro (fun c5 => ?_) (fun c5 => ?_)
      · replace c5 : v3 ≤ v1 := c5
        show jGo E l 47 229 229 _ 60 [.inr (.inr (.inl 11)), .inl a1] [] 229 jr0 g
        refine jGo_blk qX2_goOnTo_60 ?_
        have hc6 : h 11 0 ≤ g 11 5 ∨ a1 < h 14 (g 11 5) := by
          have k0 : g 11 0 = h 11 0 := hf 11 0 (by unfold w_X2_goOnTo; omega)
          exact Or.inl (by omega)
        exact ⟨rfl, rfl, hf, rfl, (by unfold jGOP; exact ⟨hx1.1, hx1.2.1, hx1.2.2.1, hx1.2.2.2, hc6⟩)⟩
      · replace c5 : v1 < v3 := by first | exact c5 | exact Int.not_le.mp c5 | exact Int.not_lt.mp c5 | exact Decidable.not_not.mp c5
        refine st_gr jo_11 jr_11_3 ?_
        refine st_gi jo_11 (fun v7 ev7 b8 => ?_)
        replace ev7 : v7 = g 11 5 := ev7
        replace b8 := (jbf_2_5 jo_11 _).1 b8
        refine st_ai jo_14 (show 0 ≤ v7 by omega) (show v7 < ((40 : Nat) : Int) by omega) (fun v9 ev9 b10 => ?_)
        replace ev9 : v9 = g 14 v7 := ev9
        replace b10 := (jba_14 v7 _).1 b10
        refine And.intro (fun c11 => ?_) (fun c11 => ?_)
        · replace c11 : a1 < v9 := c11
          show jGo E l 47 229 229 _ 60 [.inr (.inr (.inl 11)), .inl a1] [] 229 jr0 g
          refine jGo_blk qX2_goOnTo_60 ?_
          have hc12 : h 11 0 ≤ g 11 5 ∨ a1 < h 14 (g 11 5) := by
            have k0 : g 11 0 = h 11 0 := hf 11 0 (by unfold w_X2_goOnTo; omega)
            have q1 := hf 14 (g 11 5) (by unfold w_X2_goOnTo; omega); rw [show v7 = g 11 5 by omega] at ev9; exact Or.inr (by omega)
          exact ⟨rfl, rfl, hf, rfl, (by unfold jGOP; exact ⟨hx1.1, hx1.2.1, hx1.2.2.1, hx1.2.2.2, hc12⟩)⟩
        · replace c11 : v9 ≤ a1 := by first | exact c11 | exact Int.not_le.mp c11 | exact Int.not_lt.mp c11 | exact Decidable.not_not.mp c11
          refine st_gr jo_11 jr_11_4 ?_
          refine st_gr jo_11 jr_11_1 ?_
          refine st_gi jo_11 (fun v13 ev13 b14 => ?_)
          replace ev13 : v13 = g 11 5 := ev13
          replace b14 := (jbf_2_5 jo_11 _).1 b14
          refine st_ai jo_12 (show 0 ≤ v13 by omega) (show v13 < ((40 : Nat) : Int) by omega) (fun v15 ev15 b16 => ?_)
          replace ev15 : v15 = g 12 v13 := ev15
          replace b16 := (jba_12 v13 _).1 b16
          refine st_gr jo_11 jr_11_2 ?_
          refine st_gi jo_11 (fun v17 ev17 b18 => ?_)
          replace ev17 : v17 = g 11 5 := ev17
          replace b18 := (jbf_2_5 jo_11 _).1 b18
          refine st_ai jo_13 (show 0 ≤ v17 by omega) (show v17 < ((40 : Nat) : Int) by omega) (fun v19 ev19 b20 => ?_)
          replace ev19 : v19 = g 13 v17 := ev19
          replace b20 := (jba_13 v17 _).1 b20
          refine st_si jo_15 (show 0 ≤ v15 by omega) (show v15 < ((10 : Nat) : Int) by omega) (fun hx => (jba_15 _ _).2 (show 0 ≤ v19 ∧ v19 ≤ 200 by omega)) (fun g21 eg21 => ?_)
          replace eg21 : g21 = jup g 15 v15 v19 := eg21
          have fg21 : jfr w_X2_goOnTo h g21 := jfr_up hf eg21 (by unfold w_X2_goOnTo; omega)
          have e22 : g21 15 v15 = v19 := jup_s eg21
          refine st_gi jo_11 (fun v23 ev23 b24 => ?_)
          replace ev23 : v23 = g21 11 5 := ev23
          replace b24 := (jbf_2_5 jo_11 _).1 b24
          have e25 : g21 11 5 = g 11 5 := jup_o eg21 (by omega)
          have e26 : jw32 (v23 + 1) = v23 + 1 := j32e (by omega) (by omega)
          refine st_pi jo_11 (fun hx => (jbf_2_5 jo_11 _).2 (show 0 ≤ jw32 (v23 + 1) ∧ jw32 (v23 + 1) ≤ 40 by omega)) (fun g27 eg27 => ?_)
          replace eg27 : g27 = jup g21 11 5 (jw32 (v23 + 1)) := eg27
          have fg27 : jfr w_X2_goOnTo h g27 := jfr_up fg21 eg27 (by unfold w_X2_goOnTo; omega)
          have e28 : g27 11 5 = jw32 (v23 + 1) := jup_s eg27
          show jGo E l 47 229 229 _ 0 [.inr (.inr (.inl 11)), .inl a1] [] 229 jr0 g27
          have hc29 : (jCo h → jCo g27) ∧ h 11 5 ≤ g27 11 5 ∧ (∀ i : Int, h 11 5 ≤ i → i < g27 11 5 → h 14 i ≤ a1) ∧ (h 11 5 ≤ h 11 0 → g27 11 5 ≤ h 11 0) := by
            have k5 : g27 11 5 = g 11 5 + 1 := by have E1 := jup_i eg27 11 5; have E2 := jup_i eg21 11 5; omega
            have k14 : h 14 (g 11 5) ≤ a1 := by have q1 := hf 14 (g 11 5) (by unfold w_X2_goOnTo; omega); rw [show v7 = g 11 5 by omega] at ev9; omega
            have k0 : g 11 0 = h 11 0 := hf 11 0 (by unfold w_X2_goOnTo; omega)
            refine ⟨fun q => jCo_st (hx1.1 q) (by omega) (fun k => (jup_o eg27 (by omega)).trans (jup_o eg21 (by omega))) (fun k => (jup_o eg27 (by omega)).trans (jup_o eg21 (by omega))) k5 (fun t => ?_), by omega, fun i a b => ?_, fun q => by omega⟩
            · have E1 := jup_i eg27 15 t; have E2 := jup_i eg21 15 t; rw [show v13 = g 11 5 by omega] at ev15; rw [show v17 = g 11 5 by omega] at ev19; omega
            · by_cases z : i = g 11 5
              · rw [z]; exact k14
              · exact hx1.2.2.1 i a (by omega)
          exact ih g27 trivial (by omega) (by exact hc29) fg27 (by omega)
  show jGo E l 47 229 229 _ 0 [.inr (.inr (.inl 11)), .inl a1] [] 229 jr0 h
  exact (key 1000000000000) h trivial (by omega) (by exact ⟨fun q => q, Int.le_refl _, fun i a b => absurd a (by omega), fun q => q⟩) f0 (by omega)

def k_X2_inForce (a1 : Int) (a2 : Int) (h : JH) (v : Option JV) (r' g : JH) : Prop := r' = jr0 ∧ h = g ∧ ∃ x : Int, v = some (.inl x) ∧ (0 ≤ x ∧ x ≤ 200) ∧ (x = h 15 (jsl a1 a2))
set_option maxHeartbeats 4000000 in
theorem c_X2_inForce {E : JE} {l : Launch} (a1 : Int) (a2 : Int) (h : JH) (p2 : 0 ≤ a2 ∧ a2 ≤ 3) : jMt E l 48 [.inr (.inr (.inl 11)), .inl a1, .inl a2] 229 jr0 h (k_X2_inForce a1 a2 h) := by
  refine jMt0 (nL := 3) (ls := [.inr (.inr (.inl 11)), .inl a1, .inl a2]) (by decide +kernel) (by decide +kernel) (by decide +kernel) rfl rfl ?_
  refine jGo_blk qX2_inForce_0 ?_
  refine st_gr jo_11 jr_11_4 ?_
  refine st_cs (na := 2) (st := [.inl a2, .inl a1, .inr (.inr (.inl 15))]) rfl rfl rfl (c_X2_slotOf a1 a2 h (by omega)) rfl ?_
  rintro _ _ _ ⟨rfl, rfl, t1, rfl, ht1, zt1⟩ kt1
  replace kt1 : -2147483648 ≤ t1 ∧ t1 ≤ 2147483647 := kt1
  replace ht1 : 0 ≤ t1 ∧ t1 ≤ 9 := ht1
  replace zt1 : t1 = jsl a1 a2 := zt1
  refine st_ai jo_15 (show 0 ≤ t1 by omega) (show t1 < ((10 : Nat) : Int) by omega) (fun v3 ev3 b4 => ?_)
  replace ev3 : v3 = h 15 t1 := ev3
  replace b4 := (jba_15 t1 _).1 b4
  exact st_r0 (ls := []) ⟨rfl, rfl, rfl, v3, rfl, (by omega), (by rw [← zt1]; exact ev3)⟩

def w_X11_force (i k : Int) : Prop := (i = 1) ∨ (i = 15) ∨ (i = 11 ∧ k = 5)
def k_X11_force (a1 : Int) (a2 : Int) (a3 : Int) (h : JH) (v : Option JV) (r' g : JH) : Prop := r' = jr0 ∧ jfr w_X11_force h g ∧ ∃ x : Int, v = some (.inl x) ∧ (-7 ≤ x ∧ x ≤ 200) ∧ (P_X11_force a1 a2 a3 x h)
set_option maxHeartbeats 4000000 in
theorem c_X11_force {E : JE} {l : Launch} (a1 : Int) (a2 : Int) (a3 : Int) (h : JH) : jMt E l 49 [.inr (.inr (.inl 0)), .inl a1, .inl a2, .inl a3] 229 jr0 h (k_X11_force a1 a2 a3 h) := by
  refine jMt0 (nL := 5) (ls := [.inr (.inr (.inl 0)), .inl a1, .inl a2, .inl a3, .inr (.inr (.inr ()))]) (by decide +kernel) (by decide +kernel) (by decide +kernel) rfl rfl ?_
  have f0 : jfr w_X11_force h h := jfr_rf _ _
  refine jGo_bd (fun hbd => ?_)
  have hb0 := (jbf_2_0 jo_11 _).1 (hbd 11 0)
  refine jGo_blk qX11_force_0 ?_
  refine st_cs (na := 2) (st := [.inl 4, .inl a1]) rfl rfl rfl (c_X11_within a1 4 h) rfl ?_
  rintro _ _ _ ⟨rfl, rfl, t1, rfl, ht1, zt1⟩ kt1
  replace kt1 : -2147483648 ≤ t1 ∧ t1 ≤ 2147483647 := kt1
  replace ht1 : 0 ≤ t1 ∧ t1 ≤ 1 := ht1
  replace zt1 : (t1 = 1 ∧ 0 ≤ a1 ∧ a1 < (4 : Int)) ∨ (t1 = 0 ∧ ¬ (0 ≤ a1 ∧ a1 < (4 : Int))) := zt1
  refine And.intro (fun c3 => ?_) (fun c3 => ?_)
  · replace c3 : t1 = 0 := c3
    show jGo E l 49 229 229 _ 16 [.inr (.inr (.inl 0)), .inl a1, .inl a2, .inl a3, .inr (.inr (.inr ()))] [] 229 jr0 h
    refine jGo_blk qX11_force_16 ?_
    show jGo E l 49 229 229 _ 28 [.inr (.inr (.inl 0)), .inl a1, .inl a2, .inl a3, .inr (.inr (.inr ()))] [.inl (-1)] 229 jr0 h
    refine jGo_blk qX11_force_28 ?_
    refine And.intro (fun c4 => ?_) (fun c4 => ?_)
    · replace c4 : (-1 : Int) = 0 := c4
      exfalso; omega
    · replace c4 : ¬ (-1 : Int) = 0 := by first | exact c4 | exact Int.not_le.mp c4 | exact Int.not_lt.mp c4 | exact Decidable.not_not.mp c4
      refine st_cv (na := 1) (st := [.inl (-1), .inr (.inr (.inl 0))]) jo_0 rfl rfl rfl (c_X11_refused (-1) h (by omega)) rfl ?_
      rintro _ _ g6 ⟨rfl, ft5, t5, rfl, ht5, zt5⟩ kt5
      replace kt5 : -2147483648 ≤ t5 ∧ t5 ≤ 2147483647 := kt5
      replace ht5 : -7 ≤ t5 ∧ t5 ≤ -1 := ht5
      have fg6 : jfr w_X11_force h g6 := jfr_tr f0 ft5 (fun i k q => by unfold w_X11_refused at q; unfold w_X11_force; omega)
      replace zt5 : t5 = (-1 : Int) := zt5
      exact st_r0 (ls := []) ⟨rfl, rfl, fg6, t5, rfl, (by omega), (by unfold P_X11_force; by_cases zz : t5 = -4 <;> first | exact Or.inl (by omega) | exact Or.inr (Or.inl (by omega)) | exact Or.inr (Or.inr (Or.inl (by omega))))⟩
  · replace c3 : ¬ t1 = 0 := by first | exact c3 | exact Int.not_le.mp c3 | exact Int.not_lt.mp c3 | exact Decidable.not_not.mp c3
    refine st_cs (na := 2) (st := [.inl 4, .inl a2]) rfl rfl rfl (c_X11_within a2 4 h) rfl ?_
    rintro _ _ _ ⟨rfl, rfl, t7, rfl, ht7, zt7⟩ kt7
    replace kt7 : -2147483648 ≤ t7 ∧ t7 ≤ 2147483647 := kt7
    replace ht7 : 0 ≤ t7 ∧ t7 ≤ 1 := ht7
    replace zt7 : (t7 = 1 ∧ 0 ≤ a2 ∧ a2 < (4 : Int)) ∨ (t7 = 0 ∧ ¬ (0 ≤ a2 ∧ a2 < (4 : Int))) := zt7
    refine And.intro (fun c9 => ?_) (fun c9 => ?_)
    · replace c9 : ¬ t7 = 0 := c9
      show jGo E l 49 229 229 _ 20 [.inr (.inr (.inl 0)), .inl a1, .inl a2, .inl a3, .inr (.inr (.inr ()))] [] 229 jr0 h
      refine jGo_blk qX11_force_20 ?_
      refine st_cs (na := 3) (st := [.inl 2000, .inl 0, .inl a3]) rfl rfl rfl (c_X11_outside a3 0 2000 h) rfl ?_
      rintro _ _ _ ⟨rfl, rfl, t10, rfl, ht10, zt10⟩ kt10
      replace kt10 : -2147483648 ≤ t10 ∧ t10 ≤ 2147483647 := kt10
      replace ht10 : -6 ≤ t10 ∧ t10 ≤ 0 := ht10
      replace zt10 : (t10 = -4 ∧ a3 < (0 : Int)) ∨ (t10 = -6 ∧ (0 : Int) ≤ a3 ∧ (2000 : Int) < a3) ∨ (t10 = 0 ∧ (0 : Int) ≤ a3 ∧ a3 ≤ (2000 : Int)) := zt10
      show jGo E l 49 229 229 _ 28 [.inr (.inr (.inl 0)), .inl a1, .inl a2, .inl a3, .inr (.inr (.inr ()))] [.inl t10] 229 jr0 h
      refine jGo_blk qX11_force_28 ?_
      refine And.intro (fun c12 => ?_) (fun c12 => ?_)
      · replace c12 : t10 = 0 := c12
        show jGo E l 49 229 229 _ 42 [.inr (.inr (.inl 0)), .inl a1, .inl a2, .inl a3, .inl t10] [] 229 jr0 h
        refine jGo_blk qX11_force_42 ?_
        refine st_gr jo_0 jr_0_3 ?_
        refine st_cv (na := 0) (st := [.inr (.inr (.inl 11))]) jo_11 rfl rfl rfl (c_X2_rewind h) rfl ?_
        rintro _ _ g14 ⟨rfl, ft13, rfl, zt13⟩ kt13
        have fg14 : jfr w_X11_force h g14 := jfr_tr f0 ft13 (fun i k q => by unfold w_X2_rewind at q; unfold w_X11_force; omega)
        replace zt13 : (∀ t : Int, 0 ≤ t → t ≤ 9 → g14 15 t = if t = 9 then 60 else 0) ∧ g14 11 5 = 0 := zt13
        refine st_gr jo_0 jr_0_3 ?_
        refine st_cv (na := 1) (st := [.inl a3, .inr (.inr (.inl 11))]) jo_11 rfl rfl rfl (c_X2_goOnTo a3 g14) rfl ?_
        rintro _ _ g16 ⟨rfl, ft15, rfl, zt15⟩ kt15
        have fg16 : jfr w_X11_force h g16 := jfr_tr fg14 ft15 (fun i k q => by unfold w_X2_goOnTo at q; unfold w_X11_force; omega)
        replace zt15 : jGOP a3 g14 g16 := zt15
        refine st_gr jo_0 jr_0_3 ?_
        refine st_cv (na := 2) (st := [.inl a2, .inl a1, .inr (.inr (.inl 11))]) jo_11 rfl rfl rfl (c_X2_inForce a1 a2 g16 (by omega)) rfl ?_
        rintro _ _ _ ⟨rfl, rfl, t17, rfl, ht17, zt17⟩ kt17
        replace kt17 : -2147483648 ≤ t17 ∧ t17 ≤ 2147483647 := kt17
        replace ht17 : 0 ≤ t17 ∧ t17 ≤ 200 := ht17
        replace zt17 : t17 = g16 15 (jsl a1 a2) := zt17
        have hc19 : ∃ p : Int, 0 ≤ p ∧ p ≤ h 11 0 ∧ (∀ i : Int, 0 ≤ i → i < p → h 14 i ≤ a3) ∧ (h 11 0 ≤ p ∨ a3 < h 14 p) ∧ t17 = jov (h 12) (h 13) p.toNat (jsl a1 a2) := by
          have o1 : jCo g14 := fun t a b => (zt13.1 t a b).trans (by rw [zt13.2]; rfl)
          have o2 := zt15.1 o1
          have w14 : ∀ k : Int, g14 14 k = h 14 k := fun k => ft13 14 k (by unfold w_X2_rewind; omega)
          have w11 : g14 11 0 = h 11 0 := ft13 11 0 (by unfold w_X2_rewind; omega)
          have y0 := zt13.2
          have y1 := zt15.2.1; have y2 := zt15.2.2.2.1 (by omega)
          have y3 : jsl a1 a2 = jsl a1 a2 := rfl
          have y4 : 0 ≤ jsl a1 a2 ∧ jsl a1 a2 ≤ 9 := by unfold jsl; omega
          refine ⟨g16 11 5, by omega, by omega, fun i a b => by rw [← w14]; exact zt15.2.2.1 i (by omega) b, ?_, ?_⟩
          · have y5 := zt15.2.2.2.2; rw [w14, w11] at y5; exact y5
          · rw [← jfn (g := g14) (A := 12) (fun k => ft13 12 k (by unfold w_X2_rewind; omega)), ← jfn (g := g14) (A := 13) (fun k => ft13 13 k (by unfold w_X2_rewind; omega)), ← jfn (g := g16) (h := g14) (A := 12) (fun k => ft15 12 k (by unfold w_X2_goOnTo; omega)), ← jfn (g := g16) (h := g14) (A := 13) (fun k => ft15 13 k (by unfold w_X2_goOnTo; omega)), ← o2 _ y4.1 y4.2]; exact zt17
        exact st_r0 (ls := []) ⟨rfl, rfl, fg16, t17, rfl, (by omega), (by unfold P_X11_force; exact Or.inr (Or.inr (Or.inr ⟨by omega, hc19⟩)))⟩
      · replace c12 : ¬ t10 = 0 := by first | exact c12 | exact Int.not_le.mp c12 | exact Int.not_lt.mp c12 | exact Decidable.not_not.mp c12
        refine st_cv (na := 1) (st := [.inl t10, .inr (.inr (.inl 0))]) jo_0 rfl rfl rfl (c_X11_refused t10 h (by omega)) rfl ?_
        rintro _ _ g21 ⟨rfl, ft20, t20, rfl, ht20, zt20⟩ kt20
        replace kt20 : -2147483648 ≤ t20 ∧ t20 ≤ 2147483647 := kt20
        replace ht20 : -7 ≤ t20 ∧ t20 ≤ -1 := ht20
        have fg21 : jfr w_X11_force h g21 := jfr_tr f0 ft20 (fun i k q => by unfold w_X11_refused at q; unfold w_X11_force; omega)
        replace zt20 : t20 = t10 := zt20
        exact st_r0 (ls := []) ⟨rfl, rfl, fg21, t20, rfl, (by omega), (by unfold P_X11_force; by_cases zz : t20 = -4 <;> first | exact Or.inl (by omega) | exact Or.inr (Or.inl (by omega)) | exact Or.inr (Or.inr (Or.inl (by omega))))⟩
    · replace c9 : t7 = 0 := by first | exact c9 | exact Int.not_le.mp c9 | exact Int.not_lt.mp c9 | exact Decidable.not_not.mp c9
      show jGo E l 49 229 229 _ 16 [.inr (.inr (.inl 0)), .inl a1, .inl a2, .inl a3, .inr (.inr (.inr ()))] [] 229 jr0 h
      refine jGo_blk qX11_force_16 ?_
      show jGo E l 49 229 229 _ 28 [.inr (.inr (.inl 0)), .inl a1, .inl a2, .inl a3, .inr (.inr (.inr ()))] [.inl (-1)] 229 jr0 h
      refine jGo_blk qX11_force_28 ?_
      refine And.intro (fun c22 => ?_) (fun c22 => ?_)
      · replace c22 : (-1 : Int) = 0 := c22
        exfalso; omega
      · replace c22 : ¬ (-1 : Int) = 0 := by first | exact c22 | exact Int.not_le.mp c22 | exact Int.not_lt.mp c22 | exact Decidable.not_not.mp c22
        refine st_cv (na := 1) (st := [.inl (-1), .inr (.inr (.inl 0))]) jo_0 rfl rfl rfl (c_X11_refused (-1) h (by omega)) rfl ?_
        rintro _ _ g24 ⟨rfl, ft23, t23, rfl, ht23, zt23⟩ kt23
        replace kt23 : -2147483648 ≤ t23 ∧ t23 ≤ 2147483647 := kt23
        replace ht23 : -7 ≤ t23 ∧ t23 ≤ -1 := ht23
        have fg24 : jfr w_X11_force h g24 := jfr_tr f0 ft23 (fun i k q => by unfold w_X11_refused at q; unfold w_X11_force; omega)
        replace zt23 : t23 = (-1 : Int) := zt23
        exact st_r0 (ls := []) ⟨rfl, rfl, fg24, t23, rfl, (by omega), (by unfold P_X11_force; by_cases zz : t23 = -4 <;> first | exact Or.inl (by omega) | exact Or.inr (Or.inl (by omega)) | exact Or.inr (Or.inr (Or.inl (by omega))))⟩

def k_X12_forceAt (a1 : Int) (a2 : Int) (a3 : Int) (h : JH) (v : Option JV) (r' g : JH) : Prop := r' = jr0 ∧ h = g ∧ ∃ x : Int, v = some (.inl x) ∧ (0 ≤ x ∧ x ≤ 200) ∧ (x = (jmv (h 182) (h 183) (h 184) (h 185) a1 a2 a3 (h 176 6).toNat).1)
set_option maxHeartbeats 4000000 in
theorem c_X12_forceAt {E : JE} {l : Launch} (a1 : Int) (a2 : Int) (a3 : Int) (h : JH) : jMt E l 50 [.inr (.inr (.inl 176)), .inl a1, .inl a2, .inl a3] 229 jr0 h (k_X12_forceAt a1 a2 a3 h) := by
  refine jMt0 (nL := 8) (ls := [.inr (.inr (.inl 176)), .inl a1, .inl a2, .inl a3, .inr (.inr (.inr ())), .inr (.inr (.inr ())), .inr (.inr (.inr ())), .inr (.inr (.inr ()))]) (by decide +kernel) (by decide +kernel) (by decide +kernel) rfl rfl ?_
  refine jGo_bd (fun hbd => ?_)
  have hb0 := (jbf_12_6 jo_176 _).1 (hbd 176 6)
  have key : ∀ N : Nat, (∀ (x4 : Int) (x5 : Int) (x6 : Int) (x7 : JV), (0 ≤ x4 ∧ x4 ≤ 200 ∧ (-1) ≤ x5 ∧ x5 ≤ 2000 ∧ 0 ≤ x6 ∧ x6 ≤ 40) → ((x4, x5) = jmv (h 182) (h 183) (h 184) (h 185) a1 a2 a3 (x6).toNat) → (0 ≤ x6 ∧ x6 ≤ h 176 6) → (40 - x6) < (N : Int) → jGo E l 50 229 229 (jRK (k_X12_forceAt a1 a2 a3 h)) 19 [.inr (.inr (.inl 176)), .inl a1, .inl a2, .inl a3, .inl x4, .inl x5, .inl x6, x7] [] 229 jr0 h) := by
    intro N
    induction N with
    | zero => exact fun _ _ _ _ hi hx0 hx1 hN => absurd hN (by omega)
    | succ N ih =>
      intro x4 x5 x6 x7 hi hx0 hx1 hN
      refine jGo_blk qX12_forceAt_19 ?_
      refine st_gi jo_176 (fun v1 ev1 b2 => ?_)
      replace ev1 : v1 = h 176 6 := ev1
      replace b2 := (jbf_12_6 jo_176 _).1 b2
      refine And.intro (fun c3 => ?_) (fun c3 => ?_)
      · replace c3 : v1 ≤ x6 := c3
        show jGo E l 50 229 229 _ 114 [.inr (.inr (.inl 176)), .inl a1, .inl a2, .inl a3, .inl x4, .inl x5, .inl x6, x7] [] 229 jr0 h
        refine jGo_blk qX12_forceAt_114 ?_
        exact st_r0 (ls := []) ⟨rfl, rfl, rfl, x4, rfl, (by omega), (by rw [show h 176 6 = x6 by omega, ← hx0] <;> rfl)⟩
      · replace c3 : x6 < v1 := by first | exact c3 | exact Int.not_le.mp c3 | exact Int.not_lt.mp c3 | exact Decidable.not_not.mp c3
        refine st_gr jo_176 jr_176_7 ?_
        refine st_ai jo_182 (show 0 ≤ x6 by omega) (show x6 < ((40 : Nat) : Int) by omega) (fun v4 ev4 b5 => ?_)
        replace ev4 : v4 = h 182 x6 := ev4
        replace b5 := (jba_182 x6 _).1 b5
        refine And.intro (fun c6 => ?_) (fun c6 => ?_)
        · replace c6 : ¬ v4 = a1 := c6
          show jGo E l 50 229 229 _ 70 [.inr (.inr (.inl 176)), .inl a1, .inl a2, .inl a3, .inl x4, .inl x5, .inl x6, x7] [] 229 jr0 h
          refine jGo_blk qX12_forceAt_70 ?_
          show jGo E l 50 229 229 _ 71 [.inr (.inr (.inl 176)), .inl a1, .inl a2, .inl a3, .inl x4, .inl x5, .inl x6, x7] [.inl 0] 229 jr0 h
          refine jGo_blk qX12_forceAt_71 ?_
          refine And.intro (fun c7 => ?_) (fun c7 => ?_)
          · replace c7 : (0 : Int) = 0 := c7
            show jGo E l 50 229 229 _ 108 [.inr (.inr (.inl 176)), .inl a1, .inl a2, .inl a3, .inl x4, .inl x5, .inl x6, .inl 0] [] 229 jr0 h
            refine jGo_blk qX12_forceAt_108 ?_
            have e8 : jw32 (x6 + 1) = x6 + 1 := j32e (by omega) (by omega)
            show jGo E l 50 229 229 _ 19 [.inr (.inr (.inl 176)), .inl a1, .inl a2, .inl a3, .inl x4, .inl x5, .inl (jw32 (x6 + 1)), .inl 0] [] 229 jr0 h
            exact ih x4 x5 (jw32 (x6 + 1)) (.inl 0) (by omega) (by rw [show jw32 (x6 + 1) = x6 + 1 by omega, jmv_s (by omega), ← hx0]; exact (if_neg (fun q => by have q1 := q.1.1; have q2 := q.1.2.1; have q3 := q.1.2.2; have q4 : x5 ≤ h 185 x6 := q.2; omega)).symm) (by omega) (by omega)
          · replace c7 : ¬ (0 : Int) = 0 := by first | exact c7 | exact Int.not_le.mp c7 | exact Int.not_lt.mp c7 | exact Decidable.not_not.mp c7
            exfalso; omega
        · replace c6 : v4 = a1 := by first | exact c6 | exact Int.not_le.mp c6 | exact Int.not_lt.mp c6 | exact Decidable.not_not.mp c6
          refine And.intro (fun c9 => ?_) (fun c9 => ?_)
          · replace c9 : 1 < a1 := c9
            show jGo E l 50 229 229 _ 55 [.inr (.inr (.inl 176)), .inl a1, .inl a2, .inl a3, .inl x4, .inl x5, .inl x6, x7] [] 229 jr0 h
            refine jGo_blk qX12_forceAt_55 ?_
            refine st_gr jo_176 jr_176_10 ?_
            refine st_ai jo_185 (show 0 ≤ x6 by omega) (show x6 < ((40 : Nat) : Int) by omega) (fun v10 ev10 b11 => ?_)
            replace ev10 : v10 = h 185 x6 := ev10
            replace b11 := (jba_185 x6 _).1 b11
            refine And.intro (fun c12 => ?_) (fun c12 => ?_)
            · replace c12 : a3 < v10 := c12
              show jGo E l 50 229 229 _ 70 [.inr (.inr (.inl 176)), .inl a1, .inl a2, .inl a3, .inl x4, .inl x5, .inl x6, x7] [] 229 jr0 h
              refine jGo_blk qX12_forceAt_70 ?_
              show jGo E l 50 229 229 _ 71 [.inr (.inr (.inl 176)), .inl a1, .inl a2, .inl a3, .inl x4, .inl x5, .inl x6, x7] [.inl 0] 229 jr0 h
              refine jGo_blk qX12_forceAt_71 ?_
              refine And.intro (fun c13 => ?_) (fun c13 => ?_)
              · replace c13 : (0 : Int) = 0 := c13
                show jGo E l 50 229 229 _ 108 [.inr (.inr (.inl 176)), .inl a1, .inl a2, .inl a3, .inl x4, .inl x5, .inl x6, .inl 0] [] 229 jr0 h
                refine jGo_blk qX12_forceAt_108 ?_
                have e14 : jw32 (x6 + 1) = x6 + 1 := j32e (by omega) (by omega)
                show jGo E l 50 229 229 _ 19 [.inr (.inr (.inl 176)), .inl a1, .inl a2, .inl a3, .inl x4, .inl x5, .inl (jw32 (x6 + 1)), .inl 0] [] 229 jr0 h
                exact ih x4 x5 (jw32 (x6 + 1)) (.inl 0) (by omega) (by rw [show jw32 (x6 + 1) = x6 + 1 by omega, jmv_s (by omega), ← hx0]; exact (if_neg (fun q => by have q1 := q.1.1; have q2 := q.1.2.1; have q3 := q.1.2.2; have q4 : x5 ≤ h 185 x6 := q.2; omega)).symm) (by omega) (by omega)
              · replace c13 : ¬ (0 : Int) = 0 := by first | exact c13 | exact Int.not_le.mp c13 | exact Int.not_lt.mp c13 | exact Decidable.not_not.mp c13
                exfalso; omega
            · replace c12 : v10 ≤ a3 := by first | exact c12 | exact Int.not_le.mp c12 | exact Int.not_lt.mp c12 | exact Decidable.not_not.mp c12
              show jGo E l 50 229 229 _ 71 [.inr (.inr (.inl 176)), .inl a1, .inl a2, .inl a3, .inl x4, .inl x5, .inl x6, x7] [.inl 1] 229 jr0 h
              refine jGo_blk qX12_forceAt_71 ?_
              refine And.intro (fun c15 => ?_) (fun c15 => ?_)
              · replace c15 : (1 : Int) = 0 := c15
                exfalso; omega
              · replace c15 : ¬ (1 : Int) = 0 := by first | exact c15 | exact Int.not_le.mp c15 | exact Int.not_lt.mp c15 | exact Decidable.not_not.mp c15
                refine st_gr jo_176 jr_176_10 ?_
                refine st_ai jo_185 (show 0 ≤ x6 by omega) (show x6 < ((40 : Nat) : Int) by omega) (fun v16 ev16 b17 => ?_)
                replace ev16 : v16 = h 185 x6 := ev16
                replace b17 := (jba_185 x6 _).1 b17
                refine And.intro (fun c18 => ?_) (fun c18 => ?_)
                · replace c18 : v16 < x5 := c18
                  show jGo E l 50 229 229 _ 108 [.inr (.inr (.inl 176)), .inl a1, .inl a2, .inl a3, .inl x4, .inl x5, .inl x6, .inl 1] [] 229 jr0 h
                  refine jGo_blk qX12_forceAt_108 ?_
                  have e19 : jw32 (x6 + 1) = x6 + 1 := j32e (by omega) (by omega)
                  show jGo E l 50 229 229 _ 19 [.inr (.inr (.inl 176)), .inl a1, .inl a2, .inl a3, .inl x4, .inl x5, .inl (jw32 (x6 + 1)), .inl 1] [] 229 jr0 h
                  exact ih x4 x5 (jw32 (x6 + 1)) (.inl 1) (by omega) (by rw [show jw32 (x6 + 1) = x6 + 1 by omega, jmv_s (by omega), ← hx0]; exact (if_neg (fun q => by have q1 := q.1.1; have q2 := q.1.2.1; have q3 := q.1.2.2; have q4 : x5 ≤ h 185 x6 := q.2; omega)).symm) (by omega) (by omega)
                · replace c18 : x5 ≤ v16 := by first | exact c18 | exact Int.not_le.mp c18 | exact Int.not_lt.mp c18 | exact Decidable.not_not.mp c18
                  refine st_gr jo_176 jr_176_9 ?_
                  refine st_ai jo_184 (show 0 ≤ x6 by omega) (show x6 < ((40 : Nat) : Int) by omega) (fun v20 ev20 b21 => ?_)
                  replace ev20 : v20 = h 184 x6 := ev20
                  replace b21 := (jba_184 x6 _).1 b21
                  refine st_gr jo_176 jr_176_10 ?_
                  refine st_ai jo_185 (show 0 ≤ x6 by omega) (show x6 < ((40 : Nat) : Int) by omega) (fun v22 ev22 b23 => ?_)
                  replace ev22 : v22 = h 185 x6 := ev22
                  replace b23 := (jba_185 x6 _).1 b23
                  show jGo E l 50 229 229 _ 108 [.inr (.inr (.inl 176)), .inl a1, .inl a2, .inl a3, .inl v20, .inl v22, .inl x6, .inl 1] [] 229 jr0 h
                  refine jGo_blk qX12_forceAt_108 ?_
                  have e24 : jw32 (x6 + 1) = x6 + 1 := j32e (by omega) (by omega)
                  show jGo E l 50 229 229 _ 19 [.inr (.inr (.inl 176)), .inl a1, .inl a2, .inl a3, .inl v20, .inl v22, .inl (jw32 (x6 + 1)), .inl 1] [] 229 jr0 h
                  exact ih v20 v22 (jw32 (x6 + 1)) (.inl 1) (by omega) (by rw [show jw32 (x6 + 1) = x6 + 1 by omega, jmv_s (by omega), ← hx0]; rw [ev20, ev22]; exact (if_pos ⟨⟨by omega, by omega, by omega⟩, (show x5 ≤ h 185 x6 by omega)⟩).symm) (by omega) (by omega)
          · replace c9 : a1 ≤ 1 := by first | exact c9 | exact Int.not_le.mp c9 | exact Int.not_lt.mp c9 | exact Decidable.not_not.mp c9
            refine st_gr jo_176 jr_176_8 ?_
            refine st_ai jo_183 (show 0 ≤ x6 by omega) (show x6 < ((40 : Nat) : Int) by omega) (fun v25 ev25 b26 => ?_)
            replace ev25 : v25 = h 183 x6 := ev25
            replace b26 := (jba_183 x6 _).1 b26
            refine And.intro (fun c27 => ?_) (fun c27 => ?_)
            · replace c27 : ¬ v25 = a2 := c27
              show jGo E l 50 229 229 _ 70 [.inr (.inr (.inl 176)), .inl a1, .inl a2, .inl a3, .inl x4, .inl x5, .inl x6, x7] [] 229 jr0 h
              refine jGo_blk qX12_forceAt_70 ?_
              show jGo E l 50 229 229 _ 71 [.inr (.inr (.inl 176)), .inl a1, .inl a2, .inl a3, .inl x4, .inl x5, .inl x6, x7] [.inl 0] 229 jr0 h
              refine jGo_blk qX12_forceAt_71 ?_
              refine And.intro (fun c28 => ?_) (fun c28 => ?_)
              · replace c28 : (0 : Int) = 0 := c28
                show jGo E l 50 229 229 _ 108 [.inr (.inr (.inl 176)), .inl a1, .inl a2, .inl a3, .inl x4, .inl x5, .inl x6, .inl 0] [] 229 jr0 h
                refine jGo_blk qX12_forceAt_108 ?_
                have e29 : jw32 (x6 + 1) = x6 + 1 := j32e (by omega) (by omega)
                show jGo E l 50 229 229 _ 19 [.inr (.inr (.inl 176)), .inl a1, .inl a2, .inl a3, .inl x4, .inl x5, .inl (jw32 (x6 + 1)), .inl 0] [] 229 jr0 h
                exact ih x4 x5 (jw32 (x6 + 1)) (.inl 0) (by omega) (by rw [show jw32 (x6 + 1) = x6 + 1 by omega, jmv_s (by omega), ← hx0]; exact (if_neg (fun q => by have q1 := q.1.1; have q2 := q.1.2.1; have q3 := q.1.2.2; have q4 : x5 ≤ h 185 x6 := q.2; omega)).symm) (by omega) (by omega)
              · replace c28 : ¬ (0 : Int) = 0 := by first | exact c28 | exact Int.not_le.mp c28 | exact Int.not_lt.mp c28 | exact Decidable.not_not.mp c28
                exfalso; omega
            · replace c27 : v25 = a2 := by first | exact c27 | exact Int.not_le.mp c27 | exact Int.not_lt.mp c27 | exact Decidable.not_not.mp c27
              show jGo E l 50 229 229 _ 55 [.inr (.inr (.inl 176)), .inl a1, .inl a2, .inl a3, .inl x4, .inl x5, .inl x6, x7] [] 229 jr0 h
              refine jGo_blk qX12_forceAt_55 ?_
              refine st_gr jo_176 jr_176_10 ?_
              refine st_ai jo_185 (show 0 ≤ x6 by omega) (show x6 < ((40 : Nat) : Int) by omega) (fun v30 ev30 b31 => ?_)
              replace ev30 : v30 = h 185 x6 := ev30
              replace b31 := (jba_185 x6 _).1 b31
              refine And.intro (fun c32 => ?_) (fun c32 => ?_)
              · replace c32 : a3 < v30 := c32
                show jGo E l 50 229 229 _ 70 [.inr (.inr (.inl 176)), .inl a1, .inl a2, .inl a3, .inl x4, .inl x5, .inl x6, x7] [] 229 jr0 h
                refine jGo_blk qX12_forceAt_70 ?_
                show jGo E l 50 229 229 _ 71 [.inr (.inr (.inl 176)), .inl a1, .inl a2, .inl a3, .inl x4, .inl x5, .inl x6, x7] [.inl 0] 229 jr0 h
                refine jGo_blk qX12_forceAt_71 ?_
                refine And.intro (fun c33 => ?_) (fun c33 => ?_)
                · replace c33 : (0 : Int) = 0 := c33
                  show jGo E l 50 229 229 _ 108 [.inr (.inr (.inl 176)), .inl a1, .inl a2, .inl a3, .inl x4, .inl x5, .inl x6, .inl 0] [] 229 jr0 h
                  refine jGo_blk qX12_forceAt_108 ?_
                  have e34 : jw32 (x6 + 1) = x6 + 1 := j32e (by omega) (by omega)
                  show jGo E l 50 229 229 _ 19 [.inr (.inr (.inl 176)), .inl a1, .inl a2, .inl a3, .inl x4, .inl x5, .inl (jw32 (x6 + 1)), .inl 0] [] 229 jr0 h
                  exact ih x4 x5 (jw32 (x6 + 1)) (.inl 0) (by omega) (by rw [show jw32 (x6 + 1) = x6 + 1 by omega, jmv_s (by omega), ← hx0]; exact (if_neg (fun q => by have q1 := q.1.1; have q2 := q.1.2.1; have q3 := q.1.2.2; have q4 : x5 ≤ h 185 x6 := q.2; omega)).symm) (by omega) (by omega)
                · replace c33 : ¬ (0 : Int) = 0 := by first | exact c33 | exact Int.not_le.mp c33 | exact Int.not_lt.mp c33 | exact Decidable.not_not.mp c33
                  exfalso; omega
              · replace c32 : v30 ≤ a3 := by first | exact c32 | exact Int.not_le.mp c32 | exact Int.not_lt.mp c32 | exact Decidable.not_not.mp c32
                show jGo E l 50 229 229 _ 71 [.inr (.inr (.inl 176)), .inl a1, .inl a2, .inl a3, .inl x4, .inl x5, .inl x6, x7] [.inl 1] 229 jr0 h
                refine jGo_blk qX12_forceAt_71 ?_
                refine And.intro (fun c35 => ?_) (fun c35 => ?_)
                · replace c35 : (1 : Int) = 0 := c35
                  exfalso; omega
                · replace c35 : ¬ (1 : Int) = 0 := by first | exact c35 | exact Int.not_le.mp c35 | exact Int.not_lt.mp c35 | exact Decidable.not_not.mp c35
                  refine st_gr jo_176 jr_176_10 ?_
                  refine st_ai jo_185 (show 0 ≤ x6 by omega) (show x6 < ((40 : Nat) : Int) by omega) (fun v36 ev36 b37 => ?_)
                  replace ev36 : v36 = h 185 x6 := ev36
                  replace b37 := (jba_185 x6 _).1 b37
                  refine And.intro (fun c38 => ?_) (fun c38 => ?_)
                  · replace c38 : v36 < x5 := c38
                    show jGo E l 50 229 229 _ 108 [.inr (.inr (.inl 176)), .inl a1, .inl a2, .inl a3, .inl x4, .inl x5, .inl x6, .inl 1] [] 229 jr0 h
                    refine jGo_blk qX12_forceAt_108 ?_
                    have e39 : jw32 (x6 + 1) = x6 + 1 := j32e (by omega) (by omega)
                    show jGo E l 50 229 229 _ 19 [.inr (.inr (.inl 176)), .inl a1, .inl a2, .inl a3, .inl x4, .inl x5, .inl (jw32 (x6 + 1)), .inl 1] [] 229 jr0 h
                    exact ih x4 x5 (jw32 (x6 + 1)) (.inl 1) (by omega) (by rw [show jw32 (x6 + 1) = x6 + 1 by omega, jmv_s (by omega), ← hx0]; exact (if_neg (fun q => by have q1 := q.1.1; have q2 := q.1.2.1; have q3 := q.1.2.2; have q4 : x5 ≤ h 185 x6 := q.2; omega)).symm) (by omega) (by omega)
                  · replace c38 : x5 ≤ v36 := by first | exact c38 | exact Int.not_le.mp c38 | exact Int.not_lt.mp c38 | exact Decidable.not_not.mp c38
                    refine st_gr jo_176 jr_176_9 ?_
                    refine st_ai jo_184 (show 0 ≤ x6 by omega) (show x6 < ((40 : Nat) : Int) by omega) (fun v40 ev40 b41 => ?_)
                    replace ev40 : v40 = h 184 x6 := ev40
                    replace b41 := (jba_184 x6 _).1 b41
                    refine st_gr jo_176 jr_176_10 ?_
                    refine st_ai jo_185 (show 0 ≤ x6 by omega) (show x6 < ((40 : Nat) : Int) by omega) (fun v42 ev42 b43 => ?_)
                    replace ev42 : v42 = h 185 x6 := ev42
                    replace b43 := (jba_185 x6 _).1 b43
                    show jGo E l 50 229 229 _ 108 [.inr (.inr (.inl 176)), .inl a1, .inl a2, .inl a3, .inl v40, .inl v42, .inl x6, .inl 1] [] 229 jr0 h
                    refine jGo_blk qX12_forceAt_108 ?_
                    have e44 : jw32 (x6 + 1) = x6 + 1 := j32e (by omega) (by omega)
                    show jGo E l 50 229 229 _ 19 [.inr (.inr (.inl 176)), .inl a1, .inl a2, .inl a3, .inl v40, .inl v42, .inl (jw32 (x6 + 1)), .inl 1] [] 229 jr0 h
                    exact ih v40 v42 (jw32 (x6 + 1)) (.inl 1) (by omega) (by rw [show jw32 (x6 + 1) = x6 + 1 by omega, jmv_s (by omega), ← hx0]; rw [ev40, ev42]; exact (if_pos ⟨⟨by omega, by omega, by omega⟩, (show x5 ≤ h 185 x6 by omega)⟩).symm) (by omega) (by omega)
  refine jGo_blk qX12_forceAt_0 ?_
  refine And.intro (fun c45 => ?_) (fun c45 => ?_)
  · replace c45 : ¬ a1 = 3 := c45
    show jGo E l 50 229 229 _ 10 [.inr (.inr (.inl 176)), .inl a1, .inl a2, .inl a3, .inr (.inr (.inr ())), .inr (.inr (.inr ())), .inr (.inr (.inr ())), .inr (.inr (.inr ()))] [] 229 jr0 h
    refine jGo_blk qX12_forceAt_10 ?_
    show jGo E l 50 229 229 _ 11 [.inr (.inr (.inl 176)), .inl a1, .inl a2, .inl a3, .inr (.inr (.inr ())), .inr (.inr (.inr ())), .inr (.inr (.inr ())), .inr (.inr (.inr ()))] [.inl 0] 229 jr0 h
    refine jGo_blk qX12_forceAt_11 ?_
    show jGo E l 50 229 229 _ 19 [.inr (.inr (.inl 176)), .inl a1, .inl a2, .inl a3, .inl 0, .inl (-1), .inl 0, .inr (.inr (.inr ()))] [] 229 jr0 h
    exact (key 1000000000000) 0 (-1) 0 (.inr (.inr (.inr ()))) (by omega) (by first | rfl | (show (_, _) = ((if a1 = 3 then (60 : Int) else 0), (-1 : Int)); rw [if_pos (by omega)]) | (show (_, _) = ((if a1 = 3 then (60 : Int) else 0), (-1 : Int)); rw [if_neg (by omega)])) (by omega) (by omega)
  · replace c45 : a1 = 3 := by first | exact c45 | exact Int.not_le.mp c45 | exact Int.not_lt.mp c45 | exact Decidable.not_not.mp c45
    show jGo E l 50 229 229 _ 11 [.inr (.inr (.inl 176)), .inl a1, .inl a2, .inl a3, .inr (.inr (.inr ())), .inr (.inr (.inr ())), .inr (.inr (.inr ())), .inr (.inr (.inr ()))] [.inl 60] 229 jr0 h
    refine jGo_blk qX12_forceAt_11 ?_
    show jGo E l 50 229 229 _ 19 [.inr (.inr (.inl 176)), .inl a1, .inl a2, .inl a3, .inl 60, .inl (-1), .inl 0, .inr (.inr (.inr ()))] [] 229 jr0 h
    exact (key 1000000000000) 60 (-1) 0 (.inr (.inr (.inr ()))) (by omega) (by first | rfl | (show (_, _) = ((if a1 = 3 then (60 : Int) else 0), (-1 : Int)); rw [if_pos (by omega)]) | (show (_, _) = ((if a1 = 3 then (60 : Int) else 0), (-1 : Int)); rw [if_neg (by omega)])) (by omega) (by omega)

def w_X12_force (i k : Int) : Prop := (i = 219)
def k_X12_force (a1 : Int) (a2 : Int) (a3 : Int) (h : JH) (v : Option JV) (r' g : JH) : Prop := r' = jr0 ∧ jfr w_X12_force h g ∧ ∃ x : Int, v = some (.inl x) ∧ (-7 ≤ x ∧ x ≤ 200) ∧ (P_X12_force a1 a2 a3 x h)
set_option maxHeartbeats 4000000 in
theorem c_X12_force {E : JE} {l : Launch} (a1 : Int) (a2 : Int) (a3 : Int) (h : JH) : jMt E l 51 [.inr (.inr (.inl 176)), .inl a1, .inl a2, .inl a3] 229 jr0 h (k_X12_force a1 a2 a3 h) := by
  refine jMt0 (nL := 4) (ls := [.inr (.inr (.inl 176)), .inl a1, .inl a2, .inl a3]) (by decide +kernel) (by decide +kernel) (by decide +kernel) rfl rfl ?_
  have f0 : jfr w_X12_force h h := jfr_rf _ _
  refine jGo_blk qX12_force_0 ?_
  refine st_cs (na := 3) (st := [.inl 3, .inl 0, .inl a1]) rfl rfl rfl (c_X12_in a1 0 3 h) rfl ?_
  rintro _ _ _ ⟨rfl, rfl, t1, rfl, ht1, zt1⟩ kt1
  replace kt1 : -2147483648 ≤ t1 ∧ t1 ≤ 2147483647 := kt1
  replace ht1 : 0 ≤ t1 ∧ t1 ≤ 1 := ht1
  replace zt1 : (t1 = 1 ∧ (0 : Int) ≤ a1 ∧ a1 ≤ (3 : Int)) ∨ (t1 = 0 ∧ ¬ ((0 : Int) ≤ a1 ∧ a1 ≤ (3 : Int))) := zt1
  refine And.intro (fun c3 => ?_) (fun c3 => ?_)
  · replace c3 : t1 = 0 := c3
    show jGo E l 51 229 229 _ 18 [.inr (.inr (.inl 176)), .inl a1, .inl a2, .inl a3] [] 229 jr0 h
    refine jGo_blk qX12_force_18 ?_
    refine st_cv (na := 1) (st := [.inl (-1), .inr (.inr (.inl 176))]) jo_176 rfl rfl rfl (c_X12_refuse (-1) h (by omega)) rfl ?_
    rintro _ _ g5 ⟨rfl, ft4, t4, rfl, ht4, zt4⟩ kt4
    replace kt4 : -2147483648 ≤ t4 ∧ t4 ≤ 2147483647 := kt4
    replace ht4 : -7 ≤ t4 ∧ t4 ≤ -1 := ht4
    have fg5 : jfr w_X12_force h g5 := jfr_tr f0 ft4 (fun i k q => by unfold w_X12_refuse at q; unfold w_X12_force; omega)
    replace zt4 : t4 = (-1 : Int) := zt4
    exact st_r0 (ls := []) ⟨rfl, rfl, fg5, t4, rfl, (by omega), (by unfold P_X12_force; by_cases zz : t4 = -4 <;> first | exact Or.inl (by omega) | exact Or.inr (Or.inl (by omega)) | exact Or.inr (Or.inr (Or.inl (by omega))) | exact Or.inr (Or.inr (Or.inr (by omega))))⟩
  · replace c3 : ¬ t1 = 0 := by first | exact c3 | exact Int.not_le.mp c3 | exact Int.not_lt.mp c3 | exact Decidable.not_not.mp c3
    refine st_cs (na := 3) (st := [.inl 3, .inl 0, .inl a2]) rfl rfl rfl (c_X12_in a2 0 3 h) rfl ?_
    rintro _ _ _ ⟨rfl, rfl, t6, rfl, ht6, zt6⟩ kt6
    replace kt6 : -2147483648 ≤ t6 ∧ t6 ≤ 2147483647 := kt6
    replace ht6 : 0 ≤ t6 ∧ t6 ≤ 1 := ht6
    replace zt6 : (t6 = 1 ∧ (0 : Int) ≤ a2 ∧ a2 ≤ (3 : Int)) ∨ (t6 = 0 ∧ ¬ ((0 : Int) ≤ a2 ∧ a2 ≤ (3 : Int))) := zt6
    refine And.intro (fun c8 => ?_) (fun c8 => ?_)
    · replace c8 : ¬ t6 = 0 := c8
      show jGo E l 51 229 229 _ 24 [.inr (.inr (.inl 176)), .inl a1, .inl a2, .inl a3] [] 229 jr0 h
      refine jGo_blk qX12_force_24 ?_
      refine And.intro (fun c9 => ?_) (fun c9 => ?_)
      · replace c9 : 0 ≤ a3 := c9
        show jGo E l 51 229 229 _ 35 [.inr (.inr (.inl 176)), .inl a1, .inl a2, .inl a3] [] 229 jr0 h
        refine jGo_blk qX12_force_35 ?_
        refine And.intro (fun c10 => ?_) (fun c10 => ?_)
        · replace c10 : a3 ≤ 2000 := c10
          show jGo E l 51 229 229 _ 51 [.inr (.inr (.inl 176)), .inl a1, .inl a2, .inl a3] [] 229 jr0 h
          refine jGo_blk qX12_force_51 ?_
          refine st_cv (na := 3) (st := [.inl a3, .inl a2, .inl a1, .inr (.inr (.inl 176))]) jo_176 rfl rfl rfl (c_X12_forceAt a1 a2 a3 h) rfl ?_
          rintro _ _ _ ⟨rfl, rfl, t11, rfl, ht11, zt11⟩ kt11
          replace kt11 : -2147483648 ≤ t11 ∧ t11 ≤ 2147483647 := kt11
          replace ht11 : 0 ≤ t11 ∧ t11 ≤ 200 := ht11
          replace zt11 : t11 = (jmv (h 182) (h 183) (h 184) (h 185) a1 a2 a3 (h 176 6).toNat).1 := zt11
          show jGo E l 51 229 229 _ 58 [.inr (.inr (.inl 176)), .inl a1, .inl a2, .inl a3] [.inl t11] 229 jr0 h
          refine jGo_blk qX12_force_58 ?_
          exact st_r0 (ls := []) ⟨rfl, rfl, f0, t11, rfl, (by omega), (by unfold P_X12_force; by_cases zz : t11 = -4 <;> first | exact Or.inl (by omega) | exact Or.inr (Or.inl (by omega)) | exact Or.inr (Or.inr (Or.inl (by omega))) | exact Or.inr (Or.inr (Or.inr (by omega))))⟩
        · replace c10 : 2000 < a3 := by first | exact c10 | exact Int.not_le.mp c10 | exact Int.not_lt.mp c10 | exact Decidable.not_not.mp c10
          refine st_cv (na := 1) (st := [.inl (-6), .inr (.inr (.inl 176))]) jo_176 rfl rfl rfl (c_X12_refuse (-6) h (by omega)) rfl ?_
          rintro _ _ g14 ⟨rfl, ft13, t13, rfl, ht13, zt13⟩ kt13
          replace kt13 : -2147483648 ≤ t13 ∧ t13 ≤ 2147483647 := kt13
          replace ht13 : -7 ≤ t13 ∧ t13 ≤ -1 := ht13
          have fg14 : jfr w_X12_force h g14 := jfr_tr f0 ft13 (fun i k q => by unfold w_X12_refuse at q; unfold w_X12_force; omega)
          replace zt13 : t13 = (-6 : Int) := zt13
          show jGo E l 51 229 229 _ 58 [.inr (.inr (.inl 176)), .inl a1, .inl a2, .inl a3] [.inl t13] 229 jr0 g14
          refine jGo_blk qX12_force_58 ?_
          exact st_r0 (ls := []) ⟨rfl, rfl, fg14, t13, rfl, (by omega), (by unfold P_X12_force; by_cases zz : t13 = -4 <;> first | exact Or.inl (by omega) | exact Or.inr (Or.inl (by omega)) | exact Or.inr (Or.inr (Or.inl (by omega))) | exact Or.inr (Or.inr (Or.inr (by omega))))⟩
      · replace c9 : a3 < 0 := by first | exact c9 | exact Int.not_le.mp c9 | exact Int.not_lt.mp c9 | exact Decidable.not_not.mp c9
        refine st_cv (na := 1) (st := [.inl (-4), .inr (.inr (.inl 176))]) jo_176 rfl rfl rfl (c_X12_refuse (-4) h (by omega)) rfl ?_
        rintro _ _ g16 ⟨rfl, ft15, t15, rfl, ht15, zt15⟩ kt15
        replace kt15 : -2147483648 ≤ t15 ∧ t15 ≤ 2147483647 := kt15
        replace ht15 : -7 ≤ t15 ∧ t15 ≤ -1 := ht15
        have fg16 : jfr w_X12_force h g16 := jfr_tr f0 ft15 (fun i k q => by unfold w_X12_refuse at q; unfold w_X12_force; omega)
        replace zt15 : t15 = (-4 : Int) := zt15
        exact st_r0 (ls := []) ⟨rfl, rfl, fg16, t15, rfl, (by omega), (by unfold P_X12_force; by_cases zz : t15 = -4 <;> first | exact Or.inl (by omega) | exact Or.inr (Or.inl (by omega)) | exact Or.inr (Or.inr (Or.inl (by omega))) | exact Or.inr (Or.inr (Or.inr (by omega))))⟩
    · replace c8 : t6 = 0 := by first | exact c8 | exact Int.not_le.mp c8 | exact Int.not_lt.mp c8 | exact Decidable.not_not.mp c8
      show jGo E l 51 229 229 _ 18 [.inr (.inr (.inl 176)), .inl a1, .inl a2, .inl a3] [] 229 jr0 h
      refine jGo_blk qX12_force_18 ?_
      refine st_cv (na := 1) (st := [.inl (-1), .inr (.inr (.inl 176))]) jo_176 rfl rfl rfl (c_X12_refuse (-1) h (by omega)) rfl ?_
      rintro _ _ g18 ⟨rfl, ft17, t17, rfl, ht17, zt17⟩ kt17
      replace kt17 : -2147483648 ≤ t17 ∧ t17 ≤ 2147483647 := kt17
      replace ht17 : -7 ≤ t17 ∧ t17 ≤ -1 := ht17
      have fg18 : jfr w_X12_force h g18 := jfr_tr f0 ft17 (fun i k q => by unfold w_X12_refuse at q; unfold w_X12_force; omega)
      replace zt17 : t17 = (-1 : Int) := zt17
      exact st_r0 (ls := []) ⟨rfl, rfl, fg18, t17, rfl, (by omega), (by unfold P_X12_force; by_cases zz : t17 = -4 <;> first | exact Or.inl (by omega) | exact Or.inr (Or.inl (by omega)) | exact Or.inr (Or.inr (Or.inl (by omega))) | exact Or.inr (Or.inr (Or.inr (by omega))))⟩

def w_X11_task (i k : Int) : Prop := (i = 1) ∨ (18 ≤ i ∧ i ≤ 20) ∨ (22 ≤ i ∧ i ≤ 24) ∨ (i = 111 ∧ 9 ≤ k ∧ k ≤ 11)
def k_X11_task (a1 : Int) (a2 : Int) (a3 : Int) (a4 : Int) (h : JH) (v : Option JV) (r' g : JH) : Prop := r' = jr0 ∧ jfr w_X11_task h g ∧ ∃ x : Int, v = some (.inl x) ∧ (-7 ≤ x ∧ x ≤ 2000) ∧ ((P_X11_task a1 a2 a3 a4 x h g) ∧ jFg (x < 0) h g)
set_option maxHeartbeats 4000000 in
theorem c_X11_task {E : JE} {l : Launch} (a1 : Int) (a2 : Int) (a3 : Int) (a4 : Int) (h : JH) : jMt E l 52 [.inr (.inr (.inl 0)), .inl a1, .inl a2, .inl a3, .inl a4] 229 jr0 h (k_X11_task a1 a2 a3 a4 h) := by
  refine jMt0 (nL := 7) (ls := [.inr (.inr (.inl 0)), .inl a1, .inl a2, .inl a3, .inl a4, .inr (.inr (.inr ())), .inr (.inr (.inr ()))]) (by decide +kernel) (by decide +kernel) (by decide +kernel) rfl rfl ?_
  have f0 : jfr w_X11_task h h := jfr_rf _ _
  refine jGo_blk qX11_task_0 ?_
  refine st_cs (na := 2) (st := [.inl 3, .inl a1]) rfl rfl rfl (c_X11_within a1 3 h) rfl ?_
  rintro _ _ _ ⟨rfl, rfl, t1, rfl, ht1, zt1⟩ kt1
  replace kt1 : -2147483648 ≤ t1 ∧ t1 ≤ 2147483647 := kt1
  replace ht1 : 0 ≤ t1 ∧ t1 ≤ 1 := ht1
  replace zt1 : (t1 = 1 ∧ 0 ≤ a1 ∧ a1 < (3 : Int)) ∨ (t1 = 0 ∧ ¬ (0 ≤ a1 ∧ a1 < (3 : Int))) := zt1
  refine And.intro (fun c3 => ?_) (fun c3 => ?_)
  · replace c3 : t1 = 0 := c3
    show jGo E l 52 229 229 _ 25 [.inr (.inr (.inl 0)), .inl a1, .inl a2, .inl a3, .inl a4, .inr (.inr (.inr ())), .inr (.inr (.inr ()))] [] 229 jr0 h
    refine jGo_blk qX11_task_25 ?_
    show jGo E l 52 229 229 _ 38 [.inr (.inr (.inl 0)), .inl a1, .inl a2, .inl a3, .inl a4, .inr (.inr (.inr ())), .inr (.inr (.inr ()))] [.inl (-1)] 229 jr0 h
    refine jGo_blk qX11_task_38 ?_
    refine And.intro (fun c4 => ?_) (fun c4 => ?_)
    · replace c4 : (-1 : Int) = 0 := c4
      exfalso; omega
    · replace c4 : ¬ (-1 : Int) = 0 := by first | exact c4 | exact Int.not_le.mp c4 | exact Int.not_lt.mp c4 | exact Decidable.not_not.mp c4
      refine st_cv (na := 1) (st := [.inl (-1), .inr (.inr (.inl 0))]) jo_0 rfl rfl rfl (c_X11_refused (-1) h (by omega)) rfl ?_
      rintro _ _ g6 ⟨rfl, ft5, t5, rfl, ht5, zt5⟩ kt5
      replace kt5 : -2147483648 ≤ t5 ∧ t5 ≤ 2147483647 := kt5
      replace ht5 : -7 ≤ t5 ∧ t5 ≤ -1 := ht5
      have fg6 : jfr w_X11_task h g6 := jfr_tr f0 ft5 (fun i k q => by unfold w_X11_refused at q; unfold w_X11_task; omega)
      replace zt5 : t5 = (-1 : Int) := zt5
      have hs7 : ∀ i k : Int, 22 ≤ i → i ≤ 24 → g6 i k = h i k := fun i k p1 p2 => (ft5 i k (by unfold w_X11_refused; omega))
      have hs8 : ∀ i k : Int, 18 ≤ i → i ≤ 20 → g6 i k = h i k := fun i k p1 p2 => (ft5 i k (by unfold w_X11_refused; omega))
      exact st_r0 (ls := []) ⟨rfl, rfl, fg6, t5, rfl, (by omega), (by refine ⟨by unfold P_X11_task; by_cases zz : t5 = -4 <;> first | exact Or.inl ⟨by omega, hs7, hs8⟩ | exact Or.inr (Or.inl ⟨by omega, hs7, hs8⟩) | exact Or.inr (Or.inr (Or.inl ⟨by omega, hs7, hs8⟩)), Or.inr ⟨by omega, fun i k p1 => (ft5 i k (by unfold w_X11_refused; omega))⟩⟩)⟩
  · replace c3 : ¬ t1 = 0 := by first | exact c3 | exact Int.not_le.mp c3 | exact Int.not_lt.mp c3 | exact Decidable.not_not.mp c3
    refine st_cs (na := 2) (st := [.inl 6, .inl a2]) rfl rfl rfl (c_X11_within a2 6 h) rfl ?_
    rintro _ _ _ ⟨rfl, rfl, t9, rfl, ht9, zt9⟩ kt9
    replace kt9 : -2147483648 ≤ t9 ∧ t9 ≤ 2147483647 := kt9
    replace ht9 : 0 ≤ t9 ∧ t9 ≤ 1 := ht9
    replace zt9 : (t9 = 1 ∧ 0 ≤ a2 ∧ a2 < (6 : Int)) ∨ (t9 = 0 ∧ ¬ (0 ≤ a2 ∧ a2 < (6 : Int))) := zt9
    refine And.intro (fun c11 => ?_) (fun c11 => ?_)
    · replace c11 : t9 = 0 := c11
      show jGo E l 52 229 229 _ 25 [.inr (.inr (.inl 0)), .inl a1, .inl a2, .inl a3, .inl a4, .inr (.inr (.inr ())), .inr (.inr (.inr ()))] [] 229 jr0 h
      refine jGo_blk qX11_task_25 ?_
      show jGo E l 52 229 229 _ 38 [.inr (.inr (.inl 0)), .inl a1, .inl a2, .inl a3, .inl a4, .inr (.inr (.inr ())), .inr (.inr (.inr ()))] [.inl (-1)] 229 jr0 h
      refine jGo_blk qX11_task_38 ?_
      refine And.intro (fun c12 => ?_) (fun c12 => ?_)
      · replace c12 : (-1 : Int) = 0 := c12
        exfalso; omega
      · replace c12 : ¬ (-1 : Int) = 0 := by first | exact c12 | exact Int.not_le.mp c12 | exact Int.not_lt.mp c12 | exact Decidable.not_not.mp c12
        refine st_cv (na := 1) (st := [.inl (-1), .inr (.inr (.inl 0))]) jo_0 rfl rfl rfl (c_X11_refused (-1) h (by omega)) rfl ?_
        rintro _ _ g14 ⟨rfl, ft13, t13, rfl, ht13, zt13⟩ kt13
        replace kt13 : -2147483648 ≤ t13 ∧ t13 ≤ 2147483647 := kt13
        replace ht13 : -7 ≤ t13 ∧ t13 ≤ -1 := ht13
        have fg14 : jfr w_X11_task h g14 := jfr_tr f0 ft13 (fun i k q => by unfold w_X11_refused at q; unfold w_X11_task; omega)
        replace zt13 : t13 = (-1 : Int) := zt13
        have hs15 : ∀ i k : Int, 22 ≤ i → i ≤ 24 → g14 i k = h i k := fun i k p1 p2 => (ft13 i k (by unfold w_X11_refused; omega))
        have hs16 : ∀ i k : Int, 18 ≤ i → i ≤ 20 → g14 i k = h i k := fun i k p1 p2 => (ft13 i k (by unfold w_X11_refused; omega))
        exact st_r0 (ls := []) ⟨rfl, rfl, fg14, t13, rfl, (by omega), (by refine ⟨by unfold P_X11_task; by_cases zz : t13 = -4 <;> first | exact Or.inl ⟨by omega, hs15, hs16⟩ | exact Or.inr (Or.inl ⟨by omega, hs15, hs16⟩) | exact Or.inr (Or.inr (Or.inl ⟨by omega, hs15, hs16⟩)), Or.inr ⟨by omega, fun i k p1 => (ft13 i k (by unfold w_X11_refused; omega))⟩⟩)⟩
    · replace c11 : ¬ t9 = 0 := by first | exact c11 | exact Int.not_le.mp c11 | exact Int.not_lt.mp c11 | exact Decidable.not_not.mp c11
      refine st_cs (na := 2) (st := [.inl 4, .inl a3]) rfl rfl rfl (c_X11_within a3 4 h) rfl ?_
      rintro _ _ _ ⟨rfl, rfl, t17, rfl, ht17, zt17⟩ kt17
      replace kt17 : -2147483648 ≤ t17 ∧ t17 ≤ 2147483647 := kt17
      replace ht17 : 0 ≤ t17 ∧ t17 ≤ 1 := ht17
      replace zt17 : (t17 = 1 ∧ 0 ≤ a3 ∧ a3 < (4 : Int)) ∨ (t17 = 0 ∧ ¬ (0 ≤ a3 ∧ a3 < (4 : Int))) := zt17
      refine And.intro (fun c19 => ?_) (fun c19 => ?_)
      · replace c19 : ¬ t17 = 0 := c19
        show jGo E l 52 229 229 _ 29 [.inr (.inr (.inl 0)), .inl a1, .inl a2, .inl a3, .inl a4, .inr (.inr (.inr ())), .inr (.inr (.inr ()))] [] 229 jr0 h
        refine jGo_blk qX11_task_29 ?_
        refine st_cs (na := 3) (st := [.inl 2000, .inl 0, .inl a4]) rfl rfl rfl (c_X11_outside a4 0 2000 h) rfl ?_
        rintro _ _ _ ⟨rfl, rfl, t20, rfl, ht20, zt20⟩ kt20
        replace kt20 : -2147483648 ≤ t20 ∧ t20 ≤ 2147483647 := kt20
        replace ht20 : -6 ≤ t20 ∧ t20 ≤ 0 := ht20
        replace zt20 : (t20 = -4 ∧ a4 < (0 : Int)) ∨ (t20 = -6 ∧ (0 : Int) ≤ a4 ∧ (2000 : Int) < a4) ∨ (t20 = 0 ∧ (0 : Int) ≤ a4 ∧ a4 ≤ (2000 : Int)) := zt20
        show jGo E l 52 229 229 _ 38 [.inr (.inr (.inl 0)), .inl a1, .inl a2, .inl a3, .inl a4, .inr (.inr (.inr ())), .inr (.inr (.inr ()))] [.inl t20] 229 jr0 h
        refine jGo_blk qX11_task_38 ?_
        refine And.intro (fun c22 => ?_) (fun c22 => ?_)
        · replace c22 : t20 = 0 := c22
          show jGo E l 52 229 229 _ 52 [.inr (.inr (.inl 0)), .inl a1, .inl a2, .inl a3, .inl a4, .inl t20, .inr (.inr (.inr ()))] [] 229 jr0 h
          refine jGo_blk qX11_task_52 ?_
          refine st_gr jo_0 jr_0_11 ?_
          refine st_cv (na := 0) (st := [.inr (.inr (.inl 111))]) jo_111 rfl rfl rfl (c_X7_forget h) rfl ?_
          rintro _ _ g24 ⟨rfl, ft23, rfl, zt23⟩ kt23
          have fg24 : jfr w_X11_task h g24 := jfr_tr f0 ft23 (fun i k q => by unfold w_X7_forget at q; unfold w_X11_task; omega)
          replace zt23 : g24 111 9 = 0 ∧ g24 111 10 = 0 ∧ g24 111 11 = 0 := zt23
          refine st_gr jo_0 jr_0_4 ?_
          refine st_gr jo_16 jr_16_1 ?_
          refine st_ar jo_21 (by decide) (show 0 ≤ a1 by omega) (show a1 < ((3 : Nat) : Int) by omega) (fun u25 eu25 => ?_)
          replace eu25 : u25 = jr0 21 a1 := eu25
          have qu25 : u25 = 22 + a1 := eu25.trans (jrow_21 a1 (by omega) (by omega)).1
          have ou25 : jF 229 u25 1 6 := by rw [eu25]; exact (jrow_21 a1 (by omega) (by omega)).2.1
          have wu25 : ∀ j v : Int, jbd u25 j v ↔ (0 ≤ v ∧ v ≤ 2000) := by rw [eu25]; exact (jrow_21 a1 (by omega) (by omega)).2.2
          refine st_ai ou25 (show 0 ≤ a2 by omega) (show a2 < ((6 : Nat) : Int) by omega) (fun v26 ev26 b27 => ?_)
          replace ev26 : v26 = g24 u25 a2 := ev26
          replace b27 := (wu25 a2 _).1 b27
          refine st_gr jo_0 jr_0_4 ?_
          refine st_gr jo_16 jr_16_0 ?_
          refine st_ar jo_17 (by decide) (show 0 ≤ a1 by omega) (show a1 < ((3 : Nat) : Int) by omega) (fun u28 eu28 => ?_)
          replace eu28 : u28 = jr0 17 a1 := eu28
          have qu28 : u28 = 18 + a1 := eu28.trans (jrow_17 a1 (by omega) (by omega)).1
          have ou28 : jF 229 u28 1 6 := by rw [eu28]; exact (jrow_17 a1 (by omega) (by omega)).2.1
          have wu28 : ∀ j v : Int, jbd u28 j v ↔ (0 ≤ v ∧ v ≤ 3) := by rw [eu28]; exact (jrow_17 a1 (by omega) (by omega)).2.2
          refine st_si ou28 (show 0 ≤ a2 by omega) (show a2 < ((6 : Nat) : Int) by omega) (fun hx => (wu28 _ _).2 (show 0 ≤ a3 ∧ a3 ≤ 3 by omega)) (fun g29 eg29 => ?_)
          replace eg29 : g29 = jup g24 u28 a2 a3 := eg29
          have fg29 : jfr w_X11_task h g29 := jfr_up fg24 eg29 (by unfold w_X11_task; omega)
          have e30 : g29 u28 a2 = a3 := jup_s eg29
          refine st_gr jo_0 jr_0_4 ?_
          refine st_gr jo_16 jr_16_1 ?_
          refine st_ar jo_21 (by decide) (show 0 ≤ a1 by omega) (show a1 < ((3 : Nat) : Int) by omega) (fun u31 eu31 => ?_)
          replace eu31 : u31 = jr0 21 a1 := eu31
          have qu31 : u31 = 22 + a1 := eu31.trans (jrow_21 a1 (by omega) (by omega)).1
          have ou31 : jF 229 u31 1 6 := by rw [eu31]; exact (jrow_21 a1 (by omega) (by omega)).2.1
          have wu31 : ∀ j v : Int, jbd u31 j v ↔ (0 ≤ v ∧ v ≤ 2000) := by rw [eu31]; exact (jrow_21 a1 (by omega) (by omega)).2.2
          refine st_si ou31 (show 0 ≤ a2 by omega) (show a2 < ((6 : Nat) : Int) by omega) (fun hx => (wu31 _ _).2 (show 0 ≤ a4 ∧ a4 ≤ 2000 by omega)) (fun g32 eg32 => ?_)
          replace eg32 : g32 = jup g29 u31 a2 a4 := eg32
          have fg32 : jfr w_X11_task h g32 := jfr_up fg29 eg32 (by unfold w_X11_task; omega)
          have e33 : g32 u31 a2 = a4 := jup_s eg32
          have e34 : g24 u25 a2 = h u25 a2 := (ft23 u25 a2 (by unfold w_X7_forget; omega))
          have e35 : h u25 a2 = h (22 + a1) a2 := by rw [qu25]
          have hs36 : g32 (22 + a1) a2 = a4 := by
            rw [show 22 + a1 = u31 by omega]
            exact jup_s eg32
          have hs37 : ∀ i k : Int, 22 ≤ i → i ≤ 24 → ¬ (i = 22 + a1 ∧ k = a2) → g32 i k = h i k := fun i k p1 p2 p3 => ((jup_o eg32 (by omega)).trans ((jup_o eg29 (by omega)).trans (ft23 i k (by unfold w_X7_forget; omega))))
          have hs38 : g32 (18 + a1) a2 = a3 := by
            rw [show 18 + a1 = u28 by omega]
            exact (jup_o eg32 (by omega)).trans (jup_s eg29)
          have hs39 : ∀ i k : Int, 18 ≤ i → i ≤ 20 → ¬ (i = 18 + a1 ∧ k = a2) → g32 i k = h i k := fun i k p1 p2 p3 => ((jup_o eg32 (by omega)).trans ((jup_o eg29 (by omega)).trans (ft23 i k (by unfold w_X7_forget; omega))))
          exact st_r0 (ls := []) ⟨rfl, rfl, fg32, v26, rfl, (by omega), (by refine ⟨by unfold P_X11_task; first | exact Or.inr (Or.inr (Or.inr ⟨by omega, ⟨hs36, hs37⟩, ⟨hs38, hs39⟩⟩)), Or.inl ?_⟩; exact ⟨(((jup_o eg32 (by omega)).trans (jup_o eg29 (by omega)))).trans zt23.1, (((jup_o eg32 (by omega)).trans (jup_o eg29 (by omega)))).trans zt23.2.1, (((jup_o eg32 (by omega)).trans (jup_o eg29 (by omega)))).trans zt23.2.2⟩)⟩
        · replace c22 : ¬ t20 = 0 := by first | exact c22 | exact Int.not_le.mp c22 | exact Int.not_lt.mp c22 | exact Decidable.not_not.mp c22
          refine st_cv (na := 1) (st := [.inl t20, .inr (.inr (.inl 0))]) jo_0 rfl rfl rfl (c_X11_refused t20 h (by omega)) rfl ?_
          rintro _ _ g41 ⟨rfl, ft40, t40, rfl, ht40, zt40⟩ kt40
          replace kt40 : -2147483648 ≤ t40 ∧ t40 ≤ 2147483647 := kt40
          replace ht40 : -7 ≤ t40 ∧ t40 ≤ -1 := ht40
          have fg41 : jfr w_X11_task h g41 := jfr_tr f0 ft40 (fun i k q => by unfold w_X11_refused at q; unfold w_X11_task; omega)
          replace zt40 : t40 = t20 := zt40
          have hs42 : ∀ i k : Int, 22 ≤ i → i ≤ 24 → g41 i k = h i k := fun i k p1 p2 => (ft40 i k (by unfold w_X11_refused; omega))
          have hs43 : ∀ i k : Int, 18 ≤ i → i ≤ 20 → g41 i k = h i k := fun i k p1 p2 => (ft40 i k (by unfold w_X11_refused; omega))
          exact st_r0 (ls := []) ⟨rfl, rfl, fg41, t40, rfl, (by omega), (by refine ⟨by unfold P_X11_task; by_cases zz : t40 = -4 <;> first | exact Or.inl ⟨by omega, hs42, hs43⟩ | exact Or.inr (Or.inl ⟨by omega, hs42, hs43⟩) | exact Or.inr (Or.inr (Or.inl ⟨by omega, hs42, hs43⟩)), Or.inr ⟨by omega, fun i k p1 => (ft40 i k (by unfold w_X11_refused; omega))⟩⟩)⟩
      · replace c19 : t17 = 0 := by first | exact c19 | exact Int.not_le.mp c19 | exact Int.not_lt.mp c19 | exact Decidable.not_not.mp c19
        show jGo E l 52 229 229 _ 25 [.inr (.inr (.inl 0)), .inl a1, .inl a2, .inl a3, .inl a4, .inr (.inr (.inr ())), .inr (.inr (.inr ()))] [] 229 jr0 h
        refine jGo_blk qX11_task_25 ?_
        show jGo E l 52 229 229 _ 38 [.inr (.inr (.inl 0)), .inl a1, .inl a2, .inl a3, .inl a4, .inr (.inr (.inr ())), .inr (.inr (.inr ()))] [.inl (-1)] 229 jr0 h
        refine jGo_blk qX11_task_38 ?_
        refine And.intro (fun c44 => ?_) (fun c44 => ?_)
        · replace c44 : (-1 : Int) = 0 := c44
          exfalso; omega
        · replace c44 : ¬ (-1 : Int) = 0 := by first | exact c44 | exact Int.not_le.mp c44 | exact Int.not_lt.mp c44 | exact Decidable.not_not.mp c44
          refine st_cv (na := 1) (st := [.inl (-1), .inr (.inr (.inl 0))]) jo_0 rfl rfl rfl (c_X11_refused (-1) h (by omega)) rfl ?_
          rintro _ _ g46 ⟨rfl, ft45, t45, rfl, ht45, zt45⟩ kt45
          replace kt45 : -2147483648 ≤ t45 ∧ t45 ≤ 2147483647 := kt45
          replace ht45 : -7 ≤ t45 ∧ t45 ≤ -1 := ht45
          have fg46 : jfr w_X11_task h g46 := jfr_tr f0 ft45 (fun i k q => by unfold w_X11_refused at q; unfold w_X11_task; omega)
          replace zt45 : t45 = (-1 : Int) := zt45
          have hs47 : ∀ i k : Int, 22 ≤ i → i ≤ 24 → g46 i k = h i k := fun i k p1 p2 => (ft45 i k (by unfold w_X11_refused; omega))
          have hs48 : ∀ i k : Int, 18 ≤ i → i ≤ 20 → g46 i k = h i k := fun i k p1 p2 => (ft45 i k (by unfold w_X11_refused; omega))
          exact st_r0 (ls := []) ⟨rfl, rfl, fg46, t45, rfl, (by omega), (by refine ⟨by unfold P_X11_task; by_cases zz : t45 = -4 <;> first | exact Or.inl ⟨by omega, hs47, hs48⟩ | exact Or.inr (Or.inl ⟨by omega, hs47, hs48⟩) | exact Or.inr (Or.inr (Or.inl ⟨by omega, hs47, hs48⟩)), Or.inr ⟨by omega, fun i k p1 => (ft45 i k (by unfold w_X11_refused; omega))⟩⟩)⟩
