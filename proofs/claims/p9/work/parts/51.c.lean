def w_X10_drink_29 (i k : Int) : Prop := (i = 30) ∨ (i = 29 ∧ k = 8)
def k_X10_drink_29 (a1 : Int) (h : JH) (v : Option JV) (r' g : JH) : Prop := r' = jr0 ∧ jfr w_X10_drink_29 h g ∧ v = none ∧ (True)
set_option maxHeartbeats 4000000 in
theorem c_X10_drink_29 {E : JE} {l : Launch} (a1 : Int) (h : JH) : jMt E l 82 [.inr (.inr (.inl 29)), .inl a1] 229 jr0 h (k_X10_drink_29 a1 h) := by
  refine jMt0 (nL := 3) (ls := [.inr (.inr (.inl 29)), .inl a1, .inr (.inr (.inr ()))]) (by decide +kernel) (by decide +kernel) (by decide +kernel) rfl rfl ?_
  have f0 : jfr w_X10_drink_29 h h := jfr_rf _ _
  refine jGo_blk qX10_drink_0 ?_
  refine st_gr jo_29 jr_29_0 ?_
  refine st_ai jo_30 (show 0 ≤ 5 by omega) (show 5 < ((6 : Nat) : Int) by omega) (fun v1 ev1 b2 => ?_)
  replace ev1 : v1 = h 30 5 := ev1
  replace b2 := (jba_30 5 _).1 b2
  refine st_m0 rfl (fun v3 m1v3 m2v3 m3v3 => ?_)
  replace m1v3 : v3 ≤ a1 := m1v3; replace m2v3 : v3 ≤ v1 := m2v3; replace m3v3 : v3 = a1 ∨ v3 = v1 := m3v3
  refine st_gr jo_29 jr_29_0 ?_
  refine st_ai jo_30 (show 0 ≤ 5 by omega) (show 5 < ((6 : Nat) : Int) by omega) (fun v4 ev4 b5 => ?_)
  replace ev4 : v4 = h 30 5 := ev4
  replace b5 := (jba_30 5 _).1 b5
  refine st_si jo_30 (show 0 ≤ 5 by omega) (show 5 < ((6 : Nat) : Int) by omega) (fun hx => (jba_30 _ _).2 hx) (fun g6 eg6 => ?_)
  replace eg6 : g6 = jup h 30 5 (jw32 (v4 - v3)) := eg6
  have fg6 : jfr w_X10_drink_29 h g6 := jfr_up f0 eg6 (by unfold w_X10_drink_29; omega)
  have e7 : g6 30 5 = jw32 (v4 - v3) := jup_s eg6
  refine st_gi jo_29 (fun v8 ev8 b9 => ?_)
  replace ev8 : v8 = g6 29 8 := ev8
  replace b9 := (jbf_10_8 jo_29 _).1 b9
  have e10 : g6 29 8 = h 29 8 := jup_o eg6 (by omega)
  refine st_pi jo_29 (fun hx => (jbf_10_8 jo_29 _).2 hx) (fun g11 eg11 => ?_)
  replace eg11 : g11 = jup g6 29 8 (jw32 (v8 + (jw32 (a1 - v3)))) := eg11
  have fg11 : jfr w_X10_drink_29 h g11 := jfr_up fg6 eg11 (by unfold w_X10_drink_29; omega)
  have e12 : g11 29 8 = jw32 (v8 + (jw32 (a1 - v3))) := jup_s eg11
  exact ⟨rfl, rfl, fg11, rfl, trivial⟩

def w_X10_passDay_29_106 (i k : Int) : Prop := (30 ≤ i ∧ i ≤ 31) ∨ (35 ≤ i ∧ i ≤ 83) ∨ (i = 29 ∧ 7 ≤ k ∧ k ≤ 10)
def k_X10_passDay_29_106 (a1 : Int) (a3 : Int) (h : JH) (v : Option JV) (r' g : JH) : Prop := r' = jr0 ∧ jfr w_X10_passDay_29_106 h g ∧ ∃ x : Int, v = some (.inl x) ∧ (True) ∧ (True)
set_option maxHeartbeats 4000000 in
theorem c_X10_passDay_29_106 {E : JE} {l : Launch} (a1 : Int) (a3 : Int) (h : JH) (p1 : 0 ≤ a1 ∧ a1 ≤ 2400) (p3 : 0 ≤ a3 ∧ a3 ≤ 0) : jMt E l 83 [.inr (.inr (.inl 29)), .inl a1, .inr (.inr (.inl 106)), .inl a3, .inr (.inr (.inl 16))] 229 jr0 h (k_X10_passDay_29_106 a1 a3 h) := by
  refine jMt0 (nL := 6) (ls := [.inr (.inr (.inl 29)), .inl a1, .inr (.inr (.inl 106)), .inl a3, .inr (.inr (.inl 16)), .inr (.inr (.inr ()))]) (by decide +kernel) (by decide +kernel) (by decide +kernel) rfl rfl ?_
  have f0 : jfr w_X10_passDay_29_106 h h := jfr_rf _ _
  refine jGo_blk qX10_passDay_0 ?_
  refine st_pi jo_29 (fun hx => (jbf_10_10 jo_29 _).2 (show 0 ≤ 0 ∧ 0 ≤ 1 by omega)) (fun g1 eg1 => ?_)
  replace eg1 : g1 = jup h 29 10 0 := eg1
  have fg1 : jfr w_X10_passDay_29_106 h g1 := jfr_up f0 eg1 (by unfold w_X10_passDay_29_106; omega)
  have e2 : g1 29 10 = 0 := jup_s eg1
  refine st_cv (na := 2) (st := [.inr (.inr (.inl 16)), .inl a1, .inr (.inr (.inl 29))]) jo_29 rfl rfl rfl (c_X10_moveOn_29 a1 g1) rfl ?_
  rintro _ _ g4 ⟨rfl, ft3, t3, rfl, ht3, zt3⟩ kt3
  replace kt3 : -2147483648 ≤ t3 ∧ t3 ≤ 2147483647 := kt3
  have fg4 : jfr w_X10_passDay_29_106 h g4 := jfr_tr fg1 ft3 (fun i k q => by unfold w_X10_moveOn_29 at q; unfold w_X10_passDay_29_106; omega)
  refine st_cv (na := 1) (st := [.inr (.inr (.inl 16)), .inr (.inr (.inl 29))]) jo_29 rfl rfl rfl (c_X10_letIn_29 g4) rfl ?_
  rintro _ _ g6 ⟨rfl, ft5, rfl, zt5⟩ kt5
  have fg6 : jfr w_X10_passDay_29_106 h g6 := jfr_tr fg4 ft5 (fun i k q => by unfold w_X10_letIn_29 at q; unfold w_X10_passDay_29_106; omega)
  refine st_cv (na := 0) (st := [.inr (.inr (.inl 29))]) jo_29 rfl rfl rfl (c_X10_takeGoods_29 g6) rfl ?_
  rintro _ _ g8 ⟨rfl, ft7, rfl, zt7⟩ kt7
  have fg8 : jfr w_X10_passDay_29_106 h g8 := jfr_tr fg6 ft7 (fun i k q => by unfold w_X10_takeGoods_29 at q; unfold w_X10_passDay_29_106; omega)
  refine st_gr jo_106 jr_106_0 ?_
  have e9 : jw32 (a3 * 4) = a3 * 4 := j32e (by omega) (by omega)
  refine st_gr jo_106 jr_106_1 ?_
  refine st_ai jo_108 (show 0 ≤ a3 by omega) (show a3 < ((1 : Nat) : Int) by omega) (fun v10 ev10 b11 => ?_)
  replace ev10 : v10 = g8 108 a3 := ev10
  replace b11 := (jba_108 a3 _).1 b11
  refine st_cv (na := 3) (st := [.inl v10, .inl (jw32 (a3 * 4)), .inr (.inr (.inl 107)), .inr (.inr (.inl 29))]) jo_29 rfl rfl rfl (c_X10_doWork_29_107 (jw32 (a3 * 4)) v10 g8 (by omega)) rfl ?_
  rintro _ _ g13 ⟨rfl, ft12, rfl, zt12⟩ kt12
  have fg13 : jfr w_X10_passDay_29_106 h g13 := jfr_tr fg8 ft12 (fun i k q => by unfold w_X10_doWork_29_107 at q; unfold w_X10_passDay_29_106; omega)
  refine st_gi jo_29 (fun v14 ev14 b15 => ?_)
  replace ev14 : v14 = g13 29 7 := ev14
  replace b15 := (jbf_10_7 jo_29 _).1 b15
  have e16 : g13 29 7 = g8 29 7 := ft12 29 7 (by unfold w_X10_doWork_29_107; omega)
  have e17 : g8 29 7 = g6 29 7 := ft7 29 7 (by unfold w_X10_takeGoods_29; omega)
  have e18 : g6 29 7 = g4 29 7 := ft5 29 7 (by unfold w_X10_letIn_29; omega)
  have e19 : g4 29 7 = g1 29 7 := ft3 29 7 (by unfold w_X10_moveOn_29; omega)
  have e20 : g1 29 7 = h 29 7 := jup_o eg1 (by omega)
  refine st_gr jo_106 jr_106_2 ?_
  refine st_ai jo_109 (show 0 ≤ a3 by omega) (show a3 < ((1 : Nat) : Int) by omega) (fun v21 ev21 b22 => ?_)
  replace ev21 : v21 = g13 109 a3 := ev21
  replace b22 := (jba_109 a3 _).1 b22
  refine st_pi jo_29 (fun hx => (jbf_10_7 jo_29 _).2 hx) (fun g23 eg23 => ?_)
  replace eg23 : g23 = jup g13 29 7 (jw32 (v14 + v21)) := eg23
  have fg23 : jfr w_X10_passDay_29_106 h g23 := jfr_up fg13 eg23 (by unfold w_X10_passDay_29_106; omega)
  have e24 : g23 29 7 = jw32 (v14 + v21) := jup_s eg23
  refine st_gr jo_106 jr_106_3 ?_
  refine st_ai jo_110 (show 0 ≤ a3 by omega) (show a3 < ((1 : Nat) : Int) by omega) (fun v25 ev25 b26 => ?_)
  replace ev25 : v25 = g23 110 a3 := ev25
  replace b26 := (jba_110 a3 _).1 b26
  refine st_cv (na := 1) (st := [.inl v25, .inr (.inr (.inl 29))]) jo_29 rfl rfl rfl (c_X10_drink_29 v25 g23) rfl ?_
  rintro _ _ g28 ⟨rfl, ft27, rfl, zt27⟩ kt27
  have fg28 : jfr w_X10_passDay_29_106 h g28 := jfr_tr fg23 ft27 (fun i k q => by unfold w_X10_drink_29 at q; unfold w_X10_passDay_29_106; omega)
  exact st_r0 (ls := []) ⟨rfl, rfl, fg28, t3, rfl, trivial, trivial⟩

def k_X3_stands (a1 : Int) (h : JH) (v : Option JV) (r' g : JH) : Prop := r' = jr0 ∧ h = g ∧ ∃ x : Int, v = some (.inl x) ∧ (0 ≤ x ∧ x ≤ 1) ∧ (True)
set_option maxHeartbeats 4000000 in
theorem c_X3_stands {E : JE} {l : Launch} (a1 : Int) (h : JH) (p1 : 0 ≤ a1 ∧ a1 ≤ 39) : jMt E l 84 [.inr (.inr (.inl 84)), .inl a1] 229 jr0 h (k_X3_stands a1 h) := by
  refine jMt0 (nL := 2) (ls := [.inr (.inr (.inl 84)), .inl a1]) (by decide +kernel) (by decide +kernel) (by decide +kernel) rfl rfl ?_
  refine jGo_blk qX3_stands_0 ?_
  refine st_gr jo_84 jr_84_4 ?_
  refine st_ai jo_88 (show 0 ≤ a1 by omega) (show a1 < ((40 : Nat) : Int) by omega) (fun v1 ev1 b2 => ?_)
  replace ev1 : v1 = h 88 a1 := ev1
  replace b2 := (jba_88 a1 _).1 b2
  refine And.intro (fun c3 => ?_) (fun c3 => ?_)
  · replace c3 : ¬ v1 = (-9) := c3
    show jGo E l 84 229 229 _ 15 [.inr (.inr (.inl 84)), .inl a1] [] 229 jr0 h
    refine jGo_blk qX3_stands_15 ?_
    show jGo E l 84 229 229 _ 16 [.inr (.inr (.inl 84)), .inl a1] [.inl 0] 229 jr0 h
    refine jGo_blk qX3_stands_16 ?_
    exact st_r1 (ls := []) (show (0 : Int) = 0 ∨ (0 : Int) = 1 by omega) ⟨rfl, rfl, rfl, 0, rfl, (by omega), trivial⟩
  · replace c3 : v1 = (-9) := by first | exact c3 | exact Int.not_le.mp c3 | exact Int.not_lt.mp c3 | exact Decidable.not_not.mp c3
    show jGo E l 84 229 229 _ 16 [.inr (.inr (.inl 84)), .inl a1] [.inl 1] 229 jr0 h
    refine jGo_blk qX3_stands_16 ?_
    exact st_r1 (ls := []) (show (1 : Int) = 0 ∨ (1 : Int) = 1 by omega) ⟨rfl, rfl, rfl, 1, rfl, (by omega), trivial⟩

def w_X3_grow (i k : Int) : Prop := (i = 87)
def k_X3_grow (h : JH) (v : Option JV) (r' g : JH) : Prop := r' = jr0 ∧ jfr w_X3_grow h g ∧ v = none ∧ (∀ t : Int, 0 ≤ t → t < 40 → h 87 t ≤ g 87 t ∧ g 87 t ≤ h 87 t + 9)
set_option maxHeartbeats 4000000 in
theorem c_X3_grow {E : JE} {l : Launch} (h : JH) (q0 : jGok h) : jMt E l 85 [.inr (.inr (.inl 84))] 229 jr0 h (k_X3_grow h) := by
  refine jMt0 (nL := 2) (ls := [.inr (.inr (.inl 84)), .inr (.inr (.inr ()))]) (by decide +kernel) (by decide +kernel) (by decide +kernel) rfl rfl ?_
  have f0 : jfr w_X3_grow h h := jfr_rf _ _
  have key : ∀ N : Nat, (∀ (x1 : Int) (g : JH), (0 ≤ x1 ∧ x1 ≤ 40) → (∀ t : Int, 0 ≤ t → t < 40 → h 87 t ≤ g 87 t ∧ g 87 t ≤ h 87 t + 9 ∧ (x1 ≤ t → g 87 t = h 87 t)) → jfr w_X3_grow h g → (40 - x1) < (N : Int) → jGo E l 85 229 229 (jRK (k_X3_grow h)) 2 [.inr (.inr (.inl 84)), .inl x1] [] 229 jr0 g) := by
    intro N
    induction N with
    | zero => exact fun _ _ hi hx0 _ hN => absurd hN (by omega)
    | succ N ih =>
      intro x1 g hi hx0 hf hN
      refine jGo_blk qX3_grow_2 ?_
      refine st_gi jo_84 (fun v1 ev1 b2 => ?_)
      replace ev1 : v1 = g 84 0 := ev1
      replace b2 := (jbf_3_0 jo_84 _).1 b2
      refine And.intro (fun c3 => ?_) (fun c3 => ?_)
      · replace c3 : v1 ≤ x1 := c3
        show jGo E l 85 229 229 _ 44 [.inr (.inr (.inl 84)), .inl x1] [] 229 jr0 g
        refine jGo_blk qX3_grow_44 ?_
        exact ⟨rfl, rfl, hf, rfl, (by exact fun t a b => ⟨(hx0 t a b).1, (hx0 t a b).2.1⟩)⟩
      · replace c3 : x1 < v1 := by first | exact c3 | exact Int.not_le.mp c3 | exact Int.not_lt.mp c3 | exact Decidable.not_not.mp c3
        refine st_cv (na := 1) (st := [.inl x1, .inr (.inr (.inl 84))]) jo_84 rfl rfl rfl (c_X3_stands x1 g (by omega)) rfl ?_
        rintro _ _ _ ⟨rfl, rfl, t4, rfl, ht4, zt4⟩ kt4
        replace kt4 : -2147483648 ≤ t4 ∧ t4 ≤ 2147483647 := kt4
        replace ht4 : 0 ≤ t4 ∧ t4 ≤ 1 := ht4
        refine And.intro (fun c6 => ?_) (fun c6 => ?_)
        · replace c6 : t4 = 0 := c6
          show jGo E l 85 229 229 _ 38 [.inr (.inr (.inl 84)), .inl x1] [] 229 jr0 g
          refine jGo_blk qX3_grow_38 ?_
          have e7 : jw32 (x1 + 1) = x1 + 1 := j32e (by omega) (by omega)
          show jGo E l 85 229 229 _ 2 [.inr (.inr (.inl 84)), .inl (jw32 (x1 + 1))] [] 229 jr0 g
          exact ih (jw32 (x1 + 1)) g (by omega) (by exact fun t a b => ⟨(hx0 t a b).1, (hx0 t a b).2.1, fun c => (hx0 t a b).2.2 (by omega)⟩) hf (by omega)
        · replace c6 : ¬ t4 = 0 := by first | exact c6 | exact Int.not_le.mp c6 | exact Int.not_lt.mp c6 | exact Decidable.not_not.mp c6
          refine st_gr jo_84 jr_84_3 ?_
          refine st_ai jo_87 (show 0 ≤ x1 by omega) (show x1 < ((40 : Nat) : Int) by omega) (fun v8 ev8 b9 => ?_)
          replace ev8 : v8 = g 87 x1 := ev8
          replace b9 := (jba_87 x1 _).1 b9
          have hq1 := (hx0 x1 (by omega) (by omega)).2.2 (by omega); have hq2 := q0 x1 (by omega) (by omega)
          refine st_gr jo_84 jr_84_6 ?_
          refine st_gr jo_84 jr_84_1 ?_
          refine st_ai jo_85 (show 0 ≤ x1 by omega) (show x1 < ((40 : Nat) : Int) by omega) (fun v10 ev10 b11 => ?_)
          replace ev10 : v10 = g 85 x1 := ev10
          replace b11 := (jba_85 x1 _).1 b11
          refine st_ai jo_90 (show 0 ≤ v10 by omega) (show v10 < ((3 : Nat) : Int) by omega) (fun v12 ev12 b13 => ?_)
          replace ev12 : v12 = g 90 v10 := ev12
          replace b13 := (jba_90 v10 _).1 b13
          have e14 : jw32 (v8 + v12) = v8 + v12 := j32e (by omega) (by omega)
          refine st_si jo_87 (show 0 ≤ x1 by omega) (show x1 < ((40 : Nat) : Int) by omega) (fun hx => (jba_87 _ _).2 hx) (fun g15 eg15 => ?_)
          replace eg15 : g15 = jup g 87 x1 (jw32 (v8 + v12)) := eg15
          have fg15 : jfr w_X3_grow h g15 := jfr_up hf eg15 (by unfold w_X3_grow; omega)
          have e16 : g15 87 x1 = jw32 (v8 + v12) := jup_s eg15
          show jGo E l 85 229 229 _ 38 [.inr (.inr (.inl 84)), .inl x1] [] 229 jr0 g15
          refine jGo_blk qX3_grow_38 ?_
          have e17 : jw32 (x1 + 1) = x1 + 1 := j32e (by omega) (by omega)
          show jGo E l 85 229 229 _ 2 [.inr (.inr (.inl 84)), .inl (jw32 (x1 + 1))] [] 229 jr0 g15
          have hc18 : ∀ t : Int, 0 ≤ t → t < 40 → h 87 t ≤ g15 87 t ∧ g15 87 t ≤ h 87 t + 9 ∧ (jw32 (x1 + 1) ≤ t → g15 87 t = h 87 t) := by
            intro t a b
            by_cases q : t = x1
            · subst q; rw [jup_s eg15]; exact ⟨by omega, by omega, fun c => absurd c (by omega)⟩
            · have q2 := hx0 t a b; rw [jup_o eg15 (by omega)]; exact ⟨q2.1, q2.2.1, fun c => q2.2.2 (by omega)⟩
          exact ih (jw32 (x1 + 1)) g15 (by omega) (by exact hc18) fg15 (by omega)
  refine jGo_blk qX3_grow_0 ?_
  show jGo E l 85 229 229 _ 2 [.inr (.inr (.inl 84)), .inl 0] [] 229 jr0 h
  exact (key 1000000000000) 0 h (by omega) (by exact fun t _ _ => ⟨Int.le_refl _, by omega, fun _ => rfl⟩) f0 (by omega)

def w_X11_days (i k : Int) : Prop := (i = 1) ∨ (i = 15) ∨ (30 ≤ i ∧ i ≤ 31) ∨ (34 ≤ i ∧ i ≤ 83) ∨ (i = 87) ∨ (107 ≤ i ∧ i ≤ 110) ∨ (i = 0 ∧ k = 0) ∨ (i = 11 ∧ k = 5) ∨ (i = 29 ∧ 6 ≤ k ∧ k ≤ 10) ∨ (i = 111 ∧ 9 ≤ k ∧ k ≤ 11)
def k_X11_days (a1 : Int) (h : JH) (v : Option JV) (r' g : JH) : Prop := r' = jr0 ∧ jfr w_X11_days h g ∧ ∃ x : Int, v = some (.inl x) ∧ (True) ∧ (jLG 0 g ∧ P_X11_days a1 h g)
set_option maxHeartbeats 4000000 in
theorem c_X11_days {E : JE} {l : Launch} (a1 : Int) (h : JH) (q0 : jLG 0 h) : jMt E l 86 [.inr (.inr (.inl 0)), .inl a1] 229 jr0 h (k_X11_days a1 h) := by
  refine jMt0 (nL := 5) (ls := [.inr (.inr (.inl 0)), .inl a1, .inr (.inr (.inr ())), .inr (.inr (.inr ())), .inr (.inr (.inr ()))]) (by decide +kernel) (by decide +kernel) (by decide +kernel) rfl rfl ?_
  have f0 : jfr w_X11_days h h := jfr_rf _ _
  have key : ∀ N : Nat, (∀ (x2 : Int) (x3 : Int) (x4 : Int) (g : JH), (0 ≤ a1 ∧ a1 ≤ 2000 ∧ 0 ≤ x2 ∧ x2 ≤ 0 ∧ 0 ≤ x4 ∧ x4 ≤ 2000) → (g 0 0 = h 0 0 + x4 ∧ x4 ≤ a1 ∧ h 0 0 + a1 ≤ 2000) → (jLG 0 g) → jfr w_X11_days h g → (2000 - x4) < (N : Int) → jGo E l 86 229 229 (jRK (k_X11_days a1 h)) 50 [.inr (.inr (.inl 0)), .inl a1, .inl x2, .inl x3, .inl x4] [] 229 jr0 g) := by
    intro N
    induction N with
    | zero => exact fun _ _ _ _ hi hx0 hx1 _ hN => absurd hN (by omega)
    | succ N ih =>
      intro x2 x3 x4 g hi hx0 hx1 hf hN
      refine jGo_ok (fun hls _ => ?_)
      have rx3 : -2147483648 ≤ x3 ∧ x3 ≤ 2147483647 := hls (.inl x3) (by simp)
      refine jGo_blk qX11_days_50 ?_
      refine And.intro (fun c1 => ?_) (fun c1 => ?_)
      · replace c1 : a1 ≤ x4 := c1
        show jGo E l 86 229 229 _ 133 [.inr (.inr (.inl 0)), .inl a1, .inl x2, .inl x3, .inl x4] [] 229 jr0 g
        refine jGo_blk qX11_days_133 ?_
        exact st_r0 (ls := []) ⟨rfl, rfl, hf, x3, rfl, trivial, (by exact ⟨hx1, by unfold P_X11_days; omega⟩)⟩
      · replace c1 : x4 < a1 := by first | exact c1 | exact Int.not_le.mp c1 | exact Int.not_lt.mp c1 | exact Decidable.not_not.mp c1
        refine st_gi jo_0 (fun v2 ev2 b3 => ?_)
        replace ev2 : v2 = g 0 0 := ev2
        replace b3 := (jbf_11_0 jo_0 _).1 b3
        have e4 : jw32 (v2 + 1) = v2 + 1 := j32e (by omega) (by omega)
        refine st_pi jo_0 (fun hx => (jbf_11_0 jo_0 _).2 (show 0 ≤ jw32 (v2 + 1) ∧ jw32 (v2 + 1) ≤ 2000 by omega)) (fun g5 eg5 => ?_)
        replace eg5 : g5 = jup g 0 0 (jw32 (v2 + 1)) := eg5
        have fg5 : jfr w_X11_days h g5 := jfr_up hf eg5 (by unfold w_X11_days; omega)
        have e6 : g5 0 0 = jw32 (v2 + 1) := jup_s eg5
        have lg7 : jLG 1 g5 := jLG_day hx1 eg5 (by omega) (by omega)
        refine st_gr jo_0 jr_0_10 ?_
        refine st_gi jo_0 (fun v8 ev8 b9 => ?_)
        replace ev8 : v8 = g5 0 0 := ev8
        replace b9 := (jbf_11_0 jo_0 _).1 b9
        refine st_gr jo_0 jr_0_2 ?_
        refine st_gr jo_0 jr_0_3 ?_
        refine st_cv (na := 4) (st := [.inr (.inr (.inl 11)), .inr (.inr (.inl 2)), .inl v8, .inl 0, .inr (.inr (.inl 106))]) jo_106 rfl rfl rfl (c_X0_write_106 0 v8 g5 (by omega) (by omega)) rfl ?_
        rintro _ _ g11 ⟨rfl, ft10, rfl, zt10⟩ kt10
        have fg11 : jfr w_X11_days h g11 := jfr_tr fg5 ft10 (fun i k q => by unfold w_X0_write_106 at q; unfold w_X11_days; omega)
        have lg12 : jLG 1 g11 := jLG_fr (ft10 0 0 (by unfold w_X0_write_106; omega)) (fun t => ft10 87 t (by unfold w_X0_write_106; omega)) lg7
        refine st_gr jo_0 jr_0_5 ?_
        refine st_gi jo_0 (fun v13 ev13 b14 => ?_)
        replace ev13 : v13 = g11 0 0 := ev13
        replace b14 := (jbf_11_0 jo_0 _).1 b14
        have e15 : g11 0 0 = g5 0 0 := ft10 0 0 (by unfold w_X0_write_106; omega)
        refine st_gr jo_0 jr_0_10 ?_
        refine st_gr jo_0 jr_0_4 ?_
        refine st_cv (na := 4) (st := [.inr (.inr (.inl 16)), .inl 0, .inr (.inr (.inl 106)), .inl v13, .inr (.inr (.inl 29)), .inl x3]) jo_29 rfl rfl rfl (c_X10_passDay_29_106 v13 0 g11 (by omega) (by omega)) rfl ?_
        rintro _ _ g17 ⟨rfl, ft16, t16, rfl, ht16, zt16⟩ kt16
        replace kt16 : -2147483648 ≤ t16 ∧ t16 ≤ 2147483647 := kt16
        have fg17 : jfr w_X11_days h g17 := jfr_tr fg11 ft16 (fun i k q => by unfold w_X10_passDay_29_106 at q; unfold w_X11_days; omega)
        have lg18 : jLG 1 g17 := jLG_fr (ft16 0 0 (by unfold w_X10_passDay_29_106; omega)) (fun t => ft16 87 t (by unfold w_X10_passDay_29_106; omega)) lg12
        refine st_gi jo_0 (fun v19 ev19 b20 => ?_)
        replace ev19 : v19 = g17 0 0 := ev19
        replace b20 := (jbf_11_0 jo_0 _).1 b20
        have e21 : g17 0 0 = g11 0 0 := ft16 0 0 (by unfold w_X10_passDay_29_106; omega)
        refine And.intro (show 360 ≠ 0 by omega) ?_
        have e22 : v19.tmod 360 = v19 % 360 ∧ 0 ≤ v19.tmod 360 ∧ v19.tmod 360 < 360 := jmd (by omega) (by omega)
        refine And.intro (fun c23 => ?_) (fun c23 => ?_)
        · replace c23 : ¬ v19.tmod 360 = 0 := c23
          show jGo E l 86 229 229 _ 127 [.inr (.inr (.inl 0)), .inl a1, .inl x2, .inl (jw32 (x3 + t16)), .inl x4] [] 229 jr0 g17
          refine jGo_blk qX11_days_127 ?_
          have e24 : jw32 (x4 + 1) = x4 + 1 := j32e (by omega) (by omega)
          show jGo E l 86 229 229 _ 50 [.inr (.inr (.inl 0)), .inl a1, .inl x2, .inl (jw32 (x3 + t16)), .inl (jw32 (x4 + 1))] [] 229 jr0 g17
          exact ih x2 (jw32 (x3 + t16)) (jw32 (x4 + 1)) g17 (by omega) (by omega) (by exact (jLG_w lg18)) fg17 (by omega)
        · replace c23 : v19.tmod 360 = 0 := by first | exact c23 | exact Int.not_le.mp c23 | exact Int.not_lt.mp c23 | exact Decidable.not_not.mp c23
          refine st_gr jo_0 jr_0_6 ?_
          refine st_cv (na := 0) (st := [.inr (.inr (.inl 84))]) jo_84 rfl rfl rfl (c_X3_grow g17 (jLG_ok lg18)) rfl ?_
          rintro _ _ g26 ⟨rfl, ft25, rfl, zt25⟩ kt25
          have fg26 : jfr w_X11_days h g26 := jfr_tr fg17 ft25 (fun i k q => by unfold w_X3_grow at q; unfold w_X11_days; omega)
          replace zt25 : ∀ t : Int, 0 ≤ t → t < 40 → g17 87 t ≤ g26 87 t ∧ g26 87 t ≤ g17 87 t + 9 := zt25
          have lg27 : jLG 0 g26 := jLG_grow (ft25 0 0 (by unfold w_X3_grow; omega)) zt25 lg18
          show jGo E l 86 229 229 _ 127 [.inr (.inr (.inl 0)), .inl a1, .inl x2, .inl (jw32 (x3 + t16)), .inl x4] [] 229 jr0 g26
          refine jGo_blk qX11_days_127 ?_
          have e28 : jw32 (x4 + 1) = x4 + 1 := j32e (by omega) (by omega)
          show jGo E l 86 229 229 _ 50 [.inr (.inr (.inl 0)), .inl a1, .inl x2, .inl (jw32 (x3 + t16)), .inl (jw32 (x4 + 1))] [] 229 jr0 g26
          have e29 : g26 0 0 = g17 0 0 := ft25 0 0 (by unfold w_X3_grow; omega)
          exact ih x2 (jw32 (x3 + t16)) (jw32 (x4 + 1)) g26 (by omega) (by omega) (by exact lg27) fg26 (by omega)
  refine jGo_blk qX11_days_0 ?_
  refine st_gi jo_0 (fun v30 ev30 b31 => ?_)
  replace ev30 : v30 = h 0 0 := ev30
  replace b31 := (jbf_11_0 jo_0 _).1 b31
  have e32 : jw32 (2000 - v30) = 2000 - v30 := j32e (by omega) (by omega)
  refine st_cs (na := 3) (st := [.inl (jw32 (2000 - v30)), .inl 0, .inl a1]) rfl rfl rfl (c_X11_outside a1 0 (jw32 (2000 - v30)) h) rfl ?_
  rintro _ _ _ ⟨rfl, rfl, t33, rfl, ht33, zt33⟩ kt33
  replace kt33 : -2147483648 ≤ t33 ∧ t33 ≤ 2147483647 := kt33
  replace ht33 : -6 ≤ t33 ∧ t33 ≤ 0 := ht33
  replace zt33 : (t33 = -4 ∧ a1 < (0 : Int)) ∨ (t33 = -6 ∧ (0 : Int) ≤ a1 ∧ (jw32 (2000 - v30)) < a1) ∨ (t33 = 0 ∧ (0 : Int) ≤ a1 ∧ a1 ≤ (jw32 (2000 - v30))) := zt33
  refine And.intro (fun c35 => ?_) (fun c35 => ?_)
  · replace c35 : t33 = 0 := c35
    show jGo E l 86 229 229 _ 24 [.inr (.inr (.inl 0)), .inl a1, .inl t33, .inr (.inr (.inr ())), .inr (.inr (.inr ()))] [] 229 jr0 h
    refine jGo_blk qX11_days_24 ?_
    refine st_gr jo_0 jr_0_11 ?_
    refine st_cv (na := 0) (st := [.inr (.inr (.inl 111))]) jo_111 rfl rfl rfl (c_X7_forget h) rfl ?_
    rintro _ _ g37 ⟨rfl, ft36, rfl, zt36⟩ kt36
    have fg37 : jfr w_X11_days h g37 := jfr_tr f0 ft36 (fun i k q => by unfold w_X7_forget at q; unfold w_X11_days; omega)
    have lg38 : jLG 0 g37 := jLG_fr (ft36 0 0 (by unfold w_X7_forget; omega)) (fun t => ft36 87 t (by unfold w_X7_forget; omega)) q0
    refine st_gr jo_0 jr_0_5 ?_
    refine st_cv (na := 0) (st := [.inr (.inr (.inl 29))]) jo_29 rfl rfl rfl (c_X10_lineUp_29 g37) rfl ?_
    rintro _ _ g40 ⟨rfl, ft39, rfl, zt39⟩ kt39
    have fg40 : jfr w_X11_days h g40 := jfr_tr fg37 ft39 (fun i k q => by unfold w_X10_lineUp_29 at q; unfold w_X11_days; omega)
    have lg41 : jLG 0 g40 := jLG_fr (ft39 0 0 (by unfold w_X10_lineUp_29; omega)) (fun t => ft39 87 t (by unfold w_X10_lineUp_29; omega)) lg38
    refine st_gr jo_0 jr_0_3 ?_
    refine st_cv (na := 0) (st := [.inr (.inr (.inl 11))]) jo_11 rfl rfl rfl (c_X2_rewind g40) rfl ?_
    rintro _ _ g43 ⟨rfl, ft42, rfl, zt42⟩ kt42
    have fg43 : jfr w_X11_days h g43 := jfr_tr fg40 ft42 (fun i k q => by unfold w_X2_rewind at q; unfold w_X11_days; omega)
    replace zt42 : (∀ t : Int, 0 ≤ t → t ≤ 9 → g43 15 t = if t = 9 then 60 else 0) ∧ g43 11 5 = 0 := zt42
    have lg44 : jLG 0 g43 := jLG_fr (ft42 0 0 (by unfold w_X2_rewind; omega)) (fun t => ft42 87 t (by unfold w_X2_rewind; omega)) lg41
    show jGo E l 86 229 229 _ 50 [.inr (.inr (.inl 0)), .inl a1, .inl t33, .inl 0, .inl 0] [] 229 jr0 g43
    have e45 : g43 0 0 = g40 0 0 := ft42 0 0 (by unfold w_X2_rewind; omega)
    have e46 : g40 0 0 = g37 0 0 := ft39 0 0 (by unfold w_X10_lineUp_29; omega)
    have e47 : g37 0 0 = h 0 0 := ft36 0 0 (by unfold w_X7_forget; omega)
    exact (key 1000000000000) t33 0 0 g43 (by omega) (by omega) (by exact lg44) fg43 (by omega)
  · replace c35 : ¬ t33 = 0 := by first | exact c35 | exact Int.not_le.mp c35 | exact Int.not_lt.mp c35 | exact Decidable.not_not.mp c35
    refine st_cv (na := 1) (st := [.inl t33, .inr (.inr (.inl 0))]) jo_0 rfl rfl rfl (c_X11_refused t33 h (by omega)) rfl ?_
    rintro _ _ g49 ⟨rfl, ft48, t48, rfl, ht48, zt48⟩ kt48
    replace kt48 : -2147483648 ≤ t48 ∧ t48 ≤ 2147483647 := kt48
    replace ht48 : -7 ≤ t48 ∧ t48 ≤ -1 := ht48
    have fg49 : jfr w_X11_days h g49 := jfr_tr f0 ft48 (fun i k q => by unfold w_X11_refused at q; unfold w_X11_days; omega)
    replace zt48 : t48 = t33 := zt48
    have lg50 : jLG 0 g49 := jLG_fr (ft48 0 0 (by unfold w_X11_refused; omega)) (fun t => ft48 87 t (by unfold w_X11_refused; omega)) q0
    have e51 : g49 0 0 = h 0 0 := ft48 0 0 (by unfold w_X11_refused; omega)
    exact st_r0 (ls := []) ⟨rfl, rfl, fg49, t48, rfl, trivial, (by exact ⟨lg50, by unfold P_X11_days; omega⟩)⟩

def w_X12_enter (i k : Int) : Prop := (192 ≤ i ∧ i ≤ 196) ∨ (199 ≤ i ∧ i ≤ 200) ∨ (i = 202)
def k_X12_enter (a1 : Int) (a2 : Int) (h : JH) (v : Option JV) (r' g : JH) : Prop := r' = jr0 ∧ jfr w_X12_enter h g ∧ v = none ∧ (True)
set_option maxHeartbeats 4000000 in
theorem c_X12_enter {E : JE} {l : Launch} (a1 : Int) (a2 : Int) (h : JH) (p1 : 0 ≤ a1 ∧ a1 ≤ 15) (p2 : 0 ≤ a2 ∧ a2 ≤ 5) : jMt E l 87 [.inr (.inr (.inl 176)), .inl a1, .inl a2] 229 jr0 h (k_X12_enter a1 a2 h) := by
  refine jMt0 (nL := 5) (ls := [.inr (.inr (.inl 176)), .inl a1, .inl a2, .inr (.inr (.inr ())), .inr (.inr (.inr ()))]) (by decide +kernel) (by decide +kernel) (by decide +kernel) rfl rfl ?_
  have f0 : jfr w_X12_enter h h := jfr_rf _ _
  have key : ∀ N : Nat, (∀ (x3 : Int) (x4 : Int) (g : JH), (0 ≤ x3 ∧ x3 ≤ 17 ∧ 0 ≤ x4 ∧ x4 ≤ 6) → jfr w_X12_enter h g → (6 - x4) < (N : Int) → jGo E l 87 229 229 (jRK (k_X12_enter a1 a2 h)) 67 [.inr (.inr (.inl 176)), .inl a1, .inl a2, .inl x3, .inl x4] [] 229 jr0 g) := by
    intro N
    induction N with
    | zero => exact fun _ _ _ hi _ hN => absurd hN (by omega)
    | succ N ih =>
      intro x3 x4 g hi hf hN
      refine jGo_blk qX12_enter_67 ?_
      refine And.intro (fun c1 => ?_) (fun c1 => ?_)
      · replace c1 : 6 ≤ x4 := c1
        show jGo E l 87 229 229 _ 131 [.inr (.inr (.inl 176)), .inl a1, .inl a2, .inl x3, .inl x4] [] 229 jr0 g
        refine jGo_blk qX12_enter_131 ?_
        exact ⟨rfl, rfl, hf, rfl, trivial⟩
      · replace c1 : x4 < 6 := by first | exact c1 | exact Int.not_le.mp c1 | exact Int.not_lt.mp c1 | exact Decidable.not_not.mp c1
        refine st_gr jo_176 jr_176_25 ?_
        have e2 : jw32 (6 * a1) = 6 * a1 := j32e (by omega) (by omega)
        have e3 : jw32 ((jw32 (6 * a1)) + x4) = (jw32 (6 * a1)) + x4 := j32e (by omega) (by omega)
        refine st_gr jo_176 jr_176_13 ?_
        have e4 : jw32 (6 * x3) = 6 * x3 := j32e (by omega) (by omega)
        have e5 : jw32 ((jw32 (6 * x3)) + x4) = (jw32 (6 * x3)) + x4 := j32e (by omega) (by omega)
        refine st_ai jo_188 (show 0 ≤ jw32 ((jw32 (6 * x3)) + x4) by omega) (show jw32 ((jw32 (6 * x3)) + x4) < ((108 : Nat) : Int) by omega) (fun v6 ev6 b7 => ?_)
        replace ev6 : v6 = g 188 (jw32 ((jw32 (6 * x3)) + x4)) := ev6
        replace b7 := (jba_188 (jw32 ((jw32 (6 * x3)) + x4)) _).1 b7
        refine st_si jo_199 (show 0 ≤ jw32 ((jw32 (6 * a1)) + x4) by omega) (show jw32 ((jw32 (6 * a1)) + x4) < ((96 : Nat) : Int) by omega) (fun hx => (jba_199 _ _).2 hx) (fun g8 eg8 => ?_)
        replace eg8 : g8 = jup g 199 (jw32 ((jw32 (6 * a1)) + x4)) v6 := eg8
        have fg8 : jfr w_X12_enter h g8 := jfr_up hf eg8 (by unfold w_X12_enter; omega)
        have e9 : g8 199 (jw32 ((jw32 (6 * a1)) + x4)) = v6 := jup_s eg8
        refine st_gr jo_176 jr_176_26 ?_
        have e10 : jw32 (6 * a1) = 6 * a1 := j32e (by omega) (by omega)
        have e11 : jw32 ((jw32 (6 * a1)) + x4) = (jw32 (6 * a1)) + x4 := j32e (by omega) (by omega)
        refine st_ai jo_200 (show 0 ≤ jw32 ((jw32 (6 * a1)) + x4) by omega) (show jw32 ((jw32 (6 * a1)) + x4) < ((96 : Nat) : Int) by omega) (fun v12 ev12 b13 => ?_)
        replace ev12 : v12 = g8 200 (jw32 ((jw32 (6 * a1)) + x4)) := ev12
        replace b13 := (jba_200 (jw32 ((jw32 (6 * a1)) + x4)) _).1 b13
        refine st_gr jo_176 jr_176_13 ?_
        have e14 : jw32 (6 * x3) = 6 * x3 := j32e (by omega) (by omega)
        have e15 : jw32 ((jw32 (6 * x3)) + x4) = (jw32 (6 * x3)) + x4 := j32e (by omega) (by omega)
        refine st_ai jo_188 (show 0 ≤ jw32 ((jw32 (6 * x3)) + x4) by omega) (show jw32 ((jw32 (6 * x3)) + x4) < ((108 : Nat) : Int) by omega) (fun v16 ev16 b17 => ?_)
        replace ev16 : v16 = g8 188 (jw32 ((jw32 (6 * x3)) + x4)) := ev16
        replace b17 := (jba_188 (jw32 ((jw32 (6 * x3)) + x4)) _).1 b17
        refine st_si jo_200 (show 0 ≤ jw32 ((jw32 (6 * a1)) + x4) by omega) (show jw32 ((jw32 (6 * a1)) + x4) < ((96 : Nat) : Int) by omega) (fun hx => (jba_200 _ _).2 hx) (fun g18 eg18 => ?_)
        replace eg18 : g18 = jup g8 200 (jw32 ((jw32 (6 * a1)) + x4)) (jw32 (v12 + v16)) := eg18
        have fg18 : jfr w_X12_enter h g18 := jfr_up fg8 eg18 (by unfold w_X12_enter; omega)
        have e19 : g18 200 (jw32 ((jw32 (6 * a1)) + x4)) = jw32 (v12 + v16) := jup_s eg18
        have e20 : jw32 (x4 + 1) = x4 + 1 := j32e (by omega) (by omega)
        show jGo E l 87 229 229 _ 67 [.inr (.inr (.inl 176)), .inl a1, .inl a2, .inl x3, .inl (jw32 (x4 + 1))] [] 229 jr0 g18
        exact ih x3 (jw32 (x4 + 1)) g18 (by omega) fg18 (by omega)
  refine jGo_blk qX12_enter_0 ?_
  refine st_gr jo_176 jr_176_28 ?_
  refine st_si jo_202 (show 0 ≤ a2 by omega) (show a2 < ((6 : Nat) : Int) by omega) (fun hx => (jba_202 _ _).2 (show (-1 ≤ a1 ∧ a1 ≤ 15) ∨ a1 = 100 by omega)) (fun g21 eg21 => ?_)
  replace eg21 : g21 = jup h 202 a2 a1 := eg21
  have fg21 : jfr w_X12_enter h g21 := jfr_up f0 eg21 (by unfold w_X12_enter; omega)
  have e22 : g21 202 a2 = a1 := jup_s eg21
  refine st_gr jo_176 jr_176_18 ?_
  refine st_si jo_192 (show 0 ≤ a1 by omega) (show a1 < ((16 : Nat) : Int) by omega) (fun hx => (jba_192 _ _).2 (show 0 ≤ 1 ∧ 1 ≤ 3 by omega)) (fun g23 eg23 => ?_)
  replace eg23 : g23 = jup g21 192 a1 1 := eg23
  have fg23 : jfr w_X12_enter h g23 := jfr_up fg21 eg23 (by unfold w_X12_enter; omega)
  have e24 : g23 192 a1 = 1 := jup_s eg23
  refine st_gr jo_176 jr_176_19 ?_
  refine st_si jo_193 (show 0 ≤ a1 by omega) (show a1 < ((16 : Nat) : Int) by omega) (fun hx => (jba_193 _ _).2 (show -9 ≤ a2 ∧ a2 ≤ 5 by omega)) (fun g25 eg25 => ?_)
  replace eg25 : g25 = jup g23 193 a1 a2 := eg25
  have fg25 : jfr w_X12_enter h g25 := jfr_up fg23 eg25 (by unfold w_X12_enter; omega)
  have e26 : g25 193 a1 = a2 := jup_s eg25
  refine st_gr jo_176 jr_176_15 ?_
  refine st_ai jo_189 (show 0 ≤ a1 by omega) (show a1 < ((16 : Nat) : Int) by omega) (fun v27 ev27 b28 => ?_)
  replace ev27 : v27 = g25 189 a1 := ev27
  replace b28 := (jba_189 a1 _).1 b28
  have e29 : jw32 (6 * v27) = 6 * v27 := j32e (by omega) (by omega)
  have e30 : jw32 ((jw32 (6 * v27)) + a2) = (jw32 (6 * v27)) + a2 := j32e (by omega) (by omega)
  refine st_gr jo_176 jr_176_20 ?_
  refine st_gr jo_176 jr_176_11 ?_
  refine st_ai jo_186 (show 0 ≤ jw32 ((jw32 (6 * v27)) + a2) by omega) (show jw32 ((jw32 (6 * v27)) + a2) < ((18 : Nat) : Int) by omega) (fun v31 ev31 b32 => ?_)
  replace ev31 : v31 = g25 186 (jw32 ((jw32 (6 * v27)) + a2)) := ev31
  replace b32 := (jba_186 (jw32 ((jw32 (6 * v27)) + a2)) _).1 b32
  refine st_si jo_194 (show 0 ≤ a1 by omega) (show a1 < ((16 : Nat) : Int) by omega) (fun hx => (jba_194 _ _).2 (show 0 ≤ v31 ∧ v31 ≤ 3 by omega)) (fun g33 eg33 => ?_)
  replace eg33 : g33 = jup g25 194 a1 v31 := eg33
  have fg33 : jfr w_X12_enter h g33 := jfr_up fg25 eg33 (by unfold w_X12_enter; omega)
  have e34 : g33 194 a1 = v31 := jup_s eg33
  refine st_gr jo_176 jr_176_21 ?_
  refine st_gr jo_176 jr_176_12 ?_
  refine st_ai jo_187 (show 0 ≤ jw32 ((jw32 (6 * v27)) + a2) by omega) (show jw32 ((jw32 (6 * v27)) + a2) < ((18 : Nat) : Int) by omega) (fun v35 ev35 b36 => ?_)
  replace ev35 : v35 = g33 187 (jw32 ((jw32 (6 * v27)) + a2)) := ev35
  replace b36 := (jba_187 (jw32 ((jw32 (6 * v27)) + a2)) _).1 b36
  refine st_si jo_195 (show 0 ≤ a1 by omega) (show a1 < ((16 : Nat) : Int) by omega) (fun hx => (jba_195 _ _).2 hx) (fun g37 eg37 => ?_)
  replace eg37 : g37 = jup g33 195 a1 v35 := eg37
  have fg37 : jfr w_X12_enter h g37 := jfr_up fg33 eg37 (by unfold w_X12_enter; omega)
  have e38 : g37 195 a1 = v35 := jup_s eg37
  refine st_gr jo_176 jr_176_22 ?_
  refine st_sb jo_196 (show 0 ≤ a1 by omega) (show a1 < ((16 : Nat) : Int) by omega) (fun hx => (jba_196 _ _).2 (show 0 ≤ 0 ∧ 0 ≤ 1 by omega)) (fun g39 eg39 => ?_)
  replace eg39 : g39 = jup g37 196 a1 0 := eg39
  have fg39 : jfr w_X12_enter h g39 := jfr_up fg37 eg39 (by unfold w_X12_enter; omega)
  have e40 : g39 196 a1 = 0 := jup_s eg39
  show jGo E l 87 229 229 _ 67 [.inr (.inr (.inl 176)), .inl a1, .inl a2, .inl (jw32 ((jw32 (6 * v27)) + a2)), .inl 0] [] 229 jr0 g39
  exact (key 1000000000000) (jw32 ((jw32 (6 * v27)) + a2)) 0 g39 (by omega) fg39 (by omega)

def k_X12_isFirst (a1 : Int) (a2 : Int) (h : JH) (v : Option JV) (r' g : JH) : Prop := r' = jr0 ∧ h = g ∧ ∃ x : Int, v = some (.inl x) ∧ (0 ≤ x ∧ x ≤ 1) ∧ ((x = 1 ∧ (99 - h 190 a1) * 16 + a1 < (99 - h 190 a2) * 16 + a2) ∨ (x = 0 ∧ ¬ ((99 - h 190 a1) * 16 + a1 < (99 - h 190 a2) * 16 + a2)))
set_option maxHeartbeats 4000000 in
theorem c_X12_isFirst {E : JE} {l : Launch} (a1 : Int) (a2 : Int) (h : JH) (p1 : 0 ≤ a1 ∧ a1 ≤ 15) (p2 : 0 ≤ a2 ∧ a2 ≤ 15) : jMt E l 88 [.inr (.inr (.inl 176)), .inl a1, .inl a2] 229 jr0 h (k_X12_isFirst a1 a2 h) := by
  refine jMt0 (nL := 3) (ls := [.inr (.inr (.inl 176)), .inl a1, .inl a2]) (by decide +kernel) (by decide +kernel) (by decide +kernel) rfl rfl ?_
  refine jGo_blk qX12_isFirst_0 ?_
  refine st_gr jo_176 jr_176_16 ?_
  refine st_ai jo_190 (show 0 ≤ a1 by omega) (show a1 < ((16 : Nat) : Int) by omega) (fun v1 ev1 b2 => ?_)
  replace ev1 : v1 = h 190 a1 := ev1
  replace b2 := (jba_190 a1 _).1 b2
  refine st_gr jo_176 jr_176_16 ?_
  refine st_ai jo_190 (show 0 ≤ a2 by omega) (show a2 < ((16 : Nat) : Int) by omega) (fun v3 ev3 b4 => ?_)
  replace ev3 : v3 = h 190 a2 := ev3
  replace b4 := (jba_190 a2 _).1 b4
  refine And.intro (fun c5 => ?_) (fun c5 => ?_)
  · replace c5 : v1 = v3 := c5
    show jGo E l 88 229 229 _ 38 [.inr (.inr (.inl 176)), .inl a1, .inl a2] [] 229 jr0 h
    refine jGo_blk qX12_isFirst_38 ?_
    refine And.intro (fun c6 => ?_) (fun c6 => ?_)
    · replace c6 : a2 ≤ a1 := c6
      show jGo E l 88 229 229 _ 47 [.inr (.inr (.inl 176)), .inl a1, .inl a2] [] 229 jr0 h
      refine jGo_blk qX12_isFirst_47 ?_
      show jGo E l 88 229 229 _ 48 [.inr (.inr (.inl 176)), .inl a1, .inl a2] [.inl 0] 229 jr0 h
      refine jGo_blk qX12_isFirst_48 ?_
      exact st_r1 (ls := []) (show (0 : Int) = 0 ∨ (0 : Int) = 1 by omega) ⟨rfl, rfl, rfl, 0, rfl, (by omega), (by omega)⟩
    · replace c6 : a1 < a2 := by first | exact c6 | exact Int.not_le.mp c6 | exact Int.not_lt.mp c6 | exact Decidable.not_not.mp c6
      show jGo E l 88 229 229 _ 48 [.inr (.inr (.inl 176)), .inl a1, .inl a2] [.inl 1] 229 jr0 h
      refine jGo_blk qX12_isFirst_48 ?_
      exact st_r1 (ls := []) (show (1 : Int) = 0 ∨ (1 : Int) = 1 by omega) ⟨rfl, rfl, rfl, 1, rfl, (by omega), (by omega)⟩
  · replace c5 : ¬ v1 = v3 := by first | exact c5 | exact Int.not_le.mp c5 | exact Int.not_lt.mp c5 | exact Decidable.not_not.mp c5
    refine st_gr jo_176 jr_176_16 ?_
    refine st_ai jo_190 (show 0 ≤ a1 by omega) (show a1 < ((16 : Nat) : Int) by omega) (fun v7 ev7 b8 => ?_)
    replace ev7 : v7 = h 190 a1 := ev7
    replace b8 := (jba_190 a1 _).1 b8
    refine st_gr jo_176 jr_176_16 ?_
    refine st_ai jo_190 (show 0 ≤ a2 by omega) (show a2 < ((16 : Nat) : Int) by omega) (fun v9 ev9 b10 => ?_)
    replace ev9 : v9 = h 190 a2 := ev9
    replace b10 := (jba_190 a2 _).1 b10
    refine And.intro (fun c11 => ?_) (fun c11 => ?_)
    · replace c11 : v7 ≤ v9 := c11
      show jGo E l 88 229 229 _ 34 [.inr (.inr (.inl 176)), .inl a1, .inl a2] [] 229 jr0 h
      refine jGo_blk qX12_isFirst_34 ?_
      show jGo E l 88 229 229 _ 48 [.inr (.inr (.inl 176)), .inl a1, .inl a2] [.inl 0] 229 jr0 h
      refine jGo_blk qX12_isFirst_48 ?_
      exact st_r1 (ls := []) (show (0 : Int) = 0 ∨ (0 : Int) = 1 by omega) ⟨rfl, rfl, rfl, 0, rfl, (by omega), (by omega)⟩
    · replace c11 : v9 < v7 := by first | exact c11 | exact Int.not_le.mp c11 | exact Int.not_lt.mp c11 | exact Decidable.not_not.mp c11
      show jGo E l 88 229 229 _ 48 [.inr (.inr (.inl 176)), .inl a1, .inl a2] [.inl 1] 229 jr0 h
      refine jGo_blk qX12_isFirst_48 ?_
      exact st_r1 (ls := []) (show (1 : Int) = 0 ∨ (1 : Int) = 1 by omega) ⟨rfl, rfl, rfl, 1, rfl, (by omega), (by omega)⟩

def k_X12_firstBehind (a1 : Int) (a2 : Int) (h : JH) (v : Option JV) (r' g : JH) : Prop := r' = jr0 ∧ h = g ∧ ∃ x : Int, v = some (.inl x) ∧ (-1 ≤ x ∧ x ≤ 15) ∧ (x = -1 ∨ (0 ≤ x ∧ x ≤ 15 ∧ (a1 < 0 ∨ (99 - h 190 a1) * 16 + a1 < (99 - h 190 x) * 16 + x)))
set_option maxHeartbeats 4000000 in
theorem c_X12_firstBehind {E : JE} {l : Launch} (a1 : Int) (a2 : Int) (h : JH) (p1 : -1 ≤ a1 ∧ a1 ≤ 15) : jMt E l 89 [.inr (.inr (.inl 176)), .inl a1, .inl a2] 229 jr0 h (k_X12_firstBehind a1 a2 h) := by
  refine jMt0 (nL := 5) (ls := [.inr (.inr (.inl 176)), .inl a1, .inl a2, .inr (.inr (.inr ())), .inr (.inr (.inr ()))]) (by decide +kernel) (by decide +kernel) (by decide +kernel) rfl rfl ?_
  have key : ∀ N : Nat, (∀ (x3 : Int) (x4 : Int), ((-1) ≤ x3 ∧ 0 ≤ x4 ∧ x4 ≤ 16) → (x3 = -1 ∨ (0 ≤ x3 ∧ x3 ≤ 15 ∧ (a1 < 0 ∨ (99 - h 190 a1) * 16 + a1 < (99 - h 190 x3) * 16 + x3))) → (16 - x4) < (N : Int) → jGo E l 89 229 229 (jRK (k_X12_firstBehind a1 a2 h)) 5 [.inr (.inr (.inl 176)), .inl a1, .inl a2, .inl x3, .inl x4] [] 229 jr0 h) := by
    intro N
    induction N with
    | zero => exact fun _ _ hi hx0 hN => absurd hN (by omega)
    | succ N ih =>
      intro x3 x4 hi hx0 hN
      refine jGo_ok (fun hls _ => ?_)
      have rx3 : -2147483648 ≤ x3 ∧ x3 ≤ 2147483647 := hls (.inl x3) (by simp)
      refine jGo_blk qX12_firstBehind_5 ?_
      refine st_gi jo_176 (fun v1 ev1 b2 => ?_)
      replace ev1 : v1 = h 176 14 := ev1
      replace b2 := (jbf_12_14 jo_176 _).1 b2
      refine And.intro (fun c3 => ?_) (fun c3 => ?_)
      · replace c3 : v1 ≤ x4 := c3
        show jGo E l 89 229 229 _ 62 [.inr (.inr (.inl 176)), .inl a1, .inl a2, .inl x3, .inl x4] [] 229 jr0 h
        refine jGo_blk qX12_firstBehind_62 ?_
        exact st_r0 (ls := []) ⟨rfl, rfl, rfl, x3, rfl, (by omega), (by omega)⟩
      · replace c3 : x4 < v1 := by first | exact c3 | exact Int.not_le.mp c3 | exact Int.not_lt.mp c3 | exact Decidable.not_not.mp c3
        refine st_gr jo_176 jr_176_18 ?_
        refine st_ai jo_192 (show 0 ≤ x4 by omega) (show x4 < ((16 : Nat) : Int) by omega) (fun v4 ev4 b5 => ?_)
        replace ev4 : v4 = h 192 x4 := ev4
        replace b5 := (jba_192 x4 _).1 b5
        refine And.intro (fun c6 => ?_) (fun c6 => ?_)
        · replace c6 : ¬ v4 = a2 := c6
          show jGo E l 89 229 229 _ 56 [.inr (.inr (.inl 176)), .inl a1, .inl a2, .inl x3, .inl x4] [] 229 jr0 h
          refine jGo_blk qX12_firstBehind_56 ?_
          have e7 : jw32 (x4 + 1) = x4 + 1 := j32e (by omega) (by omega)
          show jGo E l 89 229 229 _ 5 [.inr (.inr (.inl 176)), .inl a1, .inl a2, .inl x3, .inl (jw32 (x4 + 1))] [] 229 jr0 h
          exact ih x3 (jw32 (x4 + 1)) (by omega) (by omega) (by omega)
        · replace c6 : v4 = a2 := by first | exact c6 | exact Int.not_le.mp c6 | exact Int.not_lt.mp c6 | exact Decidable.not_not.mp c6
          refine And.intro (fun c8 => ?_) (fun c8 => ?_)
          · replace c8 : a1 < 0 := c8
            show jGo E l 89 229 229 _ 39 [.inr (.inr (.inl 176)), .inl a1, .inl a2, .inl x3, .inl x4] [] 229 jr0 h
            refine jGo_blk qX12_firstBehind_39 ?_
            refine And.intro (fun c9 => ?_) (fun c9 => ?_)
            · replace c9 : x3 < 0 := c9
              show jGo E l 89 229 229 _ 53 [.inr (.inr (.inl 176)), .inl a1, .inl a2, .inl x3, .inl x4] [] 229 jr0 h
              refine jGo_blk qX12_firstBehind_53 ?_
              show jGo E l 89 229 229 _ 56 [.inr (.inr (.inl 176)), .inl a1, .inl a2, .inl x4, .inl x4] [] 229 jr0 h
              refine jGo_blk qX12_firstBehind_56 ?_
              have e10 : jw32 (x4 + 1) = x4 + 1 := j32e (by omega) (by omega)
              show jGo E l 89 229 229 _ 5 [.inr (.inr (.inl 176)), .inl a1, .inl a2, .inl x4, .inl (jw32 (x4 + 1))] [] 229 jr0 h
              exact ih x4 (jw32 (x4 + 1)) (by omega) (by omega) (by omega)
            · replace c9 : 0 ≤ x3 := by first | exact c9 | exact Int.not_le.mp c9 | exact Int.not_lt.mp c9 | exact Decidable.not_not.mp c9
              refine st_cv (na := 2) (st := [.inl x3, .inl x4, .inr (.inr (.inl 176))]) jo_176 rfl rfl rfl (c_X12_isFirst x4 x3 h (by omega) (by omega)) rfl ?_
              rintro _ _ _ ⟨rfl, rfl, t11, rfl, ht11, zt11⟩ kt11
              replace kt11 : -2147483648 ≤ t11 ∧ t11 ≤ 2147483647 := kt11
              replace ht11 : 0 ≤ t11 ∧ t11 ≤ 1 := ht11
              replace zt11 : (t11 = 1 ∧ (99 - h 190 x4) * 16 + x4 < (99 - h 190 x3) * 16 + x3) ∨ (t11 = 0 ∧ ¬ ((99 - h 190 x4) * 16 + x4 < (99 - h 190 x3) * 16 + x3)) := zt11
              refine And.intro (fun c13 => ?_) (fun c13 => ?_)
              · replace c13 : t11 = 0 := c13
                show jGo E l 89 229 229 _ 56 [.inr (.inr (.inl 176)), .inl a1, .inl a2, .inl x3, .inl x4] [] 229 jr0 h
                refine jGo_blk qX12_firstBehind_56 ?_
                have e14 : jw32 (x4 + 1) = x4 + 1 := j32e (by omega) (by omega)
                show jGo E l 89 229 229 _ 5 [.inr (.inr (.inl 176)), .inl a1, .inl a2, .inl x3, .inl (jw32 (x4 + 1))] [] 229 jr0 h
                exact ih x3 (jw32 (x4 + 1)) (by omega) (by omega) (by omega)
              · replace c13 : ¬ t11 = 0 := by first | exact c13 | exact Int.not_le.mp c13 | exact Int.not_lt.mp c13 | exact Decidable.not_not.mp c13
                show jGo E l 89 229 229 _ 53 [.inr (.inr (.inl 176)), .inl a1, .inl a2, .inl x3, .inl x4] [] 229 jr0 h
                refine jGo_blk qX12_firstBehind_53 ?_
                show jGo E l 89 229 229 _ 56 [.inr (.inr (.inl 176)), .inl a1, .inl a2, .inl x4, .inl x4] [] 229 jr0 h
                refine jGo_blk qX12_firstBehind_56 ?_
                have e15 : jw32 (x4 + 1) = x4 + 1 := j32e (by omega) (by omega)
                show jGo E l 89 229 229 _ 5 [.inr (.inr (.inl 176)), .inl a1, .inl a2, .inl x4, .inl (jw32 (x4 + 1))] [] 229 jr0 h
                exact ih x4 (jw32 (x4 + 1)) (by omega) (by omega) (by omega)
          · replace c8 : 0 ≤ a1 := by first | exact c8 | exact Int.not_le.mp c8 | exact Int.not_lt.mp c8 | exact Decidable.not_not.mp c8
            refine st_cv (na := 2) (st := [.inl x4, .inl a1, .inr (.inr (.inl 176))]) jo_176 rfl rfl rfl (c_X12_isFirst a1 x4 h (by omega) (by omega)) rfl ?_
            rintro _ _ _ ⟨rfl, rfl, t16, rfl, ht16, zt16⟩ kt16
            replace kt16 : -2147483648 ≤ t16 ∧ t16 ≤ 2147483647 := kt16
            replace ht16 : 0 ≤ t16 ∧ t16 ≤ 1 := ht16
            replace zt16 : (t16 = 1 ∧ (99 - h 190 a1) * 16 + a1 < (99 - h 190 x4) * 16 + x4) ∨ (t16 = 0 ∧ ¬ ((99 - h 190 a1) * 16 + a1 < (99 - h 190 x4) * 16 + x4)) := zt16
            refine And.intro (fun c18 => ?_) (fun c18 => ?_)
            · replace c18 : t16 = 0 := c18
              show jGo E l 89 229 229 _ 56 [.inr (.inr (.inl 176)), .inl a1, .inl a2, .inl x3, .inl x4] [] 229 jr0 h
              refine jGo_blk qX12_firstBehind_56 ?_
              have e19 : jw32 (x4 + 1) = x4 + 1 := j32e (by omega) (by omega)
              show jGo E l 89 229 229 _ 5 [.inr (.inr (.inl 176)), .inl a1, .inl a2, .inl x3, .inl (jw32 (x4 + 1))] [] 229 jr0 h
              exact ih x3 (jw32 (x4 + 1)) (by omega) (by omega) (by omega)
            · replace c18 : ¬ t16 = 0 := by first | exact c18 | exact Int.not_le.mp c18 | exact Int.not_lt.mp c18 | exact Decidable.not_not.mp c18
              show jGo E l 89 229 229 _ 39 [.inr (.inr (.inl 176)), .inl a1, .inl a2, .inl x3, .inl x4] [] 229 jr0 h
              refine jGo_blk qX12_firstBehind_39 ?_
              refine And.intro (fun c20 => ?_) (fun c20 => ?_)
              · replace c20 : x3 < 0 := c20
                show jGo E l 89 229 229 _ 53 [.inr (.inr (.inl 176)), .inl a1, .inl a2, .inl x3, .inl x4] [] 229 jr0 h
                refine jGo_blk qX12_firstBehind_53 ?_
                show jGo E l 89 229 229 _ 56 [.inr (.inr (.inl 176)), .inl a1, .inl a2, .inl x4, .inl x4] [] 229 jr0 h
                refine jGo_blk qX12_firstBehind_56 ?_
                have e21 : jw32 (x4 + 1) = x4 + 1 := j32e (by omega) (by omega)
                show jGo E l 89 229 229 _ 5 [.inr (.inr (.inl 176)), .inl a1, .inl a2, .inl x4, .inl (jw32 (x4 + 1))] [] 229 jr0 h
                exact ih x4 (jw32 (x4 + 1)) (by omega) (by omega) (by omega)
              · replace c20 : 0 ≤ x3 := by first | exact c20 | exact Int.not_le.mp c20 | exact Int.not_lt.mp c20 | exact Decidable.not_not.mp c20
                refine st_cv (na := 2) (st := [.inl x3, .inl x4, .inr (.inr (.inl 176))]) jo_176 rfl rfl rfl (c_X12_isFirst x4 x3 h (by omega) (by omega)) rfl ?_
                rintro _ _ _ ⟨rfl, rfl, t22, rfl, ht22, zt22⟩ kt22
                replace kt22 : -2147483648 ≤ t22 ∧ t22 ≤ 2147483647 := kt22
                replace ht22 : 0 ≤ t22 ∧ t22 ≤ 1 := ht22
                replace zt22 : (t22 = 1 ∧ (99 - h 190 x4) * 16 + x4 < (99 - h 190 x3) * 16 + x3) ∨ (t22 = 0 ∧ ¬ ((99 - h 190 x4) * 16 + x4 < (99 - h 190 x3) * 16 + x3)) := zt22
                refine And.intro (fun c24 => ?_) (fun c24 => ?_)
                · replace c24 : t22 = 0 := c24
                  show jGo E l 89 229 229 _ 56 [.inr (.inr (.inl 176)), .inl a1, .inl a2, .inl x3, .inl x4] [] 229 jr0 h
                  refine jGo_blk qX12_firstBehind_56 ?_
                  have e25 : jw32 (x4 + 1) = x4 + 1 := j32e (by omega) (by omega)
                  show jGo E l 89 229 229 _ 5 [.inr (.inr (.inl 176)), .inl a1, .inl a2, .inl x3, .inl (jw32 (x4 + 1))] [] 229 jr0 h
                  exact ih x3 (jw32 (x4 + 1)) (by omega) (by omega) (by omega)
                · replace c24 : ¬ t22 = 0 := by first | exact c24 | exact Int.not_le.mp c24 | exact Int.not_lt.mp c24 | exact Decidable.not_not.mp c24
                  show jGo E l 89 229 229 _ 53 [.inr (.inr (.inl 176)), .inl a1, .inl a2, .inl x3, .inl x4] [] 229 jr0 h
                  refine jGo_blk qX12_firstBehind_53 ?_
                  show jGo E l 89 229 229 _ 56 [.inr (.inr (.inl 176)), .inl a1, .inl a2, .inl x4, .inl x4] [] 229 jr0 h
                  refine jGo_blk qX12_firstBehind_56 ?_
                  have e26 : jw32 (x4 + 1) = x4 + 1 := j32e (by omega) (by omega)
                  show jGo E l 89 229 229 _ 5 [.inr (.inr (.inl 176)), .inl a1, .inl a2, .inl x4, .inl (jw32 (x4 + 1))] [] 229 jr0 h
                  exact ih x4 (jw32 (x4 + 1)) (by omega) (by omega) (by omega)
  refine jGo_blk qX12_firstBehind_0 ?_
  show jGo E l 89 229 229 _ 5 [.inr (.inr (.inl 176)), .inl a1, .inl a2, .inl (-1), .inl 0] [] 229 jr0 h
  exact (key 1000000000000) (-1) 0 (by omega) (by omega) (by omega)

def w_X12_moveAll (i k : Int) : Prop := (192 ≤ i ∧ i ≤ 196) ∨ (198 ≤ i ∧ i ≤ 200) ∨ (i = 202)
def k_X12_moveAll (h : JH) (v : Option JV) (r' g : JH) : Prop := r' = jr0 ∧ jfr w_X12_moveAll h g ∧ ∃ x : Int, v = some (.inl x) ∧ (True) ∧ (True)
set_option maxHeartbeats 4000000 in
theorem c_X12_moveAll {E : JE} {l : Launch} (h : JH) : jMt E l 90 [.inr (.inr (.inl 176))] 229 jr0 h (k_X12_moveAll h) := by
  refine jMt0 (nL := 4) (ls := [.inr (.inr (.inl 176)), .inr (.inr (.inr ())), .inr (.inr (.inr ())), .inr (.inr (.inr ()))]) (by decide +kernel) (by decide +kernel) (by decide +kernel) rfl rfl ?_
  have f0 : jfr w_X12_moveAll h h := jfr_rf _ _
  have key : ∀ N : Nat, (∀ (x1 : Int) (x2 : Int) (x3 : JV) (g : JH), ((-1) ≤ x2 ∧ x2 ≤ 5) → jfr w_X12_moveAll h g → (x2 - (-1)) < (N : Int) → jGo E l 90 229 229 (jRK (k_X12_moveAll h)) 4 [.inr (.inr (.inl 176)), .inl x1, .inl x2, x3] [] 229 jr0 g) := by
    intro N
    induction N with
    | zero => exact fun _ _ _ _ hi _ hN => absurd hN (by omega)
    | succ N ih =>
      intro x1 x2 x3 g hi hf hN
      refine jGo_ok (fun hls _ => ?_)
      have rx1 : -2147483648 ≤ x1 ∧ x1 ≤ 2147483647 := hls (.inl x1) (by simp)
      refine jGo_blk qX12_moveAll_4 ?_
      refine And.intro (fun c1 => ?_) (fun c1 => ?_)
      · replace c1 : x2 < 0 := c1
        show jGo E l 90 229 229 _ 121 [.inr (.inr (.inl 176)), .inl x1, .inl x2, x3] [] 229 jr0 g
        refine jGo_blk qX12_moveAll_121 ?_
        refine st_cv (na := 2) (st := [.inl 0, .inl (-1), .inr (.inr (.inl 176))]) jo_176 rfl rfl rfl (c_X12_firstBehind (-1) 0 g (by omega)) rfl ?_
        rintro _ _ _ ⟨rfl, rfl, t2, rfl, ht2, zt2⟩ kt2
        replace kt2 : -2147483648 ≤ t2 ∧ t2 ≤ 2147483647 := kt2
        replace ht2 : -1 ≤ t2 ∧ t2 ≤ 15 := ht2
        replace zt2 : t2 = -1 ∨ (0 ≤ t2 ∧ t2 ≤ 15 ∧ ((-1 : Int) < 0 ∨ (99 - g 190 (-1 : Int)) * 16 + (-1 : Int) < (99 - g 190 t2) * 16 + t2)) := zt2
        refine st_gr jo_176 jr_176_28 ?_
        refine st_ai jo_202 (show 0 ≤ 0 by omega) (show 0 < ((6 : Nat) : Int) by omega) (fun v4 ev4 b5 => ?_)
        replace ev4 : v4 = g 202 0 := ev4
        replace b5 := (jba_202 0 _).1 b5
        refine And.intro (fun c6 => ?_) (fun c6 => ?_)
        · replace c6 : 0 ≤ v4 := c6
          show jGo E l 90 229 229 _ 147 [.inr (.inr (.inl 176)), .inl x1, .inl t2, x3] [] 229 jr0 g
          refine jGo_blk qX12_moveAll_147 ?_
          exact st_r0 (ls := []) ⟨rfl, rfl, hf, x1, rfl, trivial, trivial⟩
        · replace c6 : v4 < 0 := by first | exact c6 | exact Int.not_le.mp c6 | exact Int.not_lt.mp c6 | exact Decidable.not_not.mp c6
          refine And.intro (fun c7 => ?_) (fun c7 => ?_)
          · replace c7 : t2 < 0 := c7
            show jGo E l 90 229 229 _ 147 [.inr (.inr (.inl 176)), .inl x1, .inl t2, x3] [] 229 jr0 g
            refine jGo_blk qX12_moveAll_147 ?_
            exact st_r0 (ls := []) ⟨rfl, rfl, hf, x1, rfl, trivial, trivial⟩
          · replace c7 : 0 ≤ t2 := by first | exact c7 | exact Int.not_le.mp c7 | exact Int.not_lt.mp c7 | exact Decidable.not_not.mp c7
            refine st_cv (na := 2) (st := [.inl 0, .inl t2, .inr (.inr (.inl 176))]) jo_176 rfl rfl rfl (c_X12_enter t2 0 g (by omega) (by omega)) rfl ?_
            rintro _ _ g9 ⟨rfl, ft8, rfl, zt8⟩ kt8
            have fg9 : jfr w_X12_moveAll h g9 := jfr_tr hf ft8 (fun i k q => by unfold w_X12_enter at q; unfold w_X12_moveAll; omega)
            show jGo E l 90 229 229 _ 147 [.inr (.inr (.inl 176)), .inl x1, .inl t2, x3] [] 229 jr0 g9
            refine jGo_blk qX12_moveAll_147 ?_
            exact st_r0 (ls := []) ⟨rfl, rfl, fg9, x1, rfl, trivial, trivial⟩
      · replace c1 : 0 ≤ x2 := by first | exact c1 | exact Int.not_le.mp c1 | exact Int.not_lt.mp c1 | exact Decidable.not_not.mp c1
        refine st_gr jo_176 jr_176_28 ?_
        refine st_ai jo_202 (show 0 ≤ x2 by omega) (show x2 < ((6 : Nat) : Int) by omega) (fun v10 ev10 b11 => ?_)
        replace ev10 : v10 = g 202 x2 := ev10
        replace b11 := (jba_202 x2 _).1 b11
        refine And.intro (fun c12 => ?_) (fun c12 => ?_)
        · replace c12 : v10 < 0 := c12
          show jGo E l 90 229 229 _ 115 [.inr (.inr (.inl 176)), .inl x1, .inl x2, .inl v10] [] 229 jr0 g
          refine jGo_blk qX12_moveAll_115 ?_
          have e13 : jw32 (x2 + (-1)) = x2 + (-1) := j32e (by omega) (by omega)
          show jGo E l 90 229 229 _ 4 [.inr (.inr (.inl 176)), .inl x1, .inl (jw32 (x2 + (-1))), .inl v10] [] 229 jr0 g
          exact ih x1 (jw32 (x2 + (-1))) (.inl v10) g (by omega) hf (by omega)
        · replace c12 : 0 ≤ v10 := by first | exact c12 | exact Int.not_le.mp c12 | exact Int.not_lt.mp c12 | exact Decidable.not_not.mp c12
          refine And.intro (fun c14 => ?_) (fun c14 => ?_)
          · replace c14 : v10 = 100 := c14
            show jGo E l 90 229 229 _ 115 [.inr (.inr (.inl 176)), .inl x1, .inl x2, .inl v10] [] 229 jr0 g
            refine jGo_blk qX12_moveAll_115 ?_
            have e15 : jw32 (x2 + (-1)) = x2 + (-1) := j32e (by omega) (by omega)
            show jGo E l 90 229 229 _ 4 [.inr (.inr (.inl 176)), .inl x1, .inl (jw32 (x2 + (-1))), .inl v10] [] 229 jr0 g
            exact ih x1 (jw32 (x2 + (-1))) (.inl v10) g (by omega) hf (by omega)
          · replace c14 : ¬ v10 = 100 := by first | exact c14 | exact Int.not_le.mp c14 | exact Int.not_lt.mp c14 | exact Decidable.not_not.mp c14
            refine st_gr jo_176 jr_176_22 ?_
            refine st_bi jo_196 (show 0 ≤ v10 by omega) (show v10 < ((16 : Nat) : Int) by omega) (fun v16 ev16 b17 => ?_)
            replace ev16 : v16 = g 196 v10 := ev16
            replace b17 := (jba_196 v10 _).1 b17
            refine And.intro (fun c18 => ?_) (fun c18 => ?_)
            · replace c18 : v16 = 0 := c18
              show jGo E l 90 229 229 _ 115 [.inr (.inr (.inl 176)), .inl x1, .inl x2, .inl v10] [] 229 jr0 g
              refine jGo_blk qX12_moveAll_115 ?_
              have e19 : jw32 (x2 + (-1)) = x2 + (-1) := j32e (by omega) (by omega)
              show jGo E l 90 229 229 _ 4 [.inr (.inr (.inl 176)), .inl x1, .inl (jw32 (x2 + (-1))), .inl v10] [] 229 jr0 g
              exact ih x1 (jw32 (x2 + (-1))) (.inl v10) g (by omega) hf (by omega)
            · replace c18 : ¬ v16 = 0 := by first | exact c18 | exact Int.not_le.mp c18 | exact Int.not_lt.mp c18 | exact Decidable.not_not.mp c18
              refine st_gr jo_176 jr_176_21 ?_
              refine st_ai jo_195 (show 0 ≤ v10 by omega) (show v10 < ((16 : Nat) : Int) by omega) (fun v20 ev20 b21 => ?_)
              replace ev20 : v20 = g 195 v10 := ev20
              replace b21 := (jba_195 v10 _).1 b21
              refine And.intro (fun c22 => ?_) (fun c22 => ?_)
              · replace c22 : v20 ≤ 0 := c22
                show jGo E l 90 229 229 _ 46 [.inr (.inr (.inl 176)), .inl x1, .inl x2, .inl v10] [] 229 jr0 g
                refine jGo_blk qX12_moveAll_46 ?_
                refine And.intro (fun c23 => ?_) (fun c23 => ?_)
                · replace c23 : ¬ x2 = 5 := c23
                  show jGo E l 90 229 229 _ 89 [.inr (.inr (.inl 176)), .inl x1, .inl x2, .inl v10] [] 229 jr0 g
                  refine jGo_blk qX12_moveAll_89 ?_
                  refine st_gr jo_176 jr_176_28 ?_
                  have e24 : jw32 (x2 + 1) = x2 + 1 := j32e (by omega) (by omega)
                  refine st_ai jo_202 (show 0 ≤ jw32 (x2 + 1) by omega) (show jw32 (x2 + 1) < ((6 : Nat) : Int) by omega) (fun v25 ev25 b26 => ?_)
                  replace ev25 : v25 = g 202 (jw32 (x2 + 1)) := ev25
                  replace b26 := (jba_202 (jw32 (x2 + 1)) _).1 b26
                  refine And.intro (fun c27 => ?_) (fun c27 => ?_)
                  · replace c27 : 0 ≤ v25 := c27
                    show jGo E l 90 229 229 _ 115 [.inr (.inr (.inl 176)), .inl x1, .inl x2, .inl v10] [] 229 jr0 g
                    refine jGo_blk qX12_moveAll_115 ?_
                    have e28 : jw32 (x2 + (-1)) = x2 + (-1) := j32e (by omega) (by omega)
                    show jGo E l 90 229 229 _ 4 [.inr (.inr (.inl 176)), .inl x1, .inl (jw32 (x2 + (-1))), .inl v10] [] 229 jr0 g
                    exact ih x1 (jw32 (x2 + (-1))) (.inl v10) g (by omega) hf (by omega)
                  · replace c27 : v25 < 0 := by first | exact c27 | exact Int.not_le.mp c27 | exact Int.not_lt.mp c27 | exact Decidable.not_not.mp c27
                    refine st_gr jo_176 jr_176_28 ?_
                    refine st_si jo_202 (show 0 ≤ x2 by omega) (show x2 < ((6 : Nat) : Int) by omega) (fun hx => (jba_202 _ _).2 (show (-1 ≤ (-1) ∧ (-1) ≤ 15) ∨ (-1) = 100 by omega)) (fun g29 eg29 => ?_)
                    replace eg29 : g29 = jup g 202 x2 (-1) := eg29
                    have fg29 : jfr w_X12_moveAll h g29 := jfr_up hf eg29 (by unfold w_X12_moveAll; omega)
                    have e30 : g29 202 x2 = (-1) := jup_s eg29
                    have e31 : jw32 (x2 + 1) = x2 + 1 := j32e (by omega) (by omega)
                    refine st_cv (na := 2) (st := [.inl (jw32 (x2 + 1)), .inl v10, .inr (.inr (.inl 176))]) jo_176 rfl rfl rfl (c_X12_enter v10 (jw32 (x2 + 1)) g29 (by omega) (by omega)) rfl ?_
                    rintro _ _ g33 ⟨rfl, ft32, rfl, zt32⟩ kt32
                    have fg33 : jfr w_X12_moveAll h g33 := jfr_tr fg29 ft32 (fun i k q => by unfold w_X12_enter at q; unfold w_X12_moveAll; omega)
                    show jGo E l 90 229 229 _ 115 [.inr (.inr (.inl 176)), .inl x1, .inl x2, .inl v10] [] 229 jr0 g33
                    refine jGo_blk qX12_moveAll_115 ?_
                    have e34 : jw32 (x2 + (-1)) = x2 + (-1) := j32e (by omega) (by omega)
                    show jGo E l 90 229 229 _ 4 [.inr (.inr (.inl 176)), .inl x1, .inl (jw32 (x2 + (-1))), .inl v10] [] 229 jr0 g33
                    exact ih x1 (jw32 (x2 + (-1))) (.inl v10) g33 (by omega) fg33 (by omega)
                · replace c23 : x2 = 5 := by first | exact c23 | exact Int.not_le.mp c23 | exact Int.not_lt.mp c23 | exact Decidable.not_not.mp c23
                  refine st_gr jo_176 jr_176_28 ?_
                  refine st_si jo_202 (show 0 ≤ x2 by omega) (show x2 < ((6 : Nat) : Int) by omega) (fun hx => (jba_202 _ _).2 (show (-1 ≤ (-1) ∧ (-1) ≤ 15) ∨ (-1) = 100 by omega)) (fun g35 eg35 => ?_)
                  replace eg35 : g35 = jup g 202 x2 (-1) := eg35
                  have fg35 : jfr w_X12_moveAll h g35 := jfr_up hf eg35 (by unfold w_X12_moveAll; omega)
                  have e36 : g35 202 x2 = (-1) := jup_s eg35
                  refine st_gr jo_176 jr_176_18 ?_
                  refine st_si jo_192 (show 0 ≤ v10 by omega) (show v10 < ((16 : Nat) : Int) by omega) (fun hx => (jba_192 _ _).2 (show 0 ≤ 2 ∧ 2 ≤ 3 by omega)) (fun g37 eg37 => ?_)
                  replace eg37 : g37 = jup g35 192 v10 2 := eg37
                  have fg37 : jfr w_X12_moveAll h g37 := jfr_up fg35 eg37 (by unfold w_X12_moveAll; omega)
                  have e38 : g37 192 v10 = 2 := jup_s eg37
                  refine st_gr jo_176 jr_176_19 ?_
                  refine st_si jo_193 (show 0 ≤ v10 by omega) (show v10 < ((16 : Nat) : Int) by omega) (fun hx => (jba_193 _ _).2 (show -9 ≤ (-9) ∧ (-9) ≤ 5 by omega)) (fun g39 eg39 => ?_)
                  replace eg39 : g39 = jup g37 193 v10 (-9) := eg39
                  have fg39 : jfr w_X12_moveAll h g39 := jfr_up fg37 eg39 (by unfold w_X12_moveAll; omega)
                  have e40 : g39 193 v10 = (-9) := jup_s eg39
                  refine st_gr jo_176 jr_176_24 ?_
                  refine st_gi jo_176 (fun v41 ev41 b42 => ?_)
                  replace ev41 : v41 = g39 176 0 := ev41
                  replace b42 := (jbf_12_0 jo_176 _).1 b42
                  have e43 : g39 176 0 = g37 176 0 := jup_o eg39 (by omega)
                  have e44 : g37 176 0 = g35 176 0 := jup_o eg37 (by omega)
                  have e45 : g35 176 0 = g 176 0 := jup_o eg35 (by omega)
                  refine st_si jo_198 (show 0 ≤ v10 by omega) (show v10 < ((16 : Nat) : Int) by omega) (fun hx => (jba_198 _ _).2 hx) (fun g46 eg46 => ?_)
                  replace eg46 : g46 = jup g39 198 v10 v41 := eg46
                  have fg46 : jfr w_X12_moveAll h g46 := jfr_up fg39 eg46 (by unfold w_X12_moveAll; omega)
                  have e47 : g46 198 v10 = v41 := jup_s eg46
                  show jGo E l 90 229 229 _ 115 [.inr (.inr (.inl 176)), .inl (jw32 (x1 + 1)), .inl x2, .inl v10] [] 229 jr0 g46
                  refine jGo_blk qX12_moveAll_115 ?_
                  have e48 : jw32 (x2 + (-1)) = x2 + (-1) := j32e (by omega) (by omega)
                  show jGo E l 90 229 229 _ 4 [.inr (.inr (.inl 176)), .inl (jw32 (x1 + 1)), .inl (jw32 (x2 + (-1))), .inl v10] [] 229 jr0 g46
                  exact ih (jw32 (x1 + 1)) (jw32 (x2 + (-1))) (.inl v10) g46 (by omega) fg46 (by omega)
              · replace c22 : 0 < v20 := by first | exact c22 | exact Int.not_le.mp c22 | exact Int.not_lt.mp c22 | exact Decidable.not_not.mp c22
                show jGo E l 90 229 229 _ 115 [.inr (.inr (.inl 176)), .inl x1, .inl x2, .inl v10] [] 229 jr0 g
                refine jGo_blk qX12_moveAll_115 ?_
                have e49 : jw32 (x2 + (-1)) = x2 + (-1) := j32e (by omega) (by omega)
                show jGo E l 90 229 229 _ 4 [.inr (.inr (.inl 176)), .inl x1, .inl (jw32 (x2 + (-1))), .inl v10] [] 229 jr0 g
                exact ih x1 (jw32 (x2 + (-1))) (.inl v10) g (by omega) hf (by omega)
  refine jGo_blk qX12_moveAll_0 ?_
  show jGo E l 90 229 229 _ 4 [.inr (.inr (.inl 176)), .inl 0, .inl 5, .inr (.inr (.inr ()))] [] 229 jr0 h
  exact (key 1000000000000) 0 5 (.inr (.inr (.inr ()))) h (by omega) f0 (by omega)
