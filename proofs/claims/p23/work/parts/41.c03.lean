def w_X12_handsOn (i k : Int) : Prop := (i = 219)
def k_X12_handsOn (a1 : Int) (a2 : Int) (h : JH) (v : Option JV) (r' g : JH) : Prop := r' = jr0 ∧ jfr w_X12_handsOn h g ∧ ∃ x : Int, v = some (.inl x) ∧ (-7 ≤ x ∧ x ≤ 400) ∧ (P_X12_handsOn a1 a2 x h)
set_option maxHeartbeats 4000000 in
theorem c_X12_handsOn {E : JE} {l : Launch} (a1 : Int) (a2 : Int) (h : JH) : jMt E l 41 [.inr (.inr (.inl 176)), .inl a1, .inl a2] 229 jr0 h (k_X12_handsOn a1 a2 h) := by
  refine jMt0 (nL := 3) (ls := [.inr (.inr (.inl 176)), .inl a1, .inl a2]) (by decide +kernel) (by decide +kernel) (by decide +kernel) rfl rfl ?_
  have f0 : jfr w_X12_handsOn h h := jfr_rf _ _
  refine jGo_blk qX12_handsOn_0 ?_
  refine st_cs (na := 3) (st := [.inl 3, .inl 0, .inl a1]) rfl rfl rfl (c_X12_in a1 0 3 h) rfl ?_
  rintro _ _ _ ⟨rfl, rfl, t1, rfl, ht1, zt1⟩ kt1
  replace kt1 : -2147483648 ≤ t1 ∧ t1 ≤ 2147483647 := kt1
  replace ht1 : 0 ≤ t1 ∧ t1 ≤ 1 := ht1
  replace zt1 : (t1 = 1 ∧ (0 : Int) ≤ a1 ∧ a1 ≤ (3 : Int)) ∨ (t1 = 0 ∧ ¬ ((0 : Int) ≤ a1 ∧ a1 ≤ (3 : Int))) := zt1
  refine And.intro (fun c3 => ?_) (fun c3 => ?_)
  · replace c3 : ¬ t1 = 0 := c3
    show jGo E l 41 229 229 _ 15 [.inr (.inr (.inl 176)), .inl a1, .inl a2] [] 229 jr0 h
    refine jGo_blk qX12_handsOn_15 ?_
    refine And.intro (fun c4 => ?_) (fun c4 => ?_)
    · replace c4 : 0 ≤ a2 := c4
      show jGo E l 41 229 229 _ 26 [.inr (.inr (.inl 176)), .inl a1, .inl a2] [] 229 jr0 h
      refine jGo_blk qX12_handsOn_26 ?_
      refine And.intro (fun c5 => ?_) (fun c5 => ?_)
      · replace c5 : a2 ≤ 2000 := c5
        show jGo E l 41 229 229 _ 42 [.inr (.inr (.inl 176)), .inl a1, .inl a2] [] 229 jr0 h
        refine jGo_blk qX12_handsOn_42 ?_
        refine st_cv (na := 2) (st := [.inl a2, .inl a1, .inr (.inr (.inl 176))]) jo_176 rfl rfl rfl (c_X12_handsAt a1 a2 h (by omega) (by omega)) rfl ?_
        rintro _ _ _ ⟨rfl, rfl, t6, rfl, ht6, zt6⟩ kt6
        replace kt6 : -2147483648 ≤ t6 ∧ t6 ≤ 2147483647 := kt6
        replace ht6 : 0 ≤ t6 ∧ t6 ≤ 400 := ht6
        replace zt6 : t6 = jHm h a1 a2 ∧ -1 ≤ h 178 a1 ∧ h 178 a1 ≤ 3 ∧ (h 178 a1 < 0 ∨ h 179 (h 178 a1) ≤ 30) := zt6
        have y8 := zt6.1
        show jGo E l 41 229 229 _ 48 [.inr (.inr (.inl 176)), .inl a1, .inl a2] [.inl t6] 229 jr0 h
        refine jGo_blk qX12_handsOn_48 ?_
        exact st_r0 (ls := []) ⟨rfl, rfl, f0, t6, rfl, (by omega), (by unfold P_X12_handsOn; by_cases zz : t6 = -4 <;> first | exact Or.inl (by omega) | exact Or.inr (Or.inl (by omega)) | exact Or.inr (Or.inr (Or.inl (by omega))) | exact Or.inr (Or.inr (Or.inr (by omega))))⟩
      · replace c5 : 2000 < a2 := by first | exact c5 | exact Int.not_le.mp c5 | exact Int.not_lt.mp c5 | exact Decidable.not_not.mp c5
        refine st_cv (na := 1) (st := [.inl (-6), .inr (.inr (.inl 176))]) jo_176 rfl rfl rfl (c_X12_refuse (-6) h (by omega)) rfl ?_
        rintro _ _ g10 ⟨rfl, ft9, t9, rfl, ht9, zt9⟩ kt9
        replace kt9 : -2147483648 ≤ t9 ∧ t9 ≤ 2147483647 := kt9
        replace ht9 : -7 ≤ t9 ∧ t9 ≤ -1 := ht9
        have fg10 : jfr w_X12_handsOn h g10 := jfr_tr f0 ft9 (fun i k q => by unfold w_X12_refuse at q; unfold w_X12_handsOn; omega)
        replace zt9 : t9 = (-6 : Int) := zt9
        show jGo E l 41 229 229 _ 48 [.inr (.inr (.inl 176)), .inl a1, .inl a2] [.inl t9] 229 jr0 g10
        refine jGo_blk qX12_handsOn_48 ?_
        exact st_r0 (ls := []) ⟨rfl, rfl, fg10, t9, rfl, (by omega), (by unfold P_X12_handsOn; by_cases zz : t9 = -4 <;> first | exact Or.inl (by omega) | exact Or.inr (Or.inl (by omega)) | exact Or.inr (Or.inr (Or.inl (by omega))) | exact Or.inr (Or.inr (Or.inr (by omega))))⟩
    · replace c4 : a2 < 0 := by first | exact c4 | exact Int.not_le.mp c4 | exact Int.not_lt.mp c4 | exact Decidable.not_not.mp c4
      refine st_cv (na := 1) (st := [.inl (-4), .inr (.inr (.inl 176))]) jo_176 rfl rfl rfl (c_X12_refuse (-4) h (by omega)) rfl ?_
      rintro _ _ g12 ⟨rfl, ft11, t11, rfl, ht11, zt11⟩ kt11
      replace kt11 : -2147483648 ≤ t11 ∧ t11 ≤ 2147483647 := kt11
      replace ht11 : -7 ≤ t11 ∧ t11 ≤ -1 := ht11
      have fg12 : jfr w_X12_handsOn h g12 := jfr_tr f0 ft11 (fun i k q => by unfold w_X12_refuse at q; unfold w_X12_handsOn; omega)
      replace zt11 : t11 = (-4 : Int) := zt11
      exact st_r0 (ls := []) ⟨rfl, rfl, fg12, t11, rfl, (by omega), (by unfold P_X12_handsOn; by_cases zz : t11 = -4 <;> first | exact Or.inl (by omega) | exact Or.inr (Or.inl (by omega)) | exact Or.inr (Or.inr (Or.inl (by omega))) | exact Or.inr (Or.inr (Or.inr (by omega))))⟩
  · replace c3 : t1 = 0 := by first | exact c3 | exact Int.not_le.mp c3 | exact Int.not_lt.mp c3 | exact Decidable.not_not.mp c3
    refine st_cv (na := 1) (st := [.inl (-1), .inr (.inr (.inl 176))]) jo_176 rfl rfl rfl (c_X12_refuse (-1) h (by omega)) rfl ?_
    rintro _ _ g14 ⟨rfl, ft13, t13, rfl, ht13, zt13⟩ kt13
    replace kt13 : -2147483648 ≤ t13 ∧ t13 ≤ 2147483647 := kt13
    replace ht13 : -7 ≤ t13 ∧ t13 ≤ -1 := ht13
    have fg14 : jfr w_X12_handsOn h g14 := jfr_tr f0 ft13 (fun i k q => by unfold w_X12_refuse at q; unfold w_X12_handsOn; omega)
    replace zt13 : t13 = (-1 : Int) := zt13
    exact st_r0 (ls := []) ⟨rfl, rfl, fg14, t13, rfl, (by omega), (by unfold P_X12_handsOn; by_cases zz : t13 = -4 <;> first | exact Or.inl (by omega) | exact Or.inr (Or.inl (by omega)) | exact Or.inr (Or.inr (Or.inl (by omega))) | exact Or.inr (Or.inr (Or.inr (by omega))))⟩

def k_X2_slotOf (a0 : Int) (a1 : Int) (h : JH) (v : Option JV) (r' g : JH) : Prop := r' = jr0 ∧ h = g ∧ ∃ x : Int, v = some (.inl x) ∧ (0 ≤ x ∧ x ≤ 9) ∧ (x = jsl a0 a1)
set_option maxHeartbeats 4000000 in
theorem c_X2_slotOf {E : JE} {l : Launch} (a0 : Int) (a1 : Int) (h : JH) (p1 : 0 ≤ a1 ∧ a1 ≤ 3) : jMt E l 42 [.inl a0, .inl a1] 229 jr0 h (k_X2_slotOf a0 a1 h) := by
  refine jMt0 (nL := 2) (ls := [.inl a0, .inl a1]) (by decide +kernel) (by decide +kernel) (by decide +kernel) rfl rfl ?_
  refine jGo_blk qX2_slotOf_0 ?_
  refine And.intro (fun c1 => ?_) (And.intro (fun c1 => ?_) (And.intro (fun c1 => ?_) (And.intro (fun c1 => ?_) (trivial))))
  · replace c1 : a0 < 0 ∨ 2 < a0 := c1
    show jGo E l 42 229 229 _ 37 [.inl a0, .inl a1] [] 229 jr0 h
    refine jGo_blk qX2_slotOf_37 ?_
    exact st_r0 (ls := []) ⟨rfl, rfl, rfl, 9, rfl, (by omega), (by unfold jsl; omega)⟩
  · replace c1 : a0 = 0 := c1
    show jGo E l 42 229 229 _ 28 [.inl a0, .inl a1] [] 229 jr0 h
    refine jGo_blk qX2_slotOf_28 ?_
    exact st_r0 (ls := []) ⟨rfl, rfl, rfl, a1, rfl, (by omega), (by unfold jsl; omega)⟩
  · replace c1 : a0 = 1 := c1
    show jGo E l 42 229 229 _ 30 [.inl a0, .inl a1] [] 229 jr0 h
    refine jGo_blk qX2_slotOf_30 ?_
    have e2 : jw32 (4 + a1) = 4 + a1 := j32e (by omega) (by omega)
    exact st_r0 (ls := []) ⟨rfl, rfl, rfl, jw32 (4 + a1), rfl, (by omega), (by unfold jsl; omega)⟩
  · replace c1 : a0 = 2 := c1
    show jGo E l 42 229 229 _ 34 [.inl a0, .inl a1] [] 229 jr0 h
    refine jGo_blk qX2_slotOf_34 ?_
    exact st_r0 (ls := []) ⟨rfl, rfl, rfl, 8, rfl, (by omega), (by unfold jsl; omega)⟩

def w_X2_insert (i k : Int) : Prop := (12 ≤ i ∧ i ≤ 14) ∨ (i = 11 ∧ k = 0)
def k_X2_insert (a1 : Int) (a2 : Int) (a3 : Int) (h : JH) (v : Option JV) (r' g : JH) : Prop := r' = jr0 ∧ jfr w_X2_insert h g ∧ v = none ∧ (jIns a1 a2 a3 h g)
set_option maxHeartbeats 4000000 in
theorem c_X2_insert {E : JE} {l : Launch} (a1 : Int) (a2 : Int) (a3 : Int) (h : JH) (p1 : 0 ≤ a1 ∧ a1 ≤ 9) (p2 : 0 ≤ a2 ∧ a2 ≤ 200) (p3 : 0 ≤ a3 ∧ a3 ≤ 2000) (q0 : h 11 0 ≤ 39) : jMt E l 43 [.inr (.inr (.inl 11)), .inl a1, .inl a2, .inl a3] 229 jr0 h (k_X2_insert a1 a2 a3 h) := by
  refine jMt0 (nL := 5) (ls := [.inr (.inr (.inl 11)), .inl a1, .inl a2, .inl a3, .inr (.inr (.inr ()))]) (by decide +kernel) (by decide +kernel) (by decide +kernel) rfl rfl ?_
  have f0 : jfr w_X2_insert h h := jfr_rf _ _
  have key : ∀ N : Nat, (∀ (x4 : Int) (g : JH), (0 ≤ x4 ∧ x4 ≤ 39) → (g 11 0 = h 11 0) → (x4 ≤ h 11 0 ∧ (∀ i j : Int, 12 ≤ i → i ≤ 14 → 0 ≤ j → j < x4 → g i j = h i j) ∧ (∀ i j : Int, 12 ≤ i → i ≤ 14 → x4 ≤ j → j < h 11 0 → g i (j + 1) = h i j) ∧ ∀ j : Int, x4 ≤ j → j < h 11 0 → a3 < h 14 j) → jfr w_X2_insert h g → (x4 - 0) < (N : Int) → jGo E l 43 229 229 (jRK (k_X2_insert a1 a2 a3 h)) 6 [.inr (.inr (.inl 11)), .inl a1, .inl a2, .inl a3, .inl x4] [] 229 jr0 g) := by
    intro N
    induction N with
    | zero => exact fun _ _ hi hx0 hx1 _ hN => absurd hN (by omega)
    | succ N ih =>
      intro x4 g hi hx0 hx1 hf hN
      refine jGo_blk qX2_insert_6 ?_
      refine And.intro (fun c1 => ?_) (fun c1 => ?_)
      · replace c1 : x4 ≤ 0 := c1
        show jGo E l 43 229 229 _ 78 [.inr (.inr (.inl 11)), .inl a1, .inl a2, .inl a3, .inl x4] [] 229 jr0 g
        refine jGo_blk qX2_insert_78 ?_
        refine st_gr jo_11 jr_11_1 ?_
        refine st_si jo_12 (show 0 ≤ x4 by omega) (show x4 < ((40 : Nat) : Int) by omega) (fun hx => (jba_12 _ _).2 (show 0 ≤ a1 ∧ a1 ≤ 9 by omega)) (fun g2 eg2 => ?_)
        replace eg2 : g2 = jup g 12 x4 a1 := eg2
        have fg2 : jfr w_X2_insert h g2 := jfr_up hf eg2 (by unfold w_X2_insert; omega)
        have e3 : g2 12 x4 = a1 := jup_s eg2
        refine st_gr jo_11 jr_11_2 ?_
        refine st_si jo_13 (show 0 ≤ x4 by omega) (show x4 < ((40 : Nat) : Int) by omega) (fun hx => (jba_13 _ _).2 (show 0 ≤ a2 ∧ a2 ≤ 200 by omega)) (fun g4 eg4 => ?_)
        replace eg4 : g4 = jup g2 13 x4 a2 := eg4
        have fg4 : jfr w_X2_insert h g4 := jfr_up fg2 eg4 (by unfold w_X2_insert; omega)
        have e5 : g4 13 x4 = a2 := jup_s eg4
        refine st_gr jo_11 jr_11_3 ?_
        refine st_si jo_14 (show 0 ≤ x4 by omega) (show x4 < ((40 : Nat) : Int) by omega) (fun hx => (jba_14 _ _).2 (show 0 ≤ a3 ∧ a3 ≤ 2000 by omega)) (fun g6 eg6 => ?_)
        replace eg6 : g6 = jup g4 14 x4 a3 := eg6
        have fg6 : jfr w_X2_insert h g6 := jfr_up fg4 eg6 (by unfold w_X2_insert; omega)
        have e7 : g6 14 x4 = a3 := jup_s eg6
        refine st_gi jo_11 (fun v8 ev8 b9 => ?_)
        replace ev8 : v8 = g6 11 0 := ev8
        replace b9 := (jbf_2_0 jo_11 _).1 b9
        have e10 : g6 11 0 = g4 11 0 := jup_o eg6 (by omega)
        have e11 : g4 11 0 = g2 11 0 := jup_o eg4 (by omega)
        have e12 : g2 11 0 = g 11 0 := jup_o eg2 (by omega)
        have e13 : jw32 (v8 + 1) = v8 + 1 := j32e (by omega) (by omega)
        refine st_pi jo_11 (fun hx => (jbf_2_0 jo_11 _).2 (show 0 ≤ jw32 (v8 + 1) ∧ jw32 (v8 + 1) ≤ 40 by omega)) (fun g14 eg14 => ?_)
        replace eg14 : g14 = jup g6 11 0 (jw32 (v8 + 1)) := eg14
        have fg14 : jfr w_X2_insert h g14 := jfr_up fg6 eg14 (by unfold w_X2_insert; omega)
        have e15 : g14 11 0 = jw32 (v8 + 1) := jup_s eg14
        have hc16 : jIns a1 a2 a3 h g14 := by
          refine ⟨by omega, x4, by omega, hx1.1, Or.inl (by omega), fun i j q1 q2 q3 q4 => ?_, fun i j q1 q2 q3 q4 => ?_, hx1.2.2.2, ?_, ?_, ?_⟩
          · have E0 := jup_i eg14 i j; have E1 := jup_i eg6 i j; have E2 := jup_i eg4 i j; have E3 := jup_i eg2 i j; have E9 := hx1.2.1 i j q1 q2 q3 q4; omega
          · have E0 := jup_i eg14 i (j + 1); have E1 := jup_i eg6 i (j + 1); have E2 := jup_i eg4 i (j + 1); have E3 := jup_i eg2 i (j + 1); have E9 := hx1.2.2.1 i j q1 q2 q3 q4; omega
          · have E0 := jup_i eg14 12 x4; have E1 := jup_i eg6 12 x4; have E2 := jup_i eg4 12 x4; have E3 := jup_i eg2 12 x4; omega
          · have E0 := jup_i eg14 13 x4; have E1 := jup_i eg6 13 x4; have E2 := jup_i eg4 13 x4; have E3 := jup_i eg2 13 x4; omega
          · have E0 := jup_i eg14 14 x4; have E1 := jup_i eg6 14 x4; have E2 := jup_i eg4 14 x4; have E3 := jup_i eg2 14 x4; omega
        exact ⟨rfl, rfl, fg14, rfl, (by exact hc16)⟩
      · replace c1 : 0 < x4 := by first | exact c1 | exact Int.not_le.mp c1 | exact Int.not_lt.mp c1 | exact Decidable.not_not.mp c1
        refine st_gr jo_11 jr_11_3 ?_
        have e17 : jw32 (x4 - 1) = x4 - 1 := j32e (by omega) (by omega)
        refine st_ai jo_14 (show 0 ≤ jw32 (x4 - 1) by omega) (show jw32 (x4 - 1) < ((40 : Nat) : Int) by omega) (fun v18 ev18 b19 => ?_)
        replace ev18 : v18 = g 14 (jw32 (x4 - 1)) := ev18
        replace b19 := (jba_14 (jw32 (x4 - 1)) _).1 b19
        refine And.intro (fun c20 => ?_) (fun c20 => ?_)
        · replace c20 : v18 ≤ a3 := c20
          show jGo E l 43 229 229 _ 78 [.inr (.inr (.inl 11)), .inl a1, .inl a2, .inl a3, .inl x4] [] 229 jr0 g
          refine jGo_blk qX2_insert_78 ?_
          refine st_gr jo_11 jr_11_1 ?_
          refine st_si jo_12 (show 0 ≤ x4 by omega) (show x4 < ((40 : Nat) : Int) by omega) (fun hx => (jba_12 _ _).2 (show 0 ≤ a1 ∧ a1 ≤ 9 by omega)) (fun g21 eg21 => ?_)
          replace eg21 : g21 = jup g 12 x4 a1 := eg21
          have fg21 : jfr w_X2_insert h g21 := jfr_up hf eg21 (by unfold w_X2_insert; omega)
          have e22 : g21 12 x4 = a1 := jup_s eg21
          refine st_gr jo_11 jr_11_2 ?_
          refine st_si jo_13 (show 0 ≤ x4 by omega) (show x4 < ((40 : Nat) : Int) by omega) (fun hx => (jba_13 _ _).2 (show 0 ≤ a2 ∧ a2 ≤ 200 by omega)) (fun g23 eg23 => ?_)
          replace eg23 : g23 = jup g21 13 x4 a2 := eg23
          have fg23 : jfr w_X2_insert h g23 := jfr_up fg21 eg23 (by unfold w_X2_insert; omega)
          have e24 : g23 13 x4 = a2 := jup_s eg23
          refine st_gr jo_11 jr_11_3 ?_
          refine st_si jo_14 (show 0 ≤ x4 by omega) (show x4 < ((40 : Nat) : Int) by omega) (fun hx => (jba_14 _ _).2 (show 0 ≤ a3 ∧ a3 ≤ 2000 by omega)) (fun g25 eg25 => ?_)
          replace eg25 : g25 = jup g23 14 x4 a3 := eg25
          have fg25 : jfr w_X2_insert h g25 := jfr_up fg23 eg25 (by unfold w_X2_insert; omega)
          have e26 : g25 14 x4 = a3 := jup_s eg25
          refine st_gi jo_11 (fun v27 ev27 b28 => ?_)
          replace ev27 : v27 = g25 11 0 := ev27
          replace b28 := (jbf_2_0 jo_11 _).1 b28
          have e29 : g25 11 0 = g23 11 0 := jup_o eg25 (by omega)
          have e30 : g23 11 0 = g21 11 0 := jup_o eg23 (by omega)
          have e31 : g21 11 0 = g 11 0 := jup_o eg21 (by omega)
          have e32 : jw32 (v27 + 1) = v27 + 1 := j32e (by omega) (by omega)
          refine st_pi jo_11 (fun hx => (jbf_2_0 jo_11 _).2 (show 0 ≤ jw32 (v27 + 1) ∧ jw32 (v27 + 1) ≤ 40 by omega)) (fun g33 eg33 => ?_)
          replace eg33 : g33 = jup g25 11 0 (jw32 (v27 + 1)) := eg33
          have fg33 : jfr w_X2_insert h g33 := jfr_up fg25 eg33 (by unfold w_X2_insert; omega)
          have e34 : g33 11 0 = jw32 (v27 + 1) := jup_s eg33
          have hc35 : jIns a1 a2 a3 h g33 := by
            have u0 : jw32 (x4 - 1) = x4 - 1 := j32e (by omega) (by omega)
            have R17 : v18 = h 14 (x4 - 1) := ev18.trans (by rw [u0]; exact hx1.2.1 14 (x4 - 1) (by decide) (by decide) (by omega) (by omega))
            refine ⟨by omega, x4, by omega, hx1.1, Or.inr (by omega), fun i j q1 q2 q3 q4 => ?_, fun i j q1 q2 q3 q4 => ?_, hx1.2.2.2, ?_, ?_, ?_⟩
            · have E0 := jup_i eg33 i j; have E1 := jup_i eg25 i j; have E2 := jup_i eg23 i j; have E3 := jup_i eg21 i j; have E9 := hx1.2.1 i j q1 q2 q3 q4; omega
            · have E0 := jup_i eg33 i (j + 1); have E1 := jup_i eg25 i (j + 1); have E2 := jup_i eg23 i (j + 1); have E3 := jup_i eg21 i (j + 1); have E9 := hx1.2.2.1 i j q1 q2 q3 q4; omega
            · have E0 := jup_i eg33 12 x4; have E1 := jup_i eg25 12 x4; have E2 := jup_i eg23 12 x4; have E3 := jup_i eg21 12 x4; omega
            · have E0 := jup_i eg33 13 x4; have E1 := jup_i eg25 13 x4; have E2 := jup_i eg23 13 x4; have E3 := jup_i eg21 13 x4; omega
            · have E0 := jup_i eg33 14 x4; have E1 := jup_i eg25 14 x4; have E2 := jup_i eg23 14 x4; have E3 := jup_i eg21 14 x4; omega
          exact ⟨rfl, rfl, fg33, rfl, (by exact hc35)⟩
        · replace c20 : a3 < v18 := by first | exact c20 | exact Int.not_le.mp c20 | exact Int.not_lt.mp c20 | exact Decidable.not_not.mp c20
          refine st_gr jo_11 jr_11_1 ?_
          refine st_gr jo_11 jr_11_1 ?_
          have e36 : jw32 (x4 - 1) = x4 - 1 := j32e (by omega) (by omega)
          refine st_ai jo_12 (show 0 ≤ jw32 (x4 - 1) by omega) (show jw32 (x4 - 1) < ((40 : Nat) : Int) by omega) (fun v37 ev37 b38 => ?_)
          replace ev37 : v37 = g 12 (jw32 (x4 - 1)) := ev37
          replace b38 := (jba_12 (jw32 (x4 - 1)) _).1 b38
          refine st_si jo_12 (show 0 ≤ x4 by omega) (show x4 < ((40 : Nat) : Int) by omega) (fun hx => (jba_12 _ _).2 (show 0 ≤ v37 ∧ v37 ≤ 9 by omega)) (fun g39 eg39 => ?_)
          replace eg39 : g39 = jup g 12 x4 v37 := eg39
          have fg39 : jfr w_X2_insert h g39 := jfr_up hf eg39 (by unfold w_X2_insert; omega)
          have e40 : g39 12 x4 = v37 := jup_s eg39
          refine st_gr jo_11 jr_11_2 ?_
          refine st_gr jo_11 jr_11_2 ?_
          have e41 : jw32 (x4 - 1) = x4 - 1 := j32e (by omega) (by omega)
          refine st_ai jo_13 (show 0 ≤ jw32 (x4 - 1) by omega) (show jw32 (x4 - 1) < ((40 : Nat) : Int) by omega) (fun v42 ev42 b43 => ?_)
          replace ev42 : v42 = g39 13 (jw32 (x4 - 1)) := ev42
          replace b43 := (jba_13 (jw32 (x4 - 1)) _).1 b43
          refine st_si jo_13 (show 0 ≤ x4 by omega) (show x4 < ((40 : Nat) : Int) by omega) (fun hx => (jba_13 _ _).2 (show 0 ≤ v42 ∧ v42 ≤ 200 by omega)) (fun g44 eg44 => ?_)
          replace eg44 : g44 = jup g39 13 x4 v42 := eg44
          have fg44 : jfr w_X2_insert h g44 := jfr_up fg39 eg44 (by unfold w_X2_insert; omega)
          have e45 : g44 13 x4 = v42 := jup_s eg44
          refine st_gr jo_11 jr_11_3 ?_
          refine st_gr jo_11 jr_11_3 ?_
          have e46 : jw32 (x4 - 1) = x4 - 1 := j32e (by omega) (by omega)
          refine st_ai jo_14 (show 0 ≤ jw32 (x4 - 1) by omega) (show jw32 (x4 - 1) < ((40 : Nat) : Int) by omega) (fun v47 ev47 b48 => ?_)
          replace ev47 : v47 = g44 14 (jw32 (x4 - 1)) := ev47
          replace b48 := (jba_14 (jw32 (x4 - 1)) _).1 b48
          refine st_si jo_14 (show 0 ≤ x4 by omega) (show x4 < ((40 : Nat) : Int) by omega) (fun hx => (jba_14 _ _).2 (show 0 ≤ v47 ∧ v47 ≤ 2000 by omega)) (fun g49 eg49 => ?_)
          replace eg49 : g49 = jup g44 14 x4 v47 := eg49
          have fg49 : jfr w_X2_insert h g49 := jfr_up fg44 eg49 (by unfold w_X2_insert; omega)
          have e50 : g49 14 x4 = v47 := jup_s eg49
          have e51 : jw32 (x4 + (-1)) = x4 + (-1) := j32e (by omega) (by omega)
          show jGo E l 43 229 229 _ 6 [.inr (.inr (.inl 11)), .inl a1, .inl a2, .inl a3, .inl (jw32 (x4 + (-1)))] [] 229 jr0 g49
          have e52 : g49 11 0 = g44 11 0 := jup_o eg49 (by omega)
          have e53 : g44 11 0 = g39 11 0 := jup_o eg44 (by omega)
          have e54 : g39 11 0 = g 11 0 := jup_o eg39 (by omega)
          have hc55 : (jw32 (x4 + (-1))) ≤ h 11 0 ∧ (∀ i j : Int, 12 ≤ i → i ≤ 14 → 0 ≤ j → j < (jw32 (x4 + (-1))) → g49 i j = h i j) ∧ (∀ i j : Int, 12 ≤ i → i ≤ 14 → (jw32 (x4 + (-1))) ≤ j → j < h 11 0 → g49 i (j + 1) = h i j) ∧ ∀ j : Int, (jw32 (x4 + (-1))) ≤ j → j < h 11 0 → a3 < h 14 j := by
            have u0 : jw32 (x4 - 1) = x4 - 1 := j32e (by omega) (by omega)
            have R12 : v37 = h 12 (x4 - 1) := ev37.trans (by rw [u0]; exact hx1.2.1 12 (x4 - 1) (by decide) (by decide) (by omega) (by omega))
            have R13 : v42 = h 13 (x4 - 1) := ev42.trans ((jup_o eg39 (by omega)).trans (by rw [u0]; exact hx1.2.1 13 (x4 - 1) (by decide) (by decide) (by omega) (by omega)))
            have R14 : v47 = h 14 (x4 - 1) := ev47.trans ((jup_o eg44 (by omega)).trans ((jup_o eg39 (by omega)).trans (by rw [u0]; exact hx1.2.1 14 (x4 - 1) (by decide) (by decide) (by omega) (by omega))))
            have R17 : v18 = h 14 (x4 - 1) := ev18.trans (by rw [u0]; exact hx1.2.1 14 (x4 - 1) (by decide) (by decide) (by omega) (by omega))
            refine ⟨by omega, fun i j q1 q2 q3 q4 => ?_, fun i j q1 q2 q3 q4 => ?_, fun j q3 q4 => ?_⟩
            · have E1 := jup_i eg49 i j; have E2 := jup_i eg44 i j; have E3 := jup_i eg39 i j; have E4 := hx1.2.1 i j q1 q2 q3 (by omega); omega
            · by_cases z : j = x4 - 1
              · have E1 := jup_i eg49 i (j + 1); have E2 := jup_i eg44 i (j + 1); have E3 := jup_i eg39 i (j + 1)
                rcases (show i = 12 ∨ i = 13 ∨ i = 14 by omega) with y | y | y <;> subst y <;> rw [z] at E1 E2 E3 ⊢ <;> omega
              · have E1 := jup_i eg49 i (j + 1); have E2 := jup_i eg44 i (j + 1); have E3 := jup_i eg39 i (j + 1); have E4 := hx1.2.2.1 i j q1 q2 (by omega) q4; omega
            · by_cases z : j = x4 - 1
              · rw [z]; omega
              · exact hx1.2.2.2 j (by omega) q4
          exact ih (jw32 (x4 + (-1))) g49 (by omega) (by omega) (by exact hc55) fg49 (by omega)
  refine jGo_blk qX2_insert_0 ?_
  refine st_gi jo_11 (fun v56 ev56 b57 => ?_)
  replace ev56 : v56 = h 11 0 := ev56
  replace b57 := (jbf_2_0 jo_11 _).1 b57
  show jGo E l 43 229 229 _ 6 [.inr (.inr (.inl 11)), .inl a1, .inl a2, .inl a3, .inl v56] [] 229 jr0 h
  exact (key 1000000000000) v56 h (by omega) (by omega) (by exact ⟨by omega, fun i j _ _ _ _ => rfl, fun i j _ _ a b => absurd b (by omega), fun j a b => absurd b (by omega)⟩) f0 (by omega)

def w_X11_decree (i k : Int) : Prop := (i = 1) ∨ (12 ≤ i ∧ i ≤ 14) ∨ (i = 11 ∧ k = 0) ∨ (i = 111 ∧ 9 ≤ k ∧ k ≤ 11)
def k_X11_decree (a1 : Int) (a2 : Int) (a3 : Int) (a4 : Int) (h : JH) (v : Option JV) (r' g : JH) : Prop := r' = jr0 ∧ jfr w_X11_decree h g ∧ ∃ x : Int, v = some (.inl x) ∧ (-7 ≤ x ∧ x ≤ 39) ∧ (P_X11_decree a1 a2 a3 a4 x h g)
set_option maxHeartbeats 4000000 in
theorem c_X11_decree {E : JE} {l : Launch} (a1 : Int) (a2 : Int) (a3 : Int) (a4 : Int) (h : JH) : jMt E l 44 [.inr (.inr (.inl 0)), .inl a1, .inl a2, .inl a3, .inl a4] 229 jr0 h (k_X11_decree a1 a2 a3 a4 h) := by
  refine jMt0 (nL := 5) (ls := [.inr (.inr (.inl 0)), .inl a1, .inl a2, .inl a3, .inl a4]) (by decide +kernel) (by decide +kernel) (by decide +kernel) rfl rfl ?_
  have f0 : jfr w_X11_decree h h := jfr_rf _ _
  refine jGo_blk qX11_decree_0 ?_
  refine st_cs (na := 2) (st := [.inl 4, .inl a1]) rfl rfl rfl (c_X11_within a1 4 h) rfl ?_
  rintro _ _ _ ⟨rfl, rfl, t1, rfl, ht1, zt1⟩ kt1
  replace kt1 : -2147483648 ≤ t1 ∧ t1 ≤ 2147483647 := kt1
  replace ht1 : 0 ≤ t1 ∧ t1 ≤ 1 := ht1
  replace zt1 : (t1 = 1 ∧ 0 ≤ a1 ∧ a1 < (4 : Int)) ∨ (t1 = 0 ∧ ¬ (0 ≤ a1 ∧ a1 < (4 : Int))) := zt1
  refine And.intro (fun c3 => ?_) (fun c3 => ?_)
  · replace c3 : t1 = 0 := c3
    show jGo E l 44 229 229 _ 16 [.inr (.inr (.inl 0)), .inl a1, .inl a2, .inl a3, .inl a4] [] 229 jr0 h
    refine jGo_blk qX11_decree_16 ?_
    refine st_cv (na := 1) (st := [.inl (-1), .inr (.inr (.inl 0))]) jo_0 rfl rfl rfl (c_X11_refused (-1) h (by omega)) rfl ?_
    rintro _ _ g5 ⟨rfl, ft4, t4, rfl, ht4, zt4⟩ kt4
    replace kt4 : -2147483648 ≤ t4 ∧ t4 ≤ 2147483647 := kt4
    replace ht4 : -7 ≤ t4 ∧ t4 ≤ -1 := ht4
    have fg5 : jfr w_X11_decree h g5 := jfr_tr f0 ft4 (fun i k q => by unfold w_X11_refused at q; unfold w_X11_decree; omega)
    replace zt4 : t4 = (-1 : Int) := zt4
    have e6 : g5 11 0 = h 11 0 := ft4 11 0 (by unfold w_X11_refused; omega)
    have hs7 : ∀ i k : Int, 12 ≤ i → i ≤ 14 → g5 i k = h i k := fun i k p1 p2 => (ft4 i k (by unfold w_X11_refused; omega))
    exact st_r0 (ls := []) ⟨rfl, rfl, fg5, t4, rfl, (by omega), (by unfold P_X11_decree; first | exact Or.inl ⟨by omega, by omega, hs7⟩ | exact Or.inr (Or.inl ⟨by omega, by omega, hs7⟩) | exact Or.inr (Or.inr (Or.inl ⟨by omega, by omega, hs7⟩)))⟩
  · replace c3 : ¬ t1 = 0 := by first | exact c3 | exact Int.not_le.mp c3 | exact Int.not_lt.mp c3 | exact Decidable.not_not.mp c3
    refine st_cs (na := 2) (st := [.inl 4, .inl a2]) rfl rfl rfl (c_X11_within a2 4 h) rfl ?_
    rintro _ _ _ ⟨rfl, rfl, t8, rfl, ht8, zt8⟩ kt8
    replace kt8 : -2147483648 ≤ t8 ∧ t8 ≤ 2147483647 := kt8
    replace ht8 : 0 ≤ t8 ∧ t8 ≤ 1 := ht8
    replace zt8 : (t8 = 1 ∧ 0 ≤ a2 ∧ a2 < (4 : Int)) ∨ (t8 = 0 ∧ ¬ (0 ≤ a2 ∧ a2 < (4 : Int))) := zt8
    refine And.intro (fun c10 => ?_) (fun c10 => ?_)
    · replace c10 : ¬ t8 = 0 := c10
      show jGo E l 44 229 229 _ 22 [.inr (.inr (.inl 0)), .inl a1, .inl a2, .inl a3, .inl a4] [] 229 jr0 h
      refine jGo_blk qX11_decree_22 ?_
      refine st_xi (by decide) jx_k3 (jx_l3 E) (show 0 ≤ a1 by omega) (show a1 < ((4 : Nat) : Int) by omega) (fun v11 ev11 => ?_)
      have bv11 : 0 ≤ v11 ∧ v11 ≤ 1 := by rw [ev11]; exact jx_w3 E a1 (by omega) (by omega)
      replace ev11 : v11 = jxv E (-3) a1 := ev11
      have dv11 := jx_d3 E a1 (by omega) (by omega)
      refine And.intro (fun c12 => ?_) (fun c12 => ?_)
      · replace c12 : a3 < v11 := c12
        show jGo E l 44 229 229 _ 40 [.inr (.inr (.inl 0)), .inl a1, .inl a2, .inl a3, .inl a4] [] 229 jr0 h
        refine jGo_blk qX11_decree_40 ?_
        refine st_cv (na := 1) (st := [.inl (-4), .inr (.inr (.inl 0))]) jo_0 rfl rfl rfl (c_X11_refused (-4) h (by omega)) rfl ?_
        rintro _ _ g14 ⟨rfl, ft13, t13, rfl, ht13, zt13⟩ kt13
        replace kt13 : -2147483648 ≤ t13 ∧ t13 ≤ 2147483647 := kt13
        replace ht13 : -7 ≤ t13 ∧ t13 ≤ -1 := ht13
        have fg14 : jfr w_X11_decree h g14 := jfr_tr f0 ft13 (fun i k q => by unfold w_X11_refused at q; unfold w_X11_decree; omega)
        replace zt13 : t13 = (-4 : Int) := zt13
        have e15 : g14 11 0 = h 11 0 := ft13 11 0 (by unfold w_X11_refused; omega)
        have hs16 : ∀ i k : Int, 12 ≤ i → i ≤ 14 → g14 i k = h i k := fun i k p1 p2 => (ft13 i k (by unfold w_X11_refused; omega))
        exact st_r0 (ls := []) ⟨rfl, rfl, fg14, t13, rfl, (by omega), (by unfold P_X11_decree; first | exact Or.inl ⟨by omega, by omega, hs16⟩ | exact Or.inr (Or.inl ⟨by omega, by omega, hs16⟩) | exact Or.inr (Or.inr (Or.inl ⟨by omega, by omega, hs16⟩)))⟩
      · replace c12 : v11 ≤ a3 := by first | exact c12 | exact Int.not_le.mp c12 | exact Int.not_lt.mp c12 | exact Decidable.not_not.mp c12
        refine st_gi jo_0 (fun v17 ev17 b18 => ?_)
        replace ev17 : v17 = h 0 0 := ev17
        replace b18 := (jbf_11_0 jo_0 _).1 b18
        refine And.intro (fun c19 => ?_) (fun c19 => ?_)
        · replace c19 : v17 ≤ a4 := c19
          show jGo E l 44 229 229 _ 47 [.inr (.inr (.inl 0)), .inl a1, .inl a2, .inl a3, .inl a4] [] 229 jr0 h
          refine jGo_blk qX11_decree_47 ?_
          refine st_xi (by decide) jx_k4 (jx_l4 E) (show 0 ≤ a1 by omega) (show a1 < ((4 : Nat) : Int) by omega) (fun v20 ev20 => ?_)
          have bv20 : 9 ≤ v20 ∧ v20 ≤ 200 := by rw [ev20]; exact jx_w4 E a1 (by omega) (by omega)
          replace ev20 : v20 = jxv E (-4) a1 := ev20
          have dv20 := jx_d4 E a1 (by omega) (by omega)
          refine And.intro (fun c21 => ?_) (fun c21 => ?_)
          · replace c21 : v20 < a3 := c21
            show jGo E l 44 229 229 _ 76 [.inr (.inr (.inl 0)), .inl a1, .inl a2, .inl a3, .inl a4] [] 229 jr0 h
            refine jGo_blk qX11_decree_76 ?_
            refine st_cv (na := 1) (st := [.inl (-6), .inr (.inr (.inl 0))]) jo_0 rfl rfl rfl (c_X11_refused (-6) h (by omega)) rfl ?_
            rintro _ _ g23 ⟨rfl, ft22, t22, rfl, ht22, zt22⟩ kt22
            replace kt22 : -2147483648 ≤ t22 ∧ t22 ≤ 2147483647 := kt22
            replace ht22 : -7 ≤ t22 ∧ t22 ≤ -1 := ht22
            have fg23 : jfr w_X11_decree h g23 := jfr_tr f0 ft22 (fun i k q => by unfold w_X11_refused at q; unfold w_X11_decree; omega)
            replace zt22 : t22 = (-6 : Int) := zt22
            have e24 : g23 11 0 = h 11 0 := ft22 11 0 (by unfold w_X11_refused; omega)
            have hs25 : ∀ i k : Int, 12 ≤ i → i ≤ 14 → g23 i k = h i k := fun i k p1 p2 => (ft22 i k (by unfold w_X11_refused; omega))
            exact st_r0 (ls := []) ⟨rfl, rfl, fg23, t22, rfl, (by omega), (by unfold P_X11_decree; first | exact Or.inl ⟨by omega, by omega, hs25⟩ | exact Or.inr (Or.inl ⟨by omega, by omega, hs25⟩) | exact Or.inr (Or.inr (Or.inl ⟨by omega, by omega, hs25⟩)))⟩
          · replace c21 : a3 ≤ v20 := by first | exact c21 | exact Int.not_le.mp c21 | exact Int.not_lt.mp c21 | exact Decidable.not_not.mp c21
            refine And.intro (fun c26 => ?_) (fun c26 => ?_)
            · replace c26 : 2000 < a4 := c26
              show jGo E l 44 229 229 _ 76 [.inr (.inr (.inl 0)), .inl a1, .inl a2, .inl a3, .inl a4] [] 229 jr0 h
              refine jGo_blk qX11_decree_76 ?_
              refine st_cv (na := 1) (st := [.inl (-6), .inr (.inr (.inl 0))]) jo_0 rfl rfl rfl (c_X11_refused (-6) h (by omega)) rfl ?_
              rintro _ _ g28 ⟨rfl, ft27, t27, rfl, ht27, zt27⟩ kt27
              replace kt27 : -2147483648 ≤ t27 ∧ t27 ≤ 2147483647 := kt27
              replace ht27 : -7 ≤ t27 ∧ t27 ≤ -1 := ht27
              have fg28 : jfr w_X11_decree h g28 := jfr_tr f0 ft27 (fun i k q => by unfold w_X11_refused at q; unfold w_X11_decree; omega)
              replace zt27 : t27 = (-6 : Int) := zt27
              have e29 : g28 11 0 = h 11 0 := ft27 11 0 (by unfold w_X11_refused; omega)
              have hs30 : ∀ i k : Int, 12 ≤ i → i ≤ 14 → g28 i k = h i k := fun i k p1 p2 => (ft27 i k (by unfold w_X11_refused; omega))
              exact st_r0 (ls := []) ⟨rfl, rfl, fg28, t27, rfl, (by omega), (by unfold P_X11_decree; first | exact Or.inl ⟨by omega, by omega, hs30⟩ | exact Or.inr (Or.inl ⟨by omega, by omega, hs30⟩) | exact Or.inr (Or.inr (Or.inl ⟨by omega, by omega, hs30⟩)))⟩
            · replace c26 : a4 ≤ 2000 := by first | exact c26 | exact Int.not_le.mp c26 | exact Int.not_lt.mp c26 | exact Decidable.not_not.mp c26
              refine st_gr jo_0 jr_0_3 ?_
              refine st_gi jo_11 (fun v31 ev31 b32 => ?_)
              replace ev31 : v31 = h 11 0 := ev31
              replace b32 := (jbf_2_0 jo_11 _).1 b32
              refine And.intro (fun c33 => ?_) (fun c33 => ?_)
              · replace c33 : v31 < 40 := c33
                show jGo E l 44 229 229 _ 83 [.inr (.inr (.inl 0)), .inl a1, .inl a2, .inl a3, .inl a4] [] 229 jr0 h
                refine jGo_blk qX11_decree_83 ?_
                refine st_gr jo_0 jr_0_11 ?_
                refine st_cv (na := 0) (st := [.inr (.inr (.inl 111))]) jo_111 rfl rfl rfl (c_X7_forget h) rfl ?_
                rintro _ _ g35 ⟨rfl, ft34, rfl, zt34⟩ kt34
                have fg35 : jfr w_X11_decree h g35 := jfr_tr f0 ft34 (fun i k q => by unfold w_X7_forget at q; unfold w_X11_decree; omega)
                have e36 : g35 11 0 = h 11 0 := ft34 11 0 (by unfold w_X7_forget; omega)
                refine st_gr jo_0 jr_0_3 ?_
                refine st_cs (na := 2) (st := [.inl a2, .inl a1, .inr (.inr (.inl 11))]) rfl rfl rfl (c_X2_slotOf a1 a2 g35 (by omega)) rfl ?_
                rintro _ _ _ ⟨rfl, rfl, t37, rfl, ht37, zt37⟩ kt37
                replace kt37 : -2147483648 ≤ t37 ∧ t37 ≤ 2147483647 := kt37
                replace ht37 : 0 ≤ t37 ∧ t37 ≤ 9 := ht37
                replace zt37 : t37 = jsl a1 a2 := zt37
                have e39 : g35 11 0 = h 11 0 := ft34 11 0 (by unfold w_X7_forget; omega)
                refine st_cv (na := 3) (st := [.inl a4, .inl a3, .inl t37, .inr (.inr (.inl 11))]) jo_11 rfl rfl rfl (c_X2_insert t37 a3 a4 g35 (by omega) (by omega) (by omega) (by omega)) rfl ?_
                rintro _ _ g41 ⟨rfl, ft40, rfl, zt40⟩ kt40
                have fg41 : jfr w_X11_decree h g41 := jfr_tr fg35 ft40 (fun i k q => by unfold w_X2_insert at q; unfold w_X11_decree; omega)
                replace zt40 : jIns t37 a3 a4 g35 g41 := zt40
                have k9 := zt40.1
                refine st_gr jo_0 jr_0_3 ?_
                refine st_gi jo_11 (fun v42 ev42 b43 => ?_)
                replace ev42 : v42 = g41 11 0 := ev42
                replace b43 := (jbf_2_0 jo_11 _).1 b43
                have e44 : jw32 (v42 - 1) = v42 - 1 := j32e (by omega) (by omega)
                have hc45 : jIns (jsl a1 a2) a3 a4 h g41 := jIns_fr (fun i k q1 q2 q3 => (ft34 i k (by unfold w_X7_forget; omega))) (by rw [← zt37]; exact zt40)
                exact st_r0 (ls := []) ⟨rfl, rfl, fg41, jw32 (v42 - 1), rfl, (by omega), (by unfold P_X11_decree; exact Or.inr (Or.inr (Or.inr ⟨by omega, by omega, by omega, hc45⟩)))⟩
              · replace c33 : 40 ≤ v31 := by first | exact c33 | exact Int.not_le.mp c33 | exact Int.not_lt.mp c33 | exact Decidable.not_not.mp c33
                show jGo E l 44 229 229 _ 76 [.inr (.inr (.inl 0)), .inl a1, .inl a2, .inl a3, .inl a4] [] 229 jr0 h
                refine jGo_blk qX11_decree_76 ?_
                refine st_cv (na := 1) (st := [.inl (-6), .inr (.inr (.inl 0))]) jo_0 rfl rfl rfl (c_X11_refused (-6) h (by omega)) rfl ?_
                rintro _ _ g47 ⟨rfl, ft46, t46, rfl, ht46, zt46⟩ kt46
                replace kt46 : -2147483648 ≤ t46 ∧ t46 ≤ 2147483647 := kt46
                replace ht46 : -7 ≤ t46 ∧ t46 ≤ -1 := ht46
                have fg47 : jfr w_X11_decree h g47 := jfr_tr f0 ft46 (fun i k q => by unfold w_X11_refused at q; unfold w_X11_decree; omega)
                replace zt46 : t46 = (-6 : Int) := zt46
                have e48 : g47 11 0 = h 11 0 := ft46 11 0 (by unfold w_X11_refused; omega)
                have hs49 : ∀ i k : Int, 12 ≤ i → i ≤ 14 → g47 i k = h i k := fun i k p1 p2 => (ft46 i k (by unfold w_X11_refused; omega))
                exact st_r0 (ls := []) ⟨rfl, rfl, fg47, t46, rfl, (by omega), (by unfold P_X11_decree; first | exact Or.inl ⟨by omega, by omega, hs49⟩ | exact Or.inr (Or.inl ⟨by omega, by omega, hs49⟩) | exact Or.inr (Or.inr (Or.inl ⟨by omega, by omega, hs49⟩)))⟩
        · replace c19 : a4 < v17 := by first | exact c19 | exact Int.not_le.mp c19 | exact Int.not_lt.mp c19 | exact Decidable.not_not.mp c19
          show jGo E l 44 229 229 _ 40 [.inr (.inr (.inl 0)), .inl a1, .inl a2, .inl a3, .inl a4] [] 229 jr0 h
          refine jGo_blk qX11_decree_40 ?_
          refine st_cv (na := 1) (st := [.inl (-4), .inr (.inr (.inl 0))]) jo_0 rfl rfl rfl (c_X11_refused (-4) h (by omega)) rfl ?_
          rintro _ _ g51 ⟨rfl, ft50, t50, rfl, ht50, zt50⟩ kt50
          replace kt50 : -2147483648 ≤ t50 ∧ t50 ≤ 2147483647 := kt50
          replace ht50 : -7 ≤ t50 ∧ t50 ≤ -1 := ht50
          have fg51 : jfr w_X11_decree h g51 := jfr_tr f0 ft50 (fun i k q => by unfold w_X11_refused at q; unfold w_X11_decree; omega)
          replace zt50 : t50 = (-4 : Int) := zt50
          have e52 : g51 11 0 = h 11 0 := ft50 11 0 (by unfold w_X11_refused; omega)
          have hs53 : ∀ i k : Int, 12 ≤ i → i ≤ 14 → g51 i k = h i k := fun i k p1 p2 => (ft50 i k (by unfold w_X11_refused; omega))
          exact st_r0 (ls := []) ⟨rfl, rfl, fg51, t50, rfl, (by omega), (by unfold P_X11_decree; first | exact Or.inl ⟨by omega, by omega, hs53⟩ | exact Or.inr (Or.inl ⟨by omega, by omega, hs53⟩) | exact Or.inr (Or.inr (Or.inl ⟨by omega, by omega, hs53⟩)))⟩
    · replace c10 : t8 = 0 := by first | exact c10 | exact Int.not_le.mp c10 | exact Int.not_lt.mp c10 | exact Decidable.not_not.mp c10
      show jGo E l 44 229 229 _ 16 [.inr (.inr (.inl 0)), .inl a1, .inl a2, .inl a3, .inl a4] [] 229 jr0 h
      refine jGo_blk qX11_decree_16 ?_
      refine st_cv (na := 1) (st := [.inl (-1), .inr (.inr (.inl 0))]) jo_0 rfl rfl rfl (c_X11_refused (-1) h (by omega)) rfl ?_
      rintro _ _ g55 ⟨rfl, ft54, t54, rfl, ht54, zt54⟩ kt54
      replace kt54 : -2147483648 ≤ t54 ∧ t54 ≤ 2147483647 := kt54
      replace ht54 : -7 ≤ t54 ∧ t54 ≤ -1 := ht54
      have fg55 : jfr w_X11_decree h g55 := jfr_tr f0 ft54 (fun i k q => by unfold w_X11_refused at q; unfold w_X11_decree; omega)
      replace zt54 : t54 = (-1 : Int) := zt54
      have e56 : g55 11 0 = h 11 0 := ft54 11 0 (by unfold w_X11_refused; omega)
      have hs57 : ∀ i k : Int, 12 ≤ i → i ≤ 14 → g55 i k = h i k := fun i k p1 p2 => (ft54 i k (by unfold w_X11_refused; omega))
      exact st_r0 (ls := []) ⟨rfl, rfl, fg55, t54, rfl, (by omega), (by unfold P_X11_decree; first | exact Or.inl ⟨by omega, by omega, hs57⟩ | exact Or.inr (Or.inl ⟨by omega, by omega, hs57⟩) | exact Or.inr (Or.inr (Or.inl ⟨by omega, by omega, hs57⟩)))⟩
