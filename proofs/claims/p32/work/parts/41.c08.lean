def w_X12_task (i k : Int) : Prop := (186 ≤ i ∧ i ≤ 187) ∨ (i = 219)
def k_X12_task (a1 : Int) (a2 : Int) (a3 : Int) (a4 : Int) (h : JH) (v : Option JV) (r' g : JH) : Prop := r' = jr0 ∧ jfr w_X12_task h g ∧ ∃ x : Int, v = some (.inl x) ∧ (-7 ≤ x ∧ x ≤ 2000) ∧ ((P_X12_task a1 a2 a3 a4 x h g) ∧ jRx (x < 0) h g)
set_option maxHeartbeats 4000000 in
theorem c_X12_task {E : JE} {l : Launch} (a1 : Int) (a2 : Int) (a3 : Int) (a4 : Int) (h : JH) : jMt E l 53 [.inr (.inr (.inl 176)), .inl a1, .inl a2, .inl a3, .inl a4] 229 jr0 h (k_X12_task a1 a2 a3 a4 h) := by
  refine jMt0 (nL := 6) (ls := [.inr (.inr (.inl 176)), .inl a1, .inl a2, .inl a3, .inl a4, .inr (.inr (.inr ()))]) (by decide +kernel) (by decide +kernel) (by decide +kernel) rfl rfl ?_
  have f0 : jfr w_X12_task h h := jfr_rf _ _
  refine jGo_blk qX12_task_0 ?_
  refine st_cs (na := 3) (st := [.inl 2, .inl 0, .inl a1]) rfl rfl rfl (c_X12_in a1 0 2 h) rfl ?_
  rintro _ _ _ ⟨rfl, rfl, t1, rfl, ht1, zt1⟩ kt1
  replace kt1 : -2147483648 ≤ t1 ∧ t1 ≤ 2147483647 := kt1
  replace ht1 : 0 ≤ t1 ∧ t1 ≤ 1 := ht1
  replace zt1 : (t1 = 1 ∧ (0 : Int) ≤ a1 ∧ a1 ≤ (2 : Int)) ∨ (t1 = 0 ∧ ¬ ((0 : Int) ≤ a1 ∧ a1 ≤ (2 : Int))) := zt1
  refine And.intro (fun c3 => ?_) (fun c3 => ?_)
  · replace c3 : t1 = 0 := c3
    show jGo E l 53 229 229 _ 27 [.inr (.inr (.inl 176)), .inl a1, .inl a2, .inl a3, .inl a4, .inr (.inr (.inr ()))] [] 229 jr0 h
    refine jGo_blk qX12_task_27 ?_
    refine st_cv (na := 1) (st := [.inl (-1), .inr (.inr (.inl 176))]) jo_176 rfl rfl rfl (c_X12_refuse (-1) h (by omega)) rfl ?_
    rintro _ _ g5 ⟨rfl, ft4, t4, rfl, ht4, zt4⟩ kt4
    replace kt4 : -2147483648 ≤ t4 ∧ t4 ≤ 2147483647 := kt4
    replace ht4 : -7 ≤ t4 ∧ t4 ≤ -1 := ht4
    have fg5 : jfr w_X12_task h g5 := jfr_tr f0 ft4 (fun i k q => by unfold w_X12_refuse at q; unfold w_X12_task; omega)
    replace zt4 : t4 = (-1 : Int) := zt4
    have hs6 : ∀ i k : Int, 187 ≤ i → i ≤ 187 → g5 i k = h i k := fun i k p1 p2 => (ft4 i k (by unfold w_X12_refuse; omega))
    have hs7 : ∀ i k : Int, 186 ≤ i → i ≤ 186 → g5 i k = h i k := fun i k p1 p2 => (ft4 i k (by unfold w_X12_refuse; omega))
    exact st_r0 (ls := []) ⟨rfl, rfl, fg5, t4, rfl, (by omega), (by refine ⟨by unfold P_X12_task; by_cases zz : t4 = -4 <;> first | exact Or.inl ⟨by omega, hs6, hs7⟩ | exact Or.inr (Or.inl ⟨by omega, hs6, hs7⟩) | exact Or.inr (Or.inr (Or.inl ⟨by omega, hs6, hs7⟩)), fun _ i k q9 => ?_⟩; unfold jma at q9; exact (ft4 i k (by unfold w_X12_refuse; omega)))⟩
  · replace c3 : ¬ t1 = 0 := by first | exact c3 | exact Int.not_le.mp c3 | exact Int.not_lt.mp c3 | exact Decidable.not_not.mp c3
    refine st_cs (na := 3) (st := [.inl 5, .inl 0, .inl a2]) rfl rfl rfl (c_X12_in a2 0 5 h) rfl ?_
    rintro _ _ _ ⟨rfl, rfl, t8, rfl, ht8, zt8⟩ kt8
    replace kt8 : -2147483648 ≤ t8 ∧ t8 ≤ 2147483647 := kt8
    replace ht8 : 0 ≤ t8 ∧ t8 ≤ 1 := ht8
    replace zt8 : (t8 = 1 ∧ (0 : Int) ≤ a2 ∧ a2 ≤ (5 : Int)) ∨ (t8 = 0 ∧ ¬ ((0 : Int) ≤ a2 ∧ a2 ≤ (5 : Int))) := zt8
    refine And.intro (fun c10 => ?_) (fun c10 => ?_)
    · replace c10 : t8 = 0 := c10
      show jGo E l 53 229 229 _ 27 [.inr (.inr (.inl 176)), .inl a1, .inl a2, .inl a3, .inl a4, .inr (.inr (.inr ()))] [] 229 jr0 h
      refine jGo_blk qX12_task_27 ?_
      refine st_cv (na := 1) (st := [.inl (-1), .inr (.inr (.inl 176))]) jo_176 rfl rfl rfl (c_X12_refuse (-1) h (by omega)) rfl ?_
      rintro _ _ g12 ⟨rfl, ft11, t11, rfl, ht11, zt11⟩ kt11
      replace kt11 : -2147483648 ≤ t11 ∧ t11 ≤ 2147483647 := kt11
      replace ht11 : -7 ≤ t11 ∧ t11 ≤ -1 := ht11
      have fg12 : jfr w_X12_task h g12 := jfr_tr f0 ft11 (fun i k q => by unfold w_X12_refuse at q; unfold w_X12_task; omega)
      replace zt11 : t11 = (-1 : Int) := zt11
      have hs13 : ∀ i k : Int, 187 ≤ i → i ≤ 187 → g12 i k = h i k := fun i k p1 p2 => (ft11 i k (by unfold w_X12_refuse; omega))
      have hs14 : ∀ i k : Int, 186 ≤ i → i ≤ 186 → g12 i k = h i k := fun i k p1 p2 => (ft11 i k (by unfold w_X12_refuse; omega))
      exact st_r0 (ls := []) ⟨rfl, rfl, fg12, t11, rfl, (by omega), (by refine ⟨by unfold P_X12_task; by_cases zz : t11 = -4 <;> first | exact Or.inl ⟨by omega, hs13, hs14⟩ | exact Or.inr (Or.inl ⟨by omega, hs13, hs14⟩) | exact Or.inr (Or.inr (Or.inl ⟨by omega, hs13, hs14⟩)), fun _ i k q9 => ?_⟩; unfold jma at q9; exact (ft11 i k (by unfold w_X12_refuse; omega)))⟩
    · replace c10 : ¬ t8 = 0 := by first | exact c10 | exact Int.not_le.mp c10 | exact Int.not_lt.mp c10 | exact Decidable.not_not.mp c10
      refine st_cs (na := 3) (st := [.inl 3, .inl 0, .inl a3]) rfl rfl rfl (c_X12_in a3 0 3 h) rfl ?_
      rintro _ _ _ ⟨rfl, rfl, t15, rfl, ht15, zt15⟩ kt15
      replace kt15 : -2147483648 ≤ t15 ∧ t15 ≤ 2147483647 := kt15
      replace ht15 : 0 ≤ t15 ∧ t15 ≤ 1 := ht15
      replace zt15 : (t15 = 1 ∧ (0 : Int) ≤ a3 ∧ a3 ≤ (3 : Int)) ∨ (t15 = 0 ∧ ¬ ((0 : Int) ≤ a3 ∧ a3 ≤ (3 : Int))) := zt15
      refine And.intro (fun c17 => ?_) (fun c17 => ?_)
      · replace c17 : ¬ t15 = 0 := c17
        show jGo E l 53 229 229 _ 33 [.inr (.inr (.inl 176)), .inl a1, .inl a2, .inl a3, .inl a4, .inr (.inr (.inr ()))] [] 229 jr0 h
        refine jGo_blk qX12_task_33 ?_
        refine And.intro (fun c18 => ?_) (fun c18 => ?_)
        · replace c18 : 0 ≤ a4 := c18
          show jGo E l 53 229 229 _ 45 [.inr (.inr (.inl 176)), .inl a1, .inl a2, .inl a3, .inl a4, .inr (.inr (.inr ()))] [] 229 jr0 h
          refine jGo_blk qX12_task_45 ?_
          refine And.intro (fun c19 => ?_) (fun c19 => ?_)
          · replace c19 : a4 ≤ 2000 := c19
            show jGo E l 53 229 229 _ 60 [.inr (.inr (.inl 176)), .inl a1, .inl a2, .inl a3, .inl a4, .inr (.inr (.inr ()))] [] 229 jr0 h
            refine jGo_blk qX12_task_60 ?_
            refine st_gr jo_176 jr_176_12 ?_
            have e20 : jw32 (6 * a1) = 6 * a1 := j32e (by omega) (by omega)
            have e21 : jw32 ((jw32 (6 * a1)) + a2) = (jw32 (6 * a1)) + a2 := j32e (by omega) (by omega)
            refine st_ai jo_187 (show 0 ≤ jw32 ((jw32 (6 * a1)) + a2) by omega) (show jw32 ((jw32 (6 * a1)) + a2) < ((18 : Nat) : Int) by omega) (fun v22 ev22 b23 => ?_)
            replace ev22 : v22 = h 187 (jw32 ((jw32 (6 * a1)) + a2)) := ev22
            replace b23 := (jba_187 (jw32 ((jw32 (6 * a1)) + a2)) _).1 b23
            refine st_gr jo_176 jr_176_11 ?_
            have e24 : jw32 (6 * a1) = 6 * a1 := j32e (by omega) (by omega)
            have e25 : jw32 ((jw32 (6 * a1)) + a2) = (jw32 (6 * a1)) + a2 := j32e (by omega) (by omega)
            refine st_si jo_186 (show 0 ≤ jw32 ((jw32 (6 * a1)) + a2) by omega) (show jw32 ((jw32 (6 * a1)) + a2) < ((18 : Nat) : Int) by omega) (fun hx => (jba_186 _ _).2 (show 0 ≤ a3 ∧ a3 ≤ 3 by omega)) (fun g26 eg26 => ?_)
            replace eg26 : g26 = jup h 186 (jw32 ((jw32 (6 * a1)) + a2)) a3 := eg26
            have fg26 : jfr w_X12_task h g26 := jfr_up f0 eg26 (by unfold w_X12_task; omega)
            have e27 : g26 186 (jw32 ((jw32 (6 * a1)) + a2)) = a3 := jup_s eg26
            refine st_gr jo_176 jr_176_12 ?_
            have e28 : jw32 (6 * a1) = 6 * a1 := j32e (by omega) (by omega)
            have e29 : jw32 ((jw32 (6 * a1)) + a2) = (jw32 (6 * a1)) + a2 := j32e (by omega) (by omega)
            refine st_si jo_187 (show 0 ≤ jw32 ((jw32 (6 * a1)) + a2) by omega) (show jw32 ((jw32 (6 * a1)) + a2) < ((18 : Nat) : Int) by omega) (fun hx => (jba_187 _ _).2 (show 0 ≤ a4 ∧ a4 ≤ 2000 by omega)) (fun g30 eg30 => ?_)
            replace eg30 : g30 = jup g26 187 (jw32 ((jw32 (6 * a1)) + a2)) a4 := eg30
            have fg30 : jfr w_X12_task h g30 := jfr_up fg26 eg30 (by unfold w_X12_task; omega)
            have e31 : g30 187 (jw32 ((jw32 (6 * a1)) + a2)) = a4 := jup_s eg30
            have e32 : h 187 (jw32 ((jw32 (6 * a1)) + a2)) = h 187 (((6 * a1)) + a2) := congrArg (h 187) (show jw32 ((jw32 (6 * a1)) + a2) = (((6 * a1)) + a2) by omega)
            have hs33 : g30 187 (6 * a1 + a2) = a4 := by
              rw [show 6 * a1 + a2 = jw32 ((jw32 (6 * a1)) + a2) by omega]
              exact jup_s eg30
            have hs34 : ∀ i k : Int, 187 ≤ i → i ≤ 187 → ¬ (i = 187 ∧ k = 6 * a1 + a2) → g30 i k = h i k := fun i k p1 p2 p3 => ((jup_o eg30 (by omega)).trans (jup_o eg26 (by omega)))
            have hs35 : g30 186 (6 * a1 + a2) = a3 := by
              rw [show 6 * a1 + a2 = jw32 ((jw32 (6 * a1)) + a2) by omega]
              exact (jup_o eg30 (by omega)).trans (jup_s eg26)
            have hs36 : ∀ i k : Int, 186 ≤ i → i ≤ 186 → ¬ (i = 186 ∧ k = 6 * a1 + a2) → g30 i k = h i k := fun i k p1 p2 p3 => ((jup_o eg30 (by omega)).trans (jup_o eg26 (by omega)))
            exact st_r0 (ls := []) ⟨rfl, rfl, fg30, v22, rfl, (by omega), (by refine ⟨by unfold P_X12_task; first | exact Or.inr (Or.inr (Or.inr ⟨by omega, ⟨hs33, hs34⟩, ⟨hs35, hs36⟩⟩)), fun b9 => absurd b9 (by omega)⟩)⟩
          · replace c19 : 2000 < a4 := by first | exact c19 | exact Int.not_le.mp c19 | exact Int.not_lt.mp c19 | exact Decidable.not_not.mp c19
            refine st_cv (na := 1) (st := [.inl (-6), .inr (.inr (.inl 176))]) jo_176 rfl rfl rfl (c_X12_refuse (-6) h (by omega)) rfl ?_
            rintro _ _ g38 ⟨rfl, ft37, t37, rfl, ht37, zt37⟩ kt37
            replace kt37 : -2147483648 ≤ t37 ∧ t37 ≤ 2147483647 := kt37
            replace ht37 : -7 ≤ t37 ∧ t37 ≤ -1 := ht37
            have fg38 : jfr w_X12_task h g38 := jfr_tr f0 ft37 (fun i k q => by unfold w_X12_refuse at q; unfold w_X12_task; omega)
            replace zt37 : t37 = (-6 : Int) := zt37
            have hs39 : ∀ i k : Int, 187 ≤ i → i ≤ 187 → g38 i k = h i k := fun i k p1 p2 => (ft37 i k (by unfold w_X12_refuse; omega))
            have hs40 : ∀ i k : Int, 186 ≤ i → i ≤ 186 → g38 i k = h i k := fun i k p1 p2 => (ft37 i k (by unfold w_X12_refuse; omega))
            exact st_r0 (ls := []) ⟨rfl, rfl, fg38, t37, rfl, (by omega), (by refine ⟨by unfold P_X12_task; by_cases zz : t37 = -4 <;> first | exact Or.inl ⟨by omega, hs39, hs40⟩ | exact Or.inr (Or.inl ⟨by omega, hs39, hs40⟩) | exact Or.inr (Or.inr (Or.inl ⟨by omega, hs39, hs40⟩)), fun _ i k q9 => ?_⟩; unfold jma at q9; exact (ft37 i k (by unfold w_X12_refuse; omega)))⟩
        · replace c18 : a4 < 0 := by first | exact c18 | exact Int.not_le.mp c18 | exact Int.not_lt.mp c18 | exact Decidable.not_not.mp c18
          refine st_cv (na := 1) (st := [.inl (-4), .inr (.inr (.inl 176))]) jo_176 rfl rfl rfl (c_X12_refuse (-4) h (by omega)) rfl ?_
          rintro _ _ g42 ⟨rfl, ft41, t41, rfl, ht41, zt41⟩ kt41
          replace kt41 : -2147483648 ≤ t41 ∧ t41 ≤ 2147483647 := kt41
          replace ht41 : -7 ≤ t41 ∧ t41 ≤ -1 := ht41
          have fg42 : jfr w_X12_task h g42 := jfr_tr f0 ft41 (fun i k q => by unfold w_X12_refuse at q; unfold w_X12_task; omega)
          replace zt41 : t41 = (-4 : Int) := zt41
          have hs43 : ∀ i k : Int, 187 ≤ i → i ≤ 187 → g42 i k = h i k := fun i k p1 p2 => (ft41 i k (by unfold w_X12_refuse; omega))
          have hs44 : ∀ i k : Int, 186 ≤ i → i ≤ 186 → g42 i k = h i k := fun i k p1 p2 => (ft41 i k (by unfold w_X12_refuse; omega))
          exact st_r0 (ls := []) ⟨rfl, rfl, fg42, t41, rfl, (by omega), (by refine ⟨by unfold P_X12_task; by_cases zz : t41 = -4 <;> first | exact Or.inl ⟨by omega, hs43, hs44⟩ | exact Or.inr (Or.inl ⟨by omega, hs43, hs44⟩) | exact Or.inr (Or.inr (Or.inl ⟨by omega, hs43, hs44⟩)), fun _ i k q9 => ?_⟩; unfold jma at q9; exact (ft41 i k (by unfold w_X12_refuse; omega)))⟩
      · replace c17 : t15 = 0 := by first | exact c17 | exact Int.not_le.mp c17 | exact Int.not_lt.mp c17 | exact Decidable.not_not.mp c17
        show jGo E l 53 229 229 _ 27 [.inr (.inr (.inl 176)), .inl a1, .inl a2, .inl a3, .inl a4, .inr (.inr (.inr ()))] [] 229 jr0 h
        refine jGo_blk qX12_task_27 ?_
        refine st_cv (na := 1) (st := [.inl (-1), .inr (.inr (.inl 176))]) jo_176 rfl rfl rfl (c_X12_refuse (-1) h (by omega)) rfl ?_
        rintro _ _ g46 ⟨rfl, ft45, t45, rfl, ht45, zt45⟩ kt45
        replace kt45 : -2147483648 ≤ t45 ∧ t45 ≤ 2147483647 := kt45
        replace ht45 : -7 ≤ t45 ∧ t45 ≤ -1 := ht45
        have fg46 : jfr w_X12_task h g46 := jfr_tr f0 ft45 (fun i k q => by unfold w_X12_refuse at q; unfold w_X12_task; omega)
        replace zt45 : t45 = (-1 : Int) := zt45
        have hs47 : ∀ i k : Int, 187 ≤ i → i ≤ 187 → g46 i k = h i k := fun i k p1 p2 => (ft45 i k (by unfold w_X12_refuse; omega))
        have hs48 : ∀ i k : Int, 186 ≤ i → i ≤ 186 → g46 i k = h i k := fun i k p1 p2 => (ft45 i k (by unfold w_X12_refuse; omega))
        exact st_r0 (ls := []) ⟨rfl, rfl, fg46, t45, rfl, (by omega), (by refine ⟨by unfold P_X12_task; by_cases zz : t45 = -4 <;> first | exact Or.inl ⟨by omega, hs47, hs48⟩ | exact Or.inr (Or.inl ⟨by omega, hs47, hs48⟩) | exact Or.inr (Or.inr (Or.inl ⟨by omega, hs47, hs48⟩)), fun _ i k q9 => ?_⟩; unfold jma at q9; exact (ft45 i k (by unfold w_X12_refuse; omega)))⟩

def w_X11_needs (i k : Int) : Prop := (i = 1) ∨ (26 ≤ i ∧ i ≤ 28) ∨ (i = 111 ∧ 9 ≤ k ∧ k ≤ 11)
def k_X11_needs (a1 : Int) (a2 : Int) (a3 : Int) (a4 : Int) (h : JH) (v : Option JV) (r' g : JH) : Prop := r' = jr0 ∧ jfr w_X11_needs h g ∧ ∃ x : Int, v = some (.inl x) ∧ (-7 ≤ x ∧ x ≤ 500) ∧ ((P_X11_needs a1 a2 a3 a4 x h g) ∧ jFg (x < 0) h g)
set_option maxHeartbeats 4000000 in
theorem c_X11_needs {E : JE} {l : Launch} (a1 : Int) (a2 : Int) (a3 : Int) (a4 : Int) (h : JH) : jMt E l 54 [.inr (.inr (.inl 0)), .inl a1, .inl a2, .inl a3, .inl a4] 229 jr0 h (k_X11_needs a1 a2 a3 a4 h) := by
  refine jMt0 (nL := 8) (ls := [.inr (.inr (.inl 0)), .inl a1, .inl a2, .inl a3, .inl a4, .inr (.inr (.inr ())), .inr (.inr (.inr ())), .inr (.inr (.inr ()))]) (by decide +kernel) (by decide +kernel) (by decide +kernel) rfl rfl ?_
  have f0 : jfr w_X11_needs h h := jfr_rf _ _
  refine jGo_blk qX11_needs_0 ?_
  refine st_cs (na := 2) (st := [.inl 3, .inl a1]) rfl rfl rfl (c_X11_within a1 3 h) rfl ?_
  rintro _ _ _ ⟨rfl, rfl, t1, rfl, ht1, zt1⟩ kt1
  replace kt1 : -2147483648 ≤ t1 ∧ t1 ≤ 2147483647 := kt1
  replace ht1 : 0 ≤ t1 ∧ t1 ≤ 1 := ht1
  replace zt1 : (t1 = 1 ∧ 0 ≤ a1 ∧ a1 < (3 : Int)) ∨ (t1 = 0 ∧ ¬ (0 ≤ a1 ∧ a1 < (3 : Int))) := zt1
  refine And.intro (fun c3 => ?_) (fun c3 => ?_)
  · replace c3 : t1 = 0 := c3
    show jGo E l 54 229 229 _ 26 [.inr (.inr (.inl 0)), .inl a1, .inl a2, .inl a3, .inl a4, .inr (.inr (.inr ())), .inr (.inr (.inr ())), .inr (.inr (.inr ()))] [] 229 jr0 h
    refine jGo_blk qX11_needs_26 ?_
    show jGo E l 54 229 229 _ 39 [.inr (.inr (.inl 0)), .inl a1, .inl a2, .inl a3, .inl a4, .inr (.inr (.inr ())), .inr (.inr (.inr ())), .inr (.inr (.inr ()))] [.inl (-1)] 229 jr0 h
    refine jGo_blk qX11_needs_39 ?_
    refine And.intro (fun c4 => ?_) (fun c4 => ?_)
    · replace c4 : (-1 : Int) = 0 := c4
      exfalso; omega
    · replace c4 : ¬ (-1 : Int) = 0 := by first | exact c4 | exact Int.not_le.mp c4 | exact Int.not_lt.mp c4 | exact Decidable.not_not.mp c4
      refine st_cv (na := 1) (st := [.inl (-1), .inr (.inr (.inl 0))]) jo_0 rfl rfl rfl (c_X11_refused (-1) h (by omega)) rfl ?_
      rintro _ _ g6 ⟨rfl, ft5, t5, rfl, ht5, zt5⟩ kt5
      replace kt5 : -2147483648 ≤ t5 ∧ t5 ≤ 2147483647 := kt5
      replace ht5 : -7 ≤ t5 ∧ t5 ≤ -1 := ht5
      have fg6 : jfr w_X11_needs h g6 := jfr_tr f0 ft5 (fun i k q => by unfold w_X11_refused at q; unfold w_X11_needs; omega)
      replace zt5 : t5 = (-1 : Int) := zt5
      have hs7 : ∀ i k : Int, 26 ≤ i → i ≤ 28 → g6 i k = h i k := fun i k p1 p2 => (ft5 i k (by unfold w_X11_refused; omega))
      exact st_r0 (ls := []) ⟨rfl, rfl, fg6, t5, rfl, (by omega), (by refine ⟨by unfold P_X11_needs; by_cases zz : t5 = -4 <;> first | exact Or.inl ⟨by omega, hs7⟩ | exact Or.inr (Or.inl ⟨by omega, hs7⟩) | exact Or.inr (Or.inr (Or.inl ⟨by omega, hs7⟩)), Or.inr ⟨by omega, fun i k p1 => (ft5 i k (by unfold w_X11_refused; omega))⟩⟩)⟩
  · replace c3 : ¬ t1 = 0 := by first | exact c3 | exact Int.not_le.mp c3 | exact Int.not_lt.mp c3 | exact Decidable.not_not.mp c3
    refine st_cs (na := 2) (st := [.inl 6, .inl a2]) rfl rfl rfl (c_X11_within a2 6 h) rfl ?_
    rintro _ _ _ ⟨rfl, rfl, t8, rfl, ht8, zt8⟩ kt8
    replace kt8 : -2147483648 ≤ t8 ∧ t8 ≤ 2147483647 := kt8
    replace ht8 : 0 ≤ t8 ∧ t8 ≤ 1 := ht8
    replace zt8 : (t8 = 1 ∧ 0 ≤ a2 ∧ a2 < (6 : Int)) ∨ (t8 = 0 ∧ ¬ (0 ≤ a2 ∧ a2 < (6 : Int))) := zt8
    refine And.intro (fun c10 => ?_) (fun c10 => ?_)
    · replace c10 : t8 = 0 := c10
      show jGo E l 54 229 229 _ 26 [.inr (.inr (.inl 0)), .inl a1, .inl a2, .inl a3, .inl a4, .inr (.inr (.inr ())), .inr (.inr (.inr ())), .inr (.inr (.inr ()))] [] 229 jr0 h
      refine jGo_blk qX11_needs_26 ?_
      show jGo E l 54 229 229 _ 39 [.inr (.inr (.inl 0)), .inl a1, .inl a2, .inl a3, .inl a4, .inr (.inr (.inr ())), .inr (.inr (.inr ())), .inr (.inr (.inr ()))] [.inl (-1)] 229 jr0 h
      refine jGo_blk qX11_needs_39 ?_
      refine And.intro (fun c11 => ?_) (fun c11 => ?_)
      · replace c11 : (-1 : Int) = 0 := c11
        exfalso; omega
      · replace c11 : ¬ (-1 : Int) = 0 := by first | exact c11 | exact Int.not_le.mp c11 | exact Int.not_lt.mp c11 | exact Decidable.not_not.mp c11
        refine st_cv (na := 1) (st := [.inl (-1), .inr (.inr (.inl 0))]) jo_0 rfl rfl rfl (c_X11_refused (-1) h (by omega)) rfl ?_
        rintro _ _ g13 ⟨rfl, ft12, t12, rfl, ht12, zt12⟩ kt12
        replace kt12 : -2147483648 ≤ t12 ∧ t12 ≤ 2147483647 := kt12
        replace ht12 : -7 ≤ t12 ∧ t12 ≤ -1 := ht12
        have fg13 : jfr w_X11_needs h g13 := jfr_tr f0 ft12 (fun i k q => by unfold w_X11_refused at q; unfold w_X11_needs; omega)
        replace zt12 : t12 = (-1 : Int) := zt12
        have hs14 : ∀ i k : Int, 26 ≤ i → i ≤ 28 → g13 i k = h i k := fun i k p1 p2 => (ft12 i k (by unfold w_X11_refused; omega))
        exact st_r0 (ls := []) ⟨rfl, rfl, fg13, t12, rfl, (by omega), (by refine ⟨by unfold P_X11_needs; by_cases zz : t12 = -4 <;> first | exact Or.inl ⟨by omega, hs14⟩ | exact Or.inr (Or.inl ⟨by omega, hs14⟩) | exact Or.inr (Or.inr (Or.inl ⟨by omega, hs14⟩)), Or.inr ⟨by omega, fun i k p1 => (ft12 i k (by unfold w_X11_refused; omega))⟩⟩)⟩
    · replace c10 : ¬ t8 = 0 := by first | exact c10 | exact Int.not_le.mp c10 | exact Int.not_lt.mp c10 | exact Decidable.not_not.mp c10
      refine st_cs (na := 2) (st := [.inl 6, .inl a3]) rfl rfl rfl (c_X11_within a3 6 h) rfl ?_
      rintro _ _ _ ⟨rfl, rfl, t15, rfl, ht15, zt15⟩ kt15
      replace kt15 : -2147483648 ≤ t15 ∧ t15 ≤ 2147483647 := kt15
      replace ht15 : 0 ≤ t15 ∧ t15 ≤ 1 := ht15
      replace zt15 : (t15 = 1 ∧ 0 ≤ a3 ∧ a3 < (6 : Int)) ∨ (t15 = 0 ∧ ¬ (0 ≤ a3 ∧ a3 < (6 : Int))) := zt15
      refine And.intro (fun c17 => ?_) (fun c17 => ?_)
      · replace c17 : ¬ t15 = 0 := c17
        show jGo E l 54 229 229 _ 30 [.inr (.inr (.inl 0)), .inl a1, .inl a2, .inl a3, .inl a4, .inr (.inr (.inr ())), .inr (.inr (.inr ())), .inr (.inr (.inr ()))] [] 229 jr0 h
        refine jGo_blk qX11_needs_30 ?_
        refine st_cs (na := 3) (st := [.inl 500, .inl 0, .inl a4]) rfl rfl rfl (c_X11_outside a4 0 500 h) rfl ?_
        rintro _ _ _ ⟨rfl, rfl, t18, rfl, ht18, zt18⟩ kt18
        replace kt18 : -2147483648 ≤ t18 ∧ t18 ≤ 2147483647 := kt18
        replace ht18 : -6 ≤ t18 ∧ t18 ≤ 0 := ht18
        replace zt18 : (t18 = -4 ∧ a4 < (0 : Int)) ∨ (t18 = -6 ∧ (0 : Int) ≤ a4 ∧ (500 : Int) < a4) ∨ (t18 = 0 ∧ (0 : Int) ≤ a4 ∧ a4 ≤ (500 : Int)) := zt18
        show jGo E l 54 229 229 _ 39 [.inr (.inr (.inl 0)), .inl a1, .inl a2, .inl a3, .inl a4, .inr (.inr (.inr ())), .inr (.inr (.inr ())), .inr (.inr (.inr ()))] [.inl t18] 229 jr0 h
        refine jGo_blk qX11_needs_39 ?_
        refine And.intro (fun c20 => ?_) (fun c20 => ?_)
        · replace c20 : t18 = 0 := c20
          show jGo E l 54 229 229 _ 53 [.inr (.inr (.inl 0)), .inl a1, .inl a2, .inl a3, .inl a4, .inl t18, .inr (.inr (.inr ())), .inr (.inr (.inr ()))] [] 229 jr0 h
          refine jGo_blk qX11_needs_53 ?_
          refine st_gr jo_0 jr_0_11 ?_
          refine st_cv (na := 0) (st := [.inr (.inr (.inl 111))]) jo_111 rfl rfl rfl (c_X7_forget h) rfl ?_
          rintro _ _ g22 ⟨rfl, ft21, rfl, zt21⟩ kt21
          have fg22 : jfr w_X11_needs h g22 := jfr_tr f0 ft21 (fun i k q => by unfold w_X7_forget at q; unfold w_X11_needs; omega)
          replace zt21 : g22 111 9 = 0 ∧ g22 111 10 = 0 ∧ g22 111 11 = 0 := zt21
          have e23 : jw32 (a2 * 6) = a2 * 6 := j32e (by omega) (by omega)
          have e24 : jw32 ((jw32 (a2 * 6)) + a3) = (jw32 (a2 * 6)) + a3 := j32e (by omega) (by omega)
          refine st_gr jo_0 jr_0_4 ?_
          refine st_gr jo_16 jr_16_2 ?_
          refine st_ar jo_25 (by decide) (show 0 ≤ a1 by omega) (show a1 < ((3 : Nat) : Int) by omega) (fun u25 eu25 => ?_)
          replace eu25 : u25 = jr0 25 a1 := eu25
          have qu25 : u25 = 26 + a1 := eu25.trans (jrow_25 a1 (by omega) (by omega)).1
          have ou25 : jF 229 u25 1 36 := by rw [eu25]; exact (jrow_25 a1 (by omega) (by omega)).2.1
          have wu25 : ∀ j v : Int, jbd u25 j v ↔ (0 ≤ v ∧ v ≤ 500) := by rw [eu25]; exact (jrow_25 a1 (by omega) (by omega)).2.2
          refine st_ai ou25 (show 0 ≤ jw32 ((jw32 (a2 * 6)) + a3) by omega) (show jw32 ((jw32 (a2 * 6)) + a3) < ((36 : Nat) : Int) by omega) (fun v26 ev26 b27 => ?_)
          replace ev26 : v26 = g22 u25 (jw32 ((jw32 (a2 * 6)) + a3)) := ev26
          replace b27 := (wu25 (jw32 ((jw32 (a2 * 6)) + a3)) _).1 b27
          refine st_gr jo_0 jr_0_4 ?_
          refine st_gr jo_16 jr_16_2 ?_
          refine st_ar jo_25 (by decide) (show 0 ≤ a1 by omega) (show a1 < ((3 : Nat) : Int) by omega) (fun u28 eu28 => ?_)
          replace eu28 : u28 = jr0 25 a1 := eu28
          have qu28 : u28 = 26 + a1 := eu28.trans (jrow_25 a1 (by omega) (by omega)).1
          have ou28 : jF 229 u28 1 36 := by rw [eu28]; exact (jrow_25 a1 (by omega) (by omega)).2.1
          have wu28 : ∀ j v : Int, jbd u28 j v ↔ (0 ≤ v ∧ v ≤ 500) := by rw [eu28]; exact (jrow_25 a1 (by omega) (by omega)).2.2
          refine st_si ou28 (show 0 ≤ jw32 ((jw32 (a2 * 6)) + a3) by omega) (show jw32 ((jw32 (a2 * 6)) + a3) < ((36 : Nat) : Int) by omega) (fun hx => (wu28 _ _).2 (show 0 ≤ a4 ∧ a4 ≤ 500 by omega)) (fun g29 eg29 => ?_)
          replace eg29 : g29 = jup g22 u28 (jw32 ((jw32 (a2 * 6)) + a3)) a4 := eg29
          have fg29 : jfr w_X11_needs h g29 := jfr_up fg22 eg29 (by unfold w_X11_needs; omega)
          have e30 : g29 u28 (jw32 ((jw32 (a2 * 6)) + a3)) = a4 := jup_s eg29
          have e31 : g22 u25 (jw32 ((jw32 (a2 * 6)) + a3)) = h u25 (jw32 ((jw32 (a2 * 6)) + a3)) := (ft21 u25 (jw32 ((jw32 (a2 * 6)) + a3)) (by unfold w_X7_forget; omega))
          have e32 : h u25 (jw32 ((jw32 (a2 * 6)) + a3)) = h (26 + a1) (jw32 ((jw32 (a2 * 6)) + a3)) := by rw [qu25]
          have e33 : h u25 (jw32 ((jw32 (a2 * 6)) + a3)) = h u25 (((a2 * 6)) + a3) := congrArg (h u25) (show jw32 ((jw32 (a2 * 6)) + a3) = (((a2 * 6)) + a3) by omega)
          have e34 : h (26 + a1) (jw32 ((jw32 (a2 * 6)) + a3)) = h (26 + a1) (((a2 * 6)) + a3) := congrArg (h (26 + a1)) (show jw32 ((jw32 (a2 * 6)) + a3) = (((a2 * 6)) + a3) by omega)
          have hs35 : g29 (26 + a1) (a2 * 6 + a3) = a4 := by
            rw [show 26 + a1 = u28 by omega]
            rw [show a2 * 6 + a3 = jw32 ((jw32 (a2 * 6)) + a3) by omega]
            exact jup_s eg29
          have hs36 : ∀ i k : Int, 26 ≤ i → i ≤ 28 → ¬ (i = 26 + a1 ∧ k = a2 * 6 + a3) → g29 i k = h i k := fun i k p1 p2 p3 => ((jup_o eg29 (by omega)).trans (ft21 i k (by unfold w_X7_forget; omega)))
          exact st_r0 (ls := []) ⟨rfl, rfl, fg29, v26, rfl, (by omega), (by refine ⟨by unfold P_X11_needs; first | exact Or.inr (Or.inr (Or.inr ⟨by omega, ⟨hs35, hs36⟩⟩)), Or.inl ?_⟩; exact ⟨((jup_o eg29 (by omega))).trans zt21.1, ((jup_o eg29 (by omega))).trans zt21.2.1, ((jup_o eg29 (by omega))).trans zt21.2.2⟩)⟩
        · replace c20 : ¬ t18 = 0 := by first | exact c20 | exact Int.not_le.mp c20 | exact Int.not_lt.mp c20 | exact Decidable.not_not.mp c20
          refine st_cv (na := 1) (st := [.inl t18, .inr (.inr (.inl 0))]) jo_0 rfl rfl rfl (c_X11_refused t18 h (by omega)) rfl ?_
          rintro _ _ g38 ⟨rfl, ft37, t37, rfl, ht37, zt37⟩ kt37
          replace kt37 : -2147483648 ≤ t37 ∧ t37 ≤ 2147483647 := kt37
          replace ht37 : -7 ≤ t37 ∧ t37 ≤ -1 := ht37
          have fg38 : jfr w_X11_needs h g38 := jfr_tr f0 ft37 (fun i k q => by unfold w_X11_refused at q; unfold w_X11_needs; omega)
          replace zt37 : t37 = t18 := zt37
          have hs39 : ∀ i k : Int, 26 ≤ i → i ≤ 28 → g38 i k = h i k := fun i k p1 p2 => (ft37 i k (by unfold w_X11_refused; omega))
          exact st_r0 (ls := []) ⟨rfl, rfl, fg38, t37, rfl, (by omega), (by refine ⟨by unfold P_X11_needs; by_cases zz : t37 = -4 <;> first | exact Or.inl ⟨by omega, hs39⟩ | exact Or.inr (Or.inl ⟨by omega, hs39⟩) | exact Or.inr (Or.inr (Or.inl ⟨by omega, hs39⟩)), Or.inr ⟨by omega, fun i k p1 => (ft37 i k (by unfold w_X11_refused; omega))⟩⟩)⟩
      · replace c17 : t15 = 0 := by first | exact c17 | exact Int.not_le.mp c17 | exact Int.not_lt.mp c17 | exact Decidable.not_not.mp c17
        show jGo E l 54 229 229 _ 26 [.inr (.inr (.inl 0)), .inl a1, .inl a2, .inl a3, .inl a4, .inr (.inr (.inr ())), .inr (.inr (.inr ())), .inr (.inr (.inr ()))] [] 229 jr0 h
        refine jGo_blk qX11_needs_26 ?_
        show jGo E l 54 229 229 _ 39 [.inr (.inr (.inl 0)), .inl a1, .inl a2, .inl a3, .inl a4, .inr (.inr (.inr ())), .inr (.inr (.inr ())), .inr (.inr (.inr ()))] [.inl (-1)] 229 jr0 h
        refine jGo_blk qX11_needs_39 ?_
        refine And.intro (fun c40 => ?_) (fun c40 => ?_)
        · replace c40 : (-1 : Int) = 0 := c40
          exfalso; omega
        · replace c40 : ¬ (-1 : Int) = 0 := by first | exact c40 | exact Int.not_le.mp c40 | exact Int.not_lt.mp c40 | exact Decidable.not_not.mp c40
          refine st_cv (na := 1) (st := [.inl (-1), .inr (.inr (.inl 0))]) jo_0 rfl rfl rfl (c_X11_refused (-1) h (by omega)) rfl ?_
          rintro _ _ g42 ⟨rfl, ft41, t41, rfl, ht41, zt41⟩ kt41
          replace kt41 : -2147483648 ≤ t41 ∧ t41 ≤ 2147483647 := kt41
          replace ht41 : -7 ≤ t41 ∧ t41 ≤ -1 := ht41
          have fg42 : jfr w_X11_needs h g42 := jfr_tr f0 ft41 (fun i k q => by unfold w_X11_refused at q; unfold w_X11_needs; omega)
          replace zt41 : t41 = (-1 : Int) := zt41
          have hs43 : ∀ i k : Int, 26 ≤ i → i ≤ 28 → g42 i k = h i k := fun i k p1 p2 => (ft41 i k (by unfold w_X11_refused; omega))
          exact st_r0 (ls := []) ⟨rfl, rfl, fg42, t41, rfl, (by omega), (by refine ⟨by unfold P_X11_needs; by_cases zz : t41 = -4 <;> first | exact Or.inl ⟨by omega, hs43⟩ | exact Or.inr (Or.inl ⟨by omega, hs43⟩) | exact Or.inr (Or.inr (Or.inl ⟨by omega, hs43⟩)), Or.inr ⟨by omega, fun i k p1 => (ft41 i k (by unfold w_X11_refused; omega))⟩⟩)⟩

def w_X12_needs (i k : Int) : Prop := (i = 188) ∨ (i = 219)
def k_X12_needs (a1 : Int) (a2 : Int) (a3 : Int) (a4 : Int) (h : JH) (v : Option JV) (r' g : JH) : Prop := r' = jr0 ∧ jfr w_X12_needs h g ∧ ∃ x : Int, v = some (.inl x) ∧ (-7 ≤ x ∧ x ≤ 500) ∧ ((P_X12_needs a1 a2 a3 a4 x h g) ∧ jRx (x < 0) h g)
set_option maxHeartbeats 4000000 in
theorem c_X12_needs {E : JE} {l : Launch} (a1 : Int) (a2 : Int) (a3 : Int) (a4 : Int) (h : JH) : jMt E l 55 [.inr (.inr (.inl 176)), .inl a1, .inl a2, .inl a3, .inl a4] 229 jr0 h (k_X12_needs a1 a2 a3 a4 h) := by
  refine jMt0 (nL := 7) (ls := [.inr (.inr (.inl 176)), .inl a1, .inl a2, .inl a3, .inl a4, .inr (.inr (.inr ())), .inr (.inr (.inr ()))]) (by decide +kernel) (by decide +kernel) (by decide +kernel) rfl rfl ?_
  have f0 : jfr w_X12_needs h h := jfr_rf _ _
  refine jGo_blk qX12_needs_0 ?_
  refine st_cs (na := 3) (st := [.inl 2, .inl 0, .inl a1]) rfl rfl rfl (c_X12_in a1 0 2 h) rfl ?_
  rintro _ _ _ ⟨rfl, rfl, t1, rfl, ht1, zt1⟩ kt1
  replace kt1 : -2147483648 ≤ t1 ∧ t1 ≤ 2147483647 := kt1
  replace ht1 : 0 ≤ t1 ∧ t1 ≤ 1 := ht1
  replace zt1 : (t1 = 1 ∧ (0 : Int) ≤ a1 ∧ a1 ≤ (2 : Int)) ∨ (t1 = 0 ∧ ¬ ((0 : Int) ≤ a1 ∧ a1 ≤ (2 : Int))) := zt1
  refine And.intro (fun c3 => ?_) (fun c3 => ?_)
  · replace c3 : t1 = 0 := c3
    show jGo E l 55 229 229 _ 27 [.inr (.inr (.inl 176)), .inl a1, .inl a2, .inl a3, .inl a4, .inr (.inr (.inr ())), .inr (.inr (.inr ()))] [] 229 jr0 h
    refine jGo_blk qX12_needs_27 ?_
    refine st_cv (na := 1) (st := [.inl (-1), .inr (.inr (.inl 176))]) jo_176 rfl rfl rfl (c_X12_refuse (-1) h (by omega)) rfl ?_
    rintro _ _ g5 ⟨rfl, ft4, t4, rfl, ht4, zt4⟩ kt4
    replace kt4 : -2147483648 ≤ t4 ∧ t4 ≤ 2147483647 := kt4
    replace ht4 : -7 ≤ t4 ∧ t4 ≤ -1 := ht4
    have fg5 : jfr w_X12_needs h g5 := jfr_tr f0 ft4 (fun i k q => by unfold w_X12_refuse at q; unfold w_X12_needs; omega)
    replace zt4 : t4 = (-1 : Int) := zt4
    have hs6 : ∀ i k : Int, 188 ≤ i → i ≤ 188 → g5 i k = h i k := fun i k p1 p2 => (ft4 i k (by unfold w_X12_refuse; omega))
    exact st_r0 (ls := []) ⟨rfl, rfl, fg5, t4, rfl, (by omega), (by refine ⟨by unfold P_X12_needs; by_cases zz : t4 = -4 <;> first | exact Or.inl ⟨by omega, hs6⟩ | exact Or.inr (Or.inl ⟨by omega, hs6⟩) | exact Or.inr (Or.inr (Or.inl ⟨by omega, hs6⟩)), fun _ i k q9 => ?_⟩; unfold jma at q9; exact (ft4 i k (by unfold w_X12_refuse; omega)))⟩
  · replace c3 : ¬ t1 = 0 := by first | exact c3 | exact Int.not_le.mp c3 | exact Int.not_lt.mp c3 | exact Decidable.not_not.mp c3
    refine st_cs (na := 3) (st := [.inl 5, .inl 0, .inl a2]) rfl rfl rfl (c_X12_in a2 0 5 h) rfl ?_
    rintro _ _ _ ⟨rfl, rfl, t7, rfl, ht7, zt7⟩ kt7
    replace kt7 : -2147483648 ≤ t7 ∧ t7 ≤ 2147483647 := kt7
    replace ht7 : 0 ≤ t7 ∧ t7 ≤ 1 := ht7
    replace zt7 : (t7 = 1 ∧ (0 : Int) ≤ a2 ∧ a2 ≤ (5 : Int)) ∨ (t7 = 0 ∧ ¬ ((0 : Int) ≤ a2 ∧ a2 ≤ (5 : Int))) := zt7
    refine And.intro (fun c9 => ?_) (fun c9 => ?_)
    · replace c9 : t7 = 0 := c9
      show jGo E l 55 229 229 _ 27 [.inr (.inr (.inl 176)), .inl a1, .inl a2, .inl a3, .inl a4, .inr (.inr (.inr ())), .inr (.inr (.inr ()))] [] 229 jr0 h
      refine jGo_blk qX12_needs_27 ?_
      refine st_cv (na := 1) (st := [.inl (-1), .inr (.inr (.inl 176))]) jo_176 rfl rfl rfl (c_X12_refuse (-1) h (by omega)) rfl ?_
      rintro _ _ g11 ⟨rfl, ft10, t10, rfl, ht10, zt10⟩ kt10
      replace kt10 : -2147483648 ≤ t10 ∧ t10 ≤ 2147483647 := kt10
      replace ht10 : -7 ≤ t10 ∧ t10 ≤ -1 := ht10
      have fg11 : jfr w_X12_needs h g11 := jfr_tr f0 ft10 (fun i k q => by unfold w_X12_refuse at q; unfold w_X12_needs; omega)
      replace zt10 : t10 = (-1 : Int) := zt10
      have hs12 : ∀ i k : Int, 188 ≤ i → i ≤ 188 → g11 i k = h i k := fun i k p1 p2 => (ft10 i k (by unfold w_X12_refuse; omega))
      exact st_r0 (ls := []) ⟨rfl, rfl, fg11, t10, rfl, (by omega), (by refine ⟨by unfold P_X12_needs; by_cases zz : t10 = -4 <;> first | exact Or.inl ⟨by omega, hs12⟩ | exact Or.inr (Or.inl ⟨by omega, hs12⟩) | exact Or.inr (Or.inr (Or.inl ⟨by omega, hs12⟩)), fun _ i k q9 => ?_⟩; unfold jma at q9; exact (ft10 i k (by unfold w_X12_refuse; omega)))⟩
    · replace c9 : ¬ t7 = 0 := by first | exact c9 | exact Int.not_le.mp c9 | exact Int.not_lt.mp c9 | exact Decidable.not_not.mp c9
      refine st_cs (na := 3) (st := [.inl 5, .inl 0, .inl a3]) rfl rfl rfl (c_X12_in a3 0 5 h) rfl ?_
      rintro _ _ _ ⟨rfl, rfl, t13, rfl, ht13, zt13⟩ kt13
      replace kt13 : -2147483648 ≤ t13 ∧ t13 ≤ 2147483647 := kt13
      replace ht13 : 0 ≤ t13 ∧ t13 ≤ 1 := ht13
      replace zt13 : (t13 = 1 ∧ (0 : Int) ≤ a3 ∧ a3 ≤ (5 : Int)) ∨ (t13 = 0 ∧ ¬ ((0 : Int) ≤ a3 ∧ a3 ≤ (5 : Int))) := zt13
      refine And.intro (fun c15 => ?_) (fun c15 => ?_)
      · replace c15 : ¬ t13 = 0 := c15
        show jGo E l 55 229 229 _ 33 [.inr (.inr (.inl 176)), .inl a1, .inl a2, .inl a3, .inl a4, .inr (.inr (.inr ())), .inr (.inr (.inr ()))] [] 229 jr0 h
        refine jGo_blk qX12_needs_33 ?_
        refine And.intro (fun c16 => ?_) (fun c16 => ?_)
        · replace c16 : 0 ≤ a4 := c16
          show jGo E l 55 229 229 _ 45 [.inr (.inr (.inl 176)), .inl a1, .inl a2, .inl a3, .inl a4, .inr (.inr (.inr ())), .inr (.inr (.inr ()))] [] 229 jr0 h
          refine jGo_blk qX12_needs_45 ?_
          refine And.intro (fun c17 => ?_) (fun c17 => ?_)
          · replace c17 : a4 ≤ 500 := c17
            show jGo E l 55 229 229 _ 60 [.inr (.inr (.inl 176)), .inl a1, .inl a2, .inl a3, .inl a4, .inr (.inr (.inr ())), .inr (.inr (.inr ()))] [] 229 jr0 h
            refine jGo_blk qX12_needs_60 ?_
            have e18 : jw32 (6 * a1) = 6 * a1 := j32e (by omega) (by omega)
            have e19 : jw32 ((jw32 (6 * a1)) + a2) = (jw32 (6 * a1)) + a2 := j32e (by omega) (by omega)
            have e20 : jw32 (6 * (jw32 ((jw32 (6 * a1)) + a2))) = 6 * (jw32 ((jw32 (6 * a1)) + a2)) := j32e (by omega) (by omega)
            have e21 : jw32 ((jw32 (6 * (jw32 ((jw32 (6 * a1)) + a2)))) + a3) = (jw32 (6 * (jw32 ((jw32 (6 * a1)) + a2)))) + a3 := j32e (by omega) (by omega)
            refine st_gr jo_176 jr_176_13 ?_
            refine st_ai jo_188 (show 0 ≤ jw32 ((jw32 (6 * (jw32 ((jw32 (6 * a1)) + a2)))) + a3) by omega) (show jw32 ((jw32 (6 * (jw32 ((jw32 (6 * a1)) + a2)))) + a3) < ((108 : Nat) : Int) by omega) (fun v22 ev22 b23 => ?_)
            replace ev22 : v22 = h 188 (jw32 ((jw32 (6 * (jw32 ((jw32 (6 * a1)) + a2)))) + a3)) := ev22
            replace b23 := (jba_188 (jw32 ((jw32 (6 * (jw32 ((jw32 (6 * a1)) + a2)))) + a3)) _).1 b23
            refine st_gr jo_176 jr_176_13 ?_
            refine st_si jo_188 (show 0 ≤ jw32 ((jw32 (6 * (jw32 ((jw32 (6 * a1)) + a2)))) + a3) by omega) (show jw32 ((jw32 (6 * (jw32 ((jw32 (6 * a1)) + a2)))) + a3) < ((108 : Nat) : Int) by omega) (fun hx => (jba_188 _ _).2 (show 0 ≤ a4 ∧ a4 ≤ 500 by omega)) (fun g24 eg24 => ?_)
            replace eg24 : g24 = jup h 188 (jw32 ((jw32 (6 * (jw32 ((jw32 (6 * a1)) + a2)))) + a3)) a4 := eg24
            have fg24 : jfr w_X12_needs h g24 := jfr_up f0 eg24 (by unfold w_X12_needs; omega)
            have e25 : g24 188 (jw32 ((jw32 (6 * (jw32 ((jw32 (6 * a1)) + a2)))) + a3)) = a4 := jup_s eg24
            have e26 : h 188 (jw32 ((jw32 (6 * (jw32 ((jw32 (6 * a1)) + a2)))) + a3)) = h 188 (((6 * ((((6 * a1)) + a2)))) + a3) := congrArg (h 188) (show jw32 ((jw32 (6 * (jw32 ((jw32 (6 * a1)) + a2)))) + a3) = (((6 * ((((6 * a1)) + a2)))) + a3) by omega)
            have hs27 : g24 188 (6 * (6 * a1 + a2) + a3) = a4 := by
              rw [show 6 * (6 * a1 + a2) + a3 = jw32 ((jw32 (6 * (jw32 ((jw32 (6 * a1)) + a2)))) + a3) by omega]
              exact jup_s eg24
            have hs28 : ∀ i k : Int, 188 ≤ i → i ≤ 188 → ¬ (i = 188 ∧ k = 6 * (6 * a1 + a2) + a3) → g24 i k = h i k := fun i k p1 p2 p3 => (jup_o eg24 (by omega))
            exact st_r0 (ls := []) ⟨rfl, rfl, fg24, v22, rfl, (by omega), (by refine ⟨by unfold P_X12_needs; first | exact Or.inr (Or.inr (Or.inr ⟨by omega, ⟨hs27, hs28⟩⟩)), fun b9 => absurd b9 (by omega)⟩)⟩
          · replace c17 : 500 < a4 := by first | exact c17 | exact Int.not_le.mp c17 | exact Int.not_lt.mp c17 | exact Decidable.not_not.mp c17
            refine st_cv (na := 1) (st := [.inl (-6), .inr (.inr (.inl 176))]) jo_176 rfl rfl rfl (c_X12_refuse (-6) h (by omega)) rfl ?_
            rintro _ _ g30 ⟨rfl, ft29, t29, rfl, ht29, zt29⟩ kt29
            replace kt29 : -2147483648 ≤ t29 ∧ t29 ≤ 2147483647 := kt29
            replace ht29 : -7 ≤ t29 ∧ t29 ≤ -1 := ht29
            have fg30 : jfr w_X12_needs h g30 := jfr_tr f0 ft29 (fun i k q => by unfold w_X12_refuse at q; unfold w_X12_needs; omega)
            replace zt29 : t29 = (-6 : Int) := zt29
            have hs31 : ∀ i k : Int, 188 ≤ i → i ≤ 188 → g30 i k = h i k := fun i k p1 p2 => (ft29 i k (by unfold w_X12_refuse; omega))
            exact st_r0 (ls := []) ⟨rfl, rfl, fg30, t29, rfl, (by omega), (by refine ⟨by unfold P_X12_needs; by_cases zz : t29 = -4 <;> first | exact Or.inl ⟨by omega, hs31⟩ | exact Or.inr (Or.inl ⟨by omega, hs31⟩) | exact Or.inr (Or.inr (Or.inl ⟨by omega, hs31⟩)), fun _ i k q9 => ?_⟩; unfold jma at q9; exact (ft29 i k (by unfold w_X12_refuse; omega)))⟩
        · replace c16 : a4 < 0 := by first | exact c16 | exact Int.not_le.mp c16 | exact Int.not_lt.mp c16 | exact Decidable.not_not.mp c16
          refine st_cv (na := 1) (st := [.inl (-4), .inr (.inr (.inl 176))]) jo_176 rfl rfl rfl (c_X12_refuse (-4) h (by omega)) rfl ?_
          rintro _ _ g33 ⟨rfl, ft32, t32, rfl, ht32, zt32⟩ kt32
          replace kt32 : -2147483648 ≤ t32 ∧ t32 ≤ 2147483647 := kt32
          replace ht32 : -7 ≤ t32 ∧ t32 ≤ -1 := ht32
          have fg33 : jfr w_X12_needs h g33 := jfr_tr f0 ft32 (fun i k q => by unfold w_X12_refuse at q; unfold w_X12_needs; omega)
          replace zt32 : t32 = (-4 : Int) := zt32
          have hs34 : ∀ i k : Int, 188 ≤ i → i ≤ 188 → g33 i k = h i k := fun i k p1 p2 => (ft32 i k (by unfold w_X12_refuse; omega))
          exact st_r0 (ls := []) ⟨rfl, rfl, fg33, t32, rfl, (by omega), (by refine ⟨by unfold P_X12_needs; by_cases zz : t32 = -4 <;> first | exact Or.inl ⟨by omega, hs34⟩ | exact Or.inr (Or.inl ⟨by omega, hs34⟩) | exact Or.inr (Or.inr (Or.inl ⟨by omega, hs34⟩)), fun _ i k q9 => ?_⟩; unfold jma at q9; exact (ft32 i k (by unfold w_X12_refuse; omega)))⟩
      · replace c15 : t13 = 0 := by first | exact c15 | exact Int.not_le.mp c15 | exact Int.not_lt.mp c15 | exact Decidable.not_not.mp c15
        show jGo E l 55 229 229 _ 27 [.inr (.inr (.inl 176)), .inl a1, .inl a2, .inl a3, .inl a4, .inr (.inr (.inr ())), .inr (.inr (.inr ()))] [] 229 jr0 h
        refine jGo_blk qX12_needs_27 ?_
        refine st_cv (na := 1) (st := [.inl (-1), .inr (.inr (.inl 176))]) jo_176 rfl rfl rfl (c_X12_refuse (-1) h (by omega)) rfl ?_
        rintro _ _ g36 ⟨rfl, ft35, t35, rfl, ht35, zt35⟩ kt35
        replace kt35 : -2147483648 ≤ t35 ∧ t35 ≤ 2147483647 := kt35
        replace ht35 : -7 ≤ t35 ∧ t35 ≤ -1 := ht35
        have fg36 : jfr w_X12_needs h g36 := jfr_tr f0 ft35 (fun i k q => by unfold w_X12_refuse at q; unfold w_X12_needs; omega)
        replace zt35 : t35 = (-1 : Int) := zt35
        have hs37 : ∀ i k : Int, 188 ≤ i → i ≤ 188 → g36 i k = h i k := fun i k p1 p2 => (ft35 i k (by unfold w_X12_refuse; omega))
        exact st_r0 (ls := []) ⟨rfl, rfl, fg36, t35, rfl, (by omega), (by refine ⟨by unfold P_X12_needs; by_cases zz : t35 = -4 <;> first | exact Or.inl ⟨by omega, hs37⟩ | exact Or.inr (Or.inl ⟨by omega, hs37⟩) | exact Or.inr (Or.inr (Or.inl ⟨by omega, hs37⟩)), fun _ i k q9 => ?_⟩; unfold jma at q9; exact (ft35 i k (by unfold w_X12_refuse; omega)))⟩

def w_X4_begin (a0 : Int) (i k : Int) : Prop := (a0 + 0 ≤ i ∧ i ≤ a0 + 0)
def k_X4_begin (a0 : Int) (a1 : Int) (a2 : Int) (a3 : Int) (h : JH) (v : Option JV) (r' g : JH) : Prop := r' = jr0 ∧ jfr (w_X4_begin a0) h g ∧ v = none ∧ (g = jBgn a0 a1 a2 a3 h)
set_option maxHeartbeats 4000000 in
theorem c_X4_begin {E : JE} {l : Launch} (a0 : Int) (a1 : Int) (a2 : Int) (a3 : Int) (h : JH) (ha0 : jHl a0) (p1 : 0 ≤ a1 ∧ a1 ≤ 2) (p2 : 0 ≤ a2 ∧ a2 ≤ 99) (p3 : 0 ≤ a3 ∧ a3 ≤ 2000) : jMt E l 56 [.inr (.inr (.inl a0)), .inl a1, .inl a2, .inl a3] 229 jr0 h (k_X4_begin a0 a1 a2 a3 h) := by
  refine jMt0 (nL := 4) (ls := [.inr (.inr (.inl a0)), .inl a1, .inl a2, .inl a3]) (by decide +kernel) (by decide +kernel) (by decide +kernel) rfl rfl ?_
  have f0 : jfr (w_X4_begin a0) h h := jfr_rf _ _
  refine jGo_blk qX4_begin_0 ?_
  refine st_pi ha0.1 (fun hx => (jbf_4_0 ha0.1 _).2 (show 0 ≤ a1 ∧ a1 ≤ 2 by omega)) (fun g1 eg1 => ?_)
  replace eg1 : g1 = jup h a0 0 a1 := eg1
  have fg1 : jfr (w_X4_begin a0) h g1 := jfr_up f0 eg1 (by unfold w_X4_begin; omega)
  have e2 : g1 a0 0 = a1 := jup_s eg1
  refine st_pi ha0.1 (fun hx => (jbf_4_1 ha0.1 _).2 (show 0 ≤ a2 ∧ a2 ≤ 99 by omega)) (fun g3 eg3 => ?_)
  replace eg3 : g3 = jup g1 a0 1 a2 := eg3
  have fg3 : jfr (w_X4_begin a0) h g3 := jfr_up fg1 eg3 (by unfold w_X4_begin; omega)
  have e4 : g3 a0 1 = a2 := jup_s eg3
  refine st_pi ha0.1 (fun hx => (jbf_4_2 ha0.1 _).2 (show 0 ≤ a3 ∧ a3 ≤ 2000 by omega)) (fun g5 eg5 => ?_)
  replace eg5 : g5 = jup g3 a0 2 a3 := eg5
  have fg5 : jfr (w_X4_begin a0) h g5 := jfr_up fg3 eg5 (by unfold w_X4_begin; omega)
  have e6 : g5 a0 2 = a3 := jup_s eg5
  refine st_pi ha0.1 (fun hx => (jbf_4_3 ha0.1 _).2 (show 0 ≤ 0 ∧ 0 ≤ 3 by omega)) (fun g7 eg7 => ?_)
  replace eg7 : g7 = jup g5 a0 3 0 := eg7
  have fg7 : jfr (w_X4_begin a0) h g7 := jfr_up fg5 eg7 (by unfold w_X4_begin; omega)
  have e8 : g7 a0 3 = 0 := jup_s eg7
  refine st_pi ha0.1 (fun hx => (jbf_4_4 ha0.1 _).2 (show -9 ≤ (-9) ∧ (-9) ≤ 5 by omega)) (fun g9 eg9 => ?_)
  replace eg9 : g9 = jup g7 a0 4 (-9) := eg9
  have fg9 : jfr (w_X4_begin a0) h g9 := jfr_up fg7 eg9 (by unfold w_X4_begin; omega)
  have e10 : g9 a0 4 = (-9) := jup_s eg9
  refine st_pi ha0.1 (fun hx => (jbf_4_9 ha0.1 _).2 hx) (fun g11 eg11 => ?_)
  replace eg11 : g11 = jup g9 a0 9 (-9) := eg11
  have fg11 : jfr (w_X4_begin a0) h g11 := jfr_up fg9 eg11 (by unfold w_X4_begin; omega)
  have e12 : g11 a0 9 = (-9) := jup_s eg11
  exact ⟨rfl, rfl, fg11, rfl, (by subst eg11 eg9 eg7 eg5 eg3 eg1; unfold jBgn; (repeat (first | rw [if_pos (by omega)] | rw [if_neg (by omega)])); all_goals ((try rfl)))⟩

def w_X10_addHull_29 (i k : Int) : Prop := (36 ≤ i ∧ i ≤ 83) ∨ (i = 29 ∧ k = 4)
def k_X10_addHull_29 (a1 : Int) (a2 : Int) (a3 : Int) (h : JH) (v : Option JV) (r' g : JH) : Prop := r' = jr0 ∧ jfr w_X10_addHull_29 h g ∧ ∃ x : Int, v = some (.inl x) ∧ (0 ≤ x ∧ x ≤ 15) ∧ ((x = h 29 4 ∧ g 29 4 = h 29 4 + 1) ∧ g = jup (jBgn (36 + 3 * h 29 4) a1 a2 a3 h) 29 4 (h 29 4 + 1))
set_option maxHeartbeats 4000000 in
theorem c_X10_addHull_29 {E : JE} {l : Launch} (a1 : Int) (a2 : Int) (a3 : Int) (h : JH) (p1 : 0 ≤ a1 ∧ a1 ≤ 2) (p2 : 0 ≤ a2 ∧ a2 ≤ 99) (p3 : 0 ≤ a3 ∧ a3 ≤ 2000) (q0 : h 29 4 ≤ 15) : jMt E l 57 [.inr (.inr (.inl 29)), .inl a1, .inl a2, .inl a3] 229 jr0 h (k_X10_addHull_29 a1 a2 a3 h) := by
  refine jMt0 (nL := 4) (ls := [.inr (.inr (.inl 29)), .inl a1, .inl a2, .inl a3]) (by decide +kernel) (by decide +kernel) (by decide +kernel) rfl rfl ?_
  have f0 : jfr w_X10_addHull_29 h h := jfr_rf _ _
  refine jGo_blk qX10_addHull_0 ?_
  refine st_gr jo_29 jr_29_3 ?_
  refine st_gi jo_29 (fun v1 ev1 b2 => ?_)
  replace ev1 : v1 = h 29 4 := ev1
  replace b2 := (jbf_10_4 jo_29 _).1 b2
  refine st_ar jo_33 (by decide) (show 0 ≤ v1 by omega) (show v1 < ((16 : Nat) : Int) by omega) (fun u3 eu3 => ?_)
  replace eu3 : u3 = jr0 33 v1 := eu3
  have qu3 : u3 = 36 + 3 * v1 := eu3.trans (jhul_33 v1 (by omega) (by omega)).1
  have hu3 : jHl u3 := by rw [eu3]; exact (jhul_33 v1 (by omega) (by omega)).2
  refine st_cv (na := 3) (st := [.inl a3, .inl a2, .inl a1, .inr (.inr (.inl u3))]) hu3.1 rfl rfl rfl (c_X4_begin u3 a1 a2 a3 h hu3 (by omega) (by omega) (by omega)) rfl ?_
  rintro _ _ g5 ⟨rfl, ft4, rfl, zt4⟩ kt4
  have fg5 : jfr w_X10_addHull_29 h g5 := jfr_tr f0 ft4 (fun i k q => by unfold w_X4_begin at q; unfold w_X10_addHull_29; omega)
  replace zt4 : g5 = jBgn u3 a1 a2 a3 h := zt4
  refine st_gi jo_29 (fun v6 ev6 b7 => ?_)
  replace ev6 : v6 = g5 29 4 := ev6
  replace b7 := (jbf_10_4 jo_29 _).1 b7
  have e8 : g5 29 4 = h 29 4 := ft4 29 4 (by unfold w_X4_begin; omega)
  have e9 : jw32 (v6 + 1) = v6 + 1 := j32e (by omega) (by omega)
  refine st_pi jo_29 (fun hx => (jbf_10_4 jo_29 _).2 (show 0 ≤ jw32 (v6 + 1) ∧ jw32 (v6 + 1) ≤ 16 by omega)) (fun g10 eg10 => ?_)
  replace eg10 : g10 = jup g5 29 4 (jw32 (v6 + 1)) := eg10
  have fg10 : jfr w_X10_addHull_29 h g10 := jfr_up fg5 eg10 (by unfold w_X10_addHull_29; omega)
  have e11 : g10 29 4 = jw32 (v6 + 1) := jup_s eg10
  refine st_gi jo_29 (fun v12 ev12 b13 => ?_)
  replace ev12 : v12 = g10 29 4 := ev12
  replace b13 := (jbf_10_4 jo_29 _).1 b13
  have e14 : jw32 (v12 - 1) = v12 - 1 := j32e (by omega) (by omega)
  have hc15 : g10 = jup (jBgn (36 + 3 * h 29 4) a1 a2 a3 h) 29 4 (h 29 4 + 1) := by
    rw [eg10, zt4, show u3 = 36 + 3 * h 29 4 by omega, show jw32 (v6 + 1) = h 29 4 + 1 by omega]
  exact st_r0 (ls := []) ⟨rfl, rfl, fg10, jw32 (v12 - 1), rfl, (by omega), (by exact ⟨⟨by omega, by omega⟩, hc15⟩)⟩

def w_X11_hull (i k : Int) : Prop := (i = 1) ∨ (36 ≤ i ∧ i ≤ 83) ∨ (i = 29 ∧ k = 4) ∨ (i = 111 ∧ 9 ≤ k ∧ k ≤ 11)
def k_X11_hull (a1 : Int) (a2 : Int) (a3 : Int) (h : JH) (v : Option JV) (r' g : JH) : Prop := r' = jr0 ∧ jfr w_X11_hull h g ∧ ∃ x : Int, v = some (.inl x) ∧ (-7 ≤ x ∧ x ≤ 15) ∧ ((P_X11_hull a1 a2 a3 x h g) ∧ jFg (x < 0) h g)
set_option maxHeartbeats 4000000 in
theorem c_X11_hull {E : JE} {l : Launch} (a1 : Int) (a2 : Int) (a3 : Int) (h : JH) : jMt E l 58 [.inr (.inr (.inl 0)), .inl a1, .inl a2, .inl a3] 229 jr0 h (k_X11_hull a1 a2 a3 h) := by
  refine jMt0 (nL := 4) (ls := [.inr (.inr (.inl 0)), .inl a1, .inl a2, .inl a3]) (by decide +kernel) (by decide +kernel) (by decide +kernel) rfl rfl ?_
  have f0 : jfr w_X11_hull h h := jfr_rf _ _
  refine jGo_blk qX11_hull_0 ?_
  refine st_cs (na := 2) (st := [.inl 3, .inl a1]) rfl rfl rfl (c_X11_within a1 3 h) rfl ?_
  rintro _ _ _ ⟨rfl, rfl, t1, rfl, ht1, zt1⟩ kt1
  replace kt1 : -2147483648 ≤ t1 ∧ t1 ≤ 2147483647 := kt1
  replace ht1 : 0 ≤ t1 ∧ t1 ≤ 1 := ht1
  replace zt1 : (t1 = 1 ∧ 0 ≤ a1 ∧ a1 < (3 : Int)) ∨ (t1 = 0 ∧ ¬ (0 ≤ a1 ∧ a1 < (3 : Int))) := zt1
  refine And.intro (fun c3 => ?_) (fun c3 => ?_)
  · replace c3 : ¬ t1 = 0 := c3
    show jGo E l 58 229 229 _ 14 [.inr (.inr (.inl 0)), .inl a1, .inl a2, .inl a3] [] 229 jr0 h
    refine jGo_blk qX11_hull_14 ?_
    refine And.intro (fun c4 => ?_) (fun c4 => ?_)
    · replace c4 : a2 < 0 := c4
      show jGo E l 58 229 229 _ 22 [.inr (.inr (.inl 0)), .inl a1, .inl a2, .inl a3] [] 229 jr0 h
      refine jGo_blk qX11_hull_22 ?_
      refine st_cv (na := 1) (st := [.inl (-4), .inr (.inr (.inl 0))]) jo_0 rfl rfl rfl (c_X11_refused (-4) h (by omega)) rfl ?_
      rintro _ _ g6 ⟨rfl, ft5, t5, rfl, ht5, zt5⟩ kt5
      replace kt5 : -2147483648 ≤ t5 ∧ t5 ≤ 2147483647 := kt5
      replace ht5 : -7 ≤ t5 ∧ t5 ≤ -1 := ht5
      have fg6 : jfr w_X11_hull h g6 := jfr_tr f0 ft5 (fun i k q => by unfold w_X11_refused at q; unfold w_X11_hull; omega)
      replace zt5 : t5 = (-4 : Int) := zt5
      have e7 : g6 29 4 = h 29 4 := ft5 29 4 (by unfold w_X11_refused; omega)
      have hs8 : ∀ i k : Int, ¬ i = 1 → ¬ i = 111 → g6 i k = h i k := fun i k p1 p2 => (ft5 i k (by unfold w_X11_refused; omega))
      exact st_r0 (ls := []) ⟨rfl, rfl, fg6, t5, rfl, (by omega), (by refine ⟨by unfold P_X11_hull; by_cases zz : t5 = -4 <;> first | exact Or.inl ⟨by omega, hs8⟩ | exact Or.inr (Or.inl ⟨by omega, hs8⟩) | exact Or.inr (Or.inr (Or.inl ⟨by omega, hs8⟩)), Or.inr ⟨by omega, fun i k p1 => (ft5 i k (by unfold w_X11_refused; omega))⟩⟩)⟩
    · replace c4 : 0 ≤ a2 := by first | exact c4 | exact Int.not_le.mp c4 | exact Int.not_lt.mp c4 | exact Decidable.not_not.mp c4
      refine And.intro (fun c9 => ?_) (fun c9 => ?_)
      · replace c9 : 0 ≤ a3 := c9
        show jGo E l 58 229 229 _ 29 [.inr (.inr (.inl 0)), .inl a1, .inl a2, .inl a3] [] 229 jr0 h
        refine jGo_blk qX11_hull_29 ?_
        refine And.intro (fun c10 => ?_) (fun c10 => ?_)
        · replace c10 : 99 < a2 := c10
          show jGo E l 58 229 229 _ 54 [.inr (.inr (.inl 0)), .inl a1, .inl a2, .inl a3] [] 229 jr0 h
          refine jGo_blk qX11_hull_54 ?_
          refine st_cv (na := 1) (st := [.inl (-6), .inr (.inr (.inl 0))]) jo_0 rfl rfl rfl (c_X11_refused (-6) h (by omega)) rfl ?_
          rintro _ _ g12 ⟨rfl, ft11, t11, rfl, ht11, zt11⟩ kt11
          replace kt11 : -2147483648 ≤ t11 ∧ t11 ≤ 2147483647 := kt11
          replace ht11 : -7 ≤ t11 ∧ t11 ≤ -1 := ht11
          have fg12 : jfr w_X11_hull h g12 := jfr_tr f0 ft11 (fun i k q => by unfold w_X11_refused at q; unfold w_X11_hull; omega)
          replace zt11 : t11 = (-6 : Int) := zt11
          have e13 : g12 29 4 = h 29 4 := ft11 29 4 (by unfold w_X11_refused; omega)
          have hs14 : ∀ i k : Int, ¬ i = 1 → ¬ i = 111 → g12 i k = h i k := fun i k p1 p2 => (ft11 i k (by unfold w_X11_refused; omega))
          exact st_r0 (ls := []) ⟨rfl, rfl, fg12, t11, rfl, (by omega), (by refine ⟨by unfold P_X11_hull; by_cases zz : t11 = -4 <;> first | exact Or.inl ⟨by omega, hs14⟩ | exact Or.inr (Or.inl ⟨by omega, hs14⟩) | exact Or.inr (Or.inr (Or.inl ⟨by omega, hs14⟩)), Or.inr ⟨by omega, fun i k p1 => (ft11 i k (by unfold w_X11_refused; omega))⟩⟩)⟩
        · replace c10 : a2 ≤ 99 := by first | exact c10 | exact Int.not_le.mp c10 | exact Int.not_lt.mp c10 | exact Decidable.not_not.mp c10
          refine And.intro (fun c15 => ?_) (fun c15 => ?_)
          · replace c15 : 2000 < a3 := c15
            show jGo E l 58 229 229 _ 54 [.inr (.inr (.inl 0)), .inl a1, .inl a2, .inl a3] [] 229 jr0 h
            refine jGo_blk qX11_hull_54 ?_
            refine st_cv (na := 1) (st := [.inl (-6), .inr (.inr (.inl 0))]) jo_0 rfl rfl rfl (c_X11_refused (-6) h (by omega)) rfl ?_
            rintro _ _ g17 ⟨rfl, ft16, t16, rfl, ht16, zt16⟩ kt16
            replace kt16 : -2147483648 ≤ t16 ∧ t16 ≤ 2147483647 := kt16
            replace ht16 : -7 ≤ t16 ∧ t16 ≤ -1 := ht16
            have fg17 : jfr w_X11_hull h g17 := jfr_tr f0 ft16 (fun i k q => by unfold w_X11_refused at q; unfold w_X11_hull; omega)
            replace zt16 : t16 = (-6 : Int) := zt16
            have e18 : g17 29 4 = h 29 4 := ft16 29 4 (by unfold w_X11_refused; omega)
            have hs19 : ∀ i k : Int, ¬ i = 1 → ¬ i = 111 → g17 i k = h i k := fun i k p1 p2 => (ft16 i k (by unfold w_X11_refused; omega))
            exact st_r0 (ls := []) ⟨rfl, rfl, fg17, t16, rfl, (by omega), (by refine ⟨by unfold P_X11_hull; by_cases zz : t16 = -4 <;> first | exact Or.inl ⟨by omega, hs19⟩ | exact Or.inr (Or.inl ⟨by omega, hs19⟩) | exact Or.inr (Or.inr (Or.inl ⟨by omega, hs19⟩)), Or.inr ⟨by omega, fun i k p1 => (ft16 i k (by unfold w_X11_refused; omega))⟩⟩)⟩
          · replace c15 : a3 ≤ 2000 := by first | exact c15 | exact Int.not_le.mp c15 | exact Int.not_lt.mp c15 | exact Decidable.not_not.mp c15
            refine st_gr jo_0 jr_0_5 ?_
            refine st_gi jo_29 (fun v20 ev20 b21 => ?_)
            replace ev20 : v20 = h 29 4 := ev20
            replace b21 := (jbf_10_4 jo_29 _).1 b21
            refine And.intro (fun c22 => ?_) (fun c22 => ?_)
            · replace c22 : v20 < 16 := c22
              show jGo E l 58 229 229 _ 61 [.inr (.inr (.inl 0)), .inl a1, .inl a2, .inl a3] [] 229 jr0 h
              refine jGo_blk qX11_hull_61 ?_
              refine st_gr jo_0 jr_0_11 ?_
              refine st_cv (na := 0) (st := [.inr (.inr (.inl 111))]) jo_111 rfl rfl rfl (c_X7_forget h) rfl ?_
              rintro _ _ g24 ⟨rfl, ft23, rfl, zt23⟩ kt23
              have fg24 : jfr w_X11_hull h g24 := jfr_tr f0 ft23 (fun i k q => by unfold w_X7_forget at q; unfold w_X11_hull; omega)
              replace zt23 : g24 111 9 = 0 ∧ g24 111 10 = 0 ∧ g24 111 11 = 0 := zt23
              have e25 : g24 29 4 = h 29 4 := ft23 29 4 (by unfold w_X7_forget; omega)
              refine st_gr jo_0 jr_0_5 ?_
              have e26 : g24 29 4 = h 29 4 := ft23 29 4 (by unfold w_X7_forget; omega)
              refine st_cv (na := 3) (st := [.inl a3, .inl a2, .inl a1, .inr (.inr (.inl 29))]) jo_29 rfl rfl rfl (c_X10_addHull_29 a1 a2 a3 g24 (by omega) (by omega) (by omega) (by omega)) rfl ?_
              rintro _ _ g28 ⟨rfl, ft27, t27, rfl, ht27, zt27⟩ kt27
              replace kt27 : -2147483648 ≤ t27 ∧ t27 ≤ 2147483647 := kt27
              replace ht27 : 0 ≤ t27 ∧ t27 ≤ 15 := ht27
              have fg28 : jfr w_X11_hull h g28 := jfr_tr fg24 ft27 (fun i k q => by unfold w_X10_addHull_29 at q; unfold w_X11_hull; omega)
              replace zt27 : (t27 = g24 29 4 ∧ g28 29 4 = g24 29 4 + 1) ∧ g28 = jup (jBgn (36 + 3 * g24 29 4) a1 a2 a3 g24) 29 4 (g24 29 4 + 1) := zt27
              have hq29 : ∀ i k : Int, ¬ i = 1 → ¬ i = 111 → g28 i k = jup (jBgn (36 + 3 * h 29 4) a1 a2 a3 h) 29 4 (h 29 4 + 1) i k := fun i k p1 p2 => (congrFun (congrFun zt27.2 i) k).trans (jup_cc rfl rfl (by omega) (jBgn_c (by omega) rfl rfl rfl (ft23 i k (by unfold w_X7_forget; omega))))
              exact st_r0 (ls := []) ⟨rfl, rfl, fg28, t27, rfl, (by omega), (by refine ⟨by unfold P_X11_hull; exact Or.inr (Or.inr (Or.inr ⟨by omega, by omega, hq29⟩)), Or.inl ?_⟩; exact ⟨((ft27 111 9 (by unfold w_X10_addHull_29; omega))).trans zt23.1, ((ft27 111 10 (by unfold w_X10_addHull_29; omega))).trans zt23.2.1, ((ft27 111 11 (by unfold w_X10_addHull_29; omega))).trans zt23.2.2⟩)⟩
            · replace c22 : 16 ≤ v20 := by first | exact c22 | exact Int.not_le.mp c22 | exact Int.not_lt.mp c22 | exact Decidable.not_not.mp c22
              show jGo E l 58 229 229 _ 54 [.inr (.inr (.inl 0)), .inl a1, .inl a2, .inl a3] [] 229 jr0 h
              refine jGo_blk qX11_hull_54 ?_
              refine st_cv (na := 1) (st := [.inl (-6), .inr (.inr (.inl 0))]) jo_0 rfl rfl rfl (c_X11_refused (-6) h (by omega)) rfl ?_
              rintro _ _ g31 ⟨rfl, ft30, t30, rfl, ht30, zt30⟩ kt30
              replace kt30 : -2147483648 ≤ t30 ∧ t30 ≤ 2147483647 := kt30
              replace ht30 : -7 ≤ t30 ∧ t30 ≤ -1 := ht30
              have fg31 : jfr w_X11_hull h g31 := jfr_tr f0 ft30 (fun i k q => by unfold w_X11_refused at q; unfold w_X11_hull; omega)
              replace zt30 : t30 = (-6 : Int) := zt30
              have e32 : g31 29 4 = h 29 4 := ft30 29 4 (by unfold w_X11_refused; omega)
              have rv33 : v20 = h 29 4 := by omega
              subst rv33
              have hs34 : ∀ i k : Int, ¬ i = 1 → ¬ i = 111 → g31 i k = h i k := fun i k p1 p2 => (ft30 i k (by unfold w_X11_refused; omega))
              exact st_r0 (ls := []) ⟨rfl, rfl, fg31, t30, rfl, (by omega), (by refine ⟨by unfold P_X11_hull; by_cases zz : t30 = -4 <;> first | exact Or.inl ⟨by omega, hs34⟩ | exact Or.inr (Or.inl ⟨by omega, hs34⟩) | exact Or.inr (Or.inr (Or.inl ⟨by omega, hs34⟩)), Or.inr ⟨by omega, fun i k p1 => (ft30 i k (by unfold w_X11_refused; omega))⟩⟩)⟩
      · replace c9 : a3 < 0 := by first | exact c9 | exact Int.not_le.mp c9 | exact Int.not_lt.mp c9 | exact Decidable.not_not.mp c9
        show jGo E l 58 229 229 _ 22 [.inr (.inr (.inl 0)), .inl a1, .inl a2, .inl a3] [] 229 jr0 h
        refine jGo_blk qX11_hull_22 ?_
        refine st_cv (na := 1) (st := [.inl (-4), .inr (.inr (.inl 0))]) jo_0 rfl rfl rfl (c_X11_refused (-4) h (by omega)) rfl ?_
        rintro _ _ g36 ⟨rfl, ft35, t35, rfl, ht35, zt35⟩ kt35
        replace kt35 : -2147483648 ≤ t35 ∧ t35 ≤ 2147483647 := kt35
        replace ht35 : -7 ≤ t35 ∧ t35 ≤ -1 := ht35
        have fg36 : jfr w_X11_hull h g36 := jfr_tr f0 ft35 (fun i k q => by unfold w_X11_refused at q; unfold w_X11_hull; omega)
        replace zt35 : t35 = (-4 : Int) := zt35
        have e37 : g36 29 4 = h 29 4 := ft35 29 4 (by unfold w_X11_refused; omega)
        have hs38 : ∀ i k : Int, ¬ i = 1 → ¬ i = 111 → g36 i k = h i k := fun i k p1 p2 => (ft35 i k (by unfold w_X11_refused; omega))
        exact st_r0 (ls := []) ⟨rfl, rfl, fg36, t35, rfl, (by omega), (by refine ⟨by unfold P_X11_hull; by_cases zz : t35 = -4 <;> first | exact Or.inl ⟨by omega, hs38⟩ | exact Or.inr (Or.inl ⟨by omega, hs38⟩) | exact Or.inr (Or.inr (Or.inl ⟨by omega, hs38⟩)), Or.inr ⟨by omega, fun i k p1 => (ft35 i k (by unfold w_X11_refused; omega))⟩⟩)⟩
  · replace c3 : t1 = 0 := by first | exact c3 | exact Int.not_le.mp c3 | exact Int.not_lt.mp c3 | exact Decidable.not_not.mp c3
    refine st_cv (na := 1) (st := [.inl (-1), .inr (.inr (.inl 0))]) jo_0 rfl rfl rfl (c_X11_refused (-1) h (by omega)) rfl ?_
    rintro _ _ g40 ⟨rfl, ft39, t39, rfl, ht39, zt39⟩ kt39
    replace kt39 : -2147483648 ≤ t39 ∧ t39 ≤ 2147483647 := kt39
    replace ht39 : -7 ≤ t39 ∧ t39 ≤ -1 := ht39
    have fg40 : jfr w_X11_hull h g40 := jfr_tr f0 ft39 (fun i k q => by unfold w_X11_refused at q; unfold w_X11_hull; omega)
    replace zt39 : t39 = (-1 : Int) := zt39
    have e41 : g40 29 4 = h 29 4 := ft39 29 4 (by unfold w_X11_refused; omega)
    have hs42 : ∀ i k : Int, ¬ i = 1 → ¬ i = 111 → g40 i k = h i k := fun i k p1 p2 => (ft39 i k (by unfold w_X11_refused; omega))
    exact st_r0 (ls := []) ⟨rfl, rfl, fg40, t39, rfl, (by omega), (by refine ⟨by unfold P_X11_hull; by_cases zz : t39 = -4 <;> first | exact Or.inl ⟨by omega, hs42⟩ | exact Or.inr (Or.inl ⟨by omega, hs42⟩) | exact Or.inr (Or.inr (Or.inl ⟨by omega, hs42⟩)), Or.inr ⟨by omega, fun i k p1 => (ft39 i k (by unfold w_X11_refused; omega))⟩⟩)⟩
