def w_X12_unraft (i k : Int) : Prop := (i = 181) ∨ (202 ≤ i ∧ i ≤ 203) ∨ (i = 219)
theorem ws_X12_refuse__X12_unraft (i k : Int) (q : w_X12_refuse i k) : w_X12_unraft i k := by
  unfold w_X12_refuse at q; unfold w_X12_unraft
  exact (Or.inr (Or.inr (by omega)))
def k_X12_unraft (a1 : Int) (h : JH) (v : Option JV) (r' g : JH) : Prop := r' = jr0 ∧ jfr w_X12_unraft h g ∧ ∃ x : Int, v = some (.inl x) ∧ (True) ∧ (P_X12_unraft a1 x h g)
set_option maxHeartbeats 4000000 in
theorem c_X12_unraft {E : JE} {l : Launch} (a1 : Int) (h : JH) : jMt E l 70 [.inr (.inr (.inl 176)), .inl a1] 229 jr0 h (k_X12_unraft a1 h) := by
  refine jMt0 (nL := 3) (ls := [.inr (.inr (.inl 176)), .inl a1, .inr (.inr (.inr ()))]) (by decide +kernel) (by decide +kernel) (by decide +kernel) rfl rfl ?_
  have f0 : jfr w_X12_unraft h h := jfr_rf _ _
  refine jGo_blk qX12_unraft_0 ?_
  refine st_cs (na := 3) (st := [.inl 5, .inl 0, .inl a1]) rfl rfl rfl (c_X12_in a1 0 5 h) rfl ?_
  rintro _ _ _ ⟨rfl, rfl, t1, rfl, ht1, zt1⟩ kt1
  replace kt1 : -2147483648 ≤ t1 ∧ t1 ≤ 2147483647 := kt1
  replace ht1 : 0 ≤ t1 ∧ t1 ≤ 1 := ht1
  replace zt1 : (t1 = 1 ∧ (0 : Int) ≤ a1 ∧ a1 ≤ (5 : Int)) ∨ (t1 = 0 ∧ ¬ ((0 : Int) ≤ a1 ∧ a1 ≤ (5 : Int))) := zt1
  refine And.intro (fun c3 => ?_) (fun c3 => ?_)
  · replace c3 : ¬ t1 = 0 := c3
    show jGo E l 70 229 229 _ 15 [.inr (.inr (.inl 176)), .inl a1, .inr (.inr (.inr ()))] [] 229 jr0 h
    refine jGo_blk qX12_unraft_15 ?_
    refine st_gr jo_176 jr_176_28 ?_
    refine st_ai jo_202 (show 0 ≤ a1 by omega) (show a1 < ((6 : Nat) : Int) by omega) (fun v4 ev4 b5 => ?_)
    replace ev4 : v4 = h 202 a1 := ev4
    replace b5 := (jba_202 a1 _).1 b5
    refine And.intro (fun c6 => ?_) (fun c6 => ?_)
    · replace c6 : 0 ≤ v4 := c6
      show jGo E l 70 229 229 _ 31 [.inr (.inr (.inl 176)), .inl a1, .inr (.inr (.inr ()))] [] 229 jr0 h
      refine jGo_blk qX12_unraft_31 ?_
      refine st_gr jo_176 jr_176_28 ?_
      refine st_ai jo_202 (show 0 ≤ a1 by omega) (show a1 < ((6 : Nat) : Int) by omega) (fun v7 ev7 b8 => ?_)
      replace ev7 : v7 = h 202 a1 := ev7
      replace b8 := (jba_202 a1 _).1 b8
      refine And.intro (fun c9 => ?_) (fun c9 => ?_)
      · replace c9 : 100 ≤ v7 := c9
        show jGo E l 70 229 229 _ 49 [.inr (.inr (.inl 176)), .inl a1, .inr (.inr (.inr ()))] [] 229 jr0 h
        refine jGo_blk qX12_unraft_49 ?_
        refine st_gr jo_176 jr_176_29 ?_
        refine st_ai jo_203 (show 0 ≤ a1 by omega) (show a1 < ((6 : Nat) : Int) by omega) (fun v10 ev10 b11 => ?_)
        replace ev10 : v10 = h 203 a1 := ev10
        replace b11 := (jba_203 a1 _).1 b11
        refine st_gr jo_176 jr_176_5 ?_
        refine st_gr jo_176 jr_176_5 ?_
        refine st_ai jo_181 (show 0 ≤ 0 by omega) (show 0 < ((6 : Nat) : Int) by omega) (fun v12 ev12 b13 => ?_)
        replace ev12 : v12 = h 181 0 := ev12
        replace b13 := (jba_181 0 _).1 b13
        refine And.intro (fun c14 => ?_) (fun c14 => ?_)
        · replace c14 : v10 ≤ jw32 (1000000 - v12) := c14
          show jGo E l 70 229 229 _ 79 [.inr (.inr (.inl 176)), .inl a1, .inl v10] [.inl 0, .inr (.inr (.inl 181))] 229 jr0 h
          refine jGo_blk qX12_unraft_79 ?_
          refine st_gr jo_176 jr_176_5 ?_
          refine st_ai jo_181 (show 0 ≤ 0 by omega) (show 0 < ((6 : Nat) : Int) by omega) (fun v15 ev15 b16 => ?_)
          replace ev15 : v15 = h 181 0 := ev15
          replace b16 := (jba_181 0 _).1 b16
          show jGo E l 70 229 229 _ 87 [.inr (.inr (.inl 176)), .inl a1, .inl v10] [.inl (jw32 (v15 + v10)), .inl 0, .inr (.inr (.inl 181))] 229 jr0 h
          refine jGo_blk qX12_unraft_87 ?_
          refine st_si jo_181 (show 0 ≤ 0 by omega) (show 0 < ((6 : Nat) : Int) by omega) (fun hx => (jba_181 _ _).2 hx) (fun g17 eg17 => ?_)
          replace eg17 : g17 = jup h 181 0 (jw32 (v15 + v10)) := eg17
          have fg17 : jfr w_X12_unraft h g17 := jfr_up f0 eg17 (by unfold w_X12_unraft; omega)
          have e18 : g17 181 0 = jw32 (v15 + v10) := jup_s eg17
          refine st_gr jo_176 jr_176_28 ?_
          refine st_si jo_202 (show 0 ≤ a1 by omega) (show a1 < ((6 : Nat) : Int) by omega) (fun hx => (jba_202 _ _).2 (show (-1 ≤ (-1) ∧ (-1) ≤ 15) ∨ (-1) = 100 by omega)) (fun g19 eg19 => ?_)
          replace eg19 : g19 = jup g17 202 a1 (-1) := eg19
          have fg19 : jfr w_X12_unraft h g19 := jfr_up fg17 eg19 (by unfold w_X12_unraft; omega)
          have e20 : g19 202 a1 = (-1) := jup_s eg19
          refine st_gr jo_176 jr_176_29 ?_
          refine st_si jo_203 (show 0 ≤ a1 by omega) (show a1 < ((6 : Nat) : Int) by omega) (fun hx => (jba_203 _ _).2 hx) (fun g21 eg21 => ?_)
          replace eg21 : g21 = jup g19 203 a1 0 := eg21
          have fg21 : jfr w_X12_unraft h g21 := jfr_up fg19 eg21 (by unfold w_X12_unraft; omega)
          have e22 : g21 203 a1 = 0 := jup_s eg21
          have rv23 : v4 = h 202 a1 := by omega
          subst rv23
          have rv24 : v7 = h 202 a1 := by omega
          subst rv24
          have rv25 : v10 = h 203 a1 := by omega
          subst rv25
          have rv26 : v12 = h 181 0 := by omega
          subst rv26
          have rv27 : v15 = h 181 0 := by omega
          subst rv27
          have hq28 : ∀ i k : Int, ¬ i = 219 → g21 i k = (jup (jup (jup h 181 0 (if jw32 (1000000 - h 181 0) < h 203 a1 then 1000000 else jw32 (h 181 0 + h 203 a1))) 202 a1 (-1)) 203 a1 0) i k := fun i k p1 => ((congrFun (congrFun eg21 i) k).trans (jup_cc (by omega) (by omega) (by first | rfl | omega | exact congrArg jw32 (by omega)) ((congrFun (congrFun eg19 i) k).trans (jup_cc (by omega) (by omega) (by first | rfl | omega | exact congrArg jw32 (by omega)) ((congrFun (congrFun eg17 i) k).trans (jup_cc (by omega) (by omega) (by first | exact (if_pos (by omega)).symm | exact (if_neg (by omega)).symm) rfl))))))
          exact st_r0 (ls := []) ⟨rfl, rfl, fg21, (h 203 a1), rfl, trivial, (by unfold P_X12_unraft; exact Or.inr (Or.inr (Or.inr ⟨by omega, by omega, hq28⟩)))⟩
        · replace c14 : jw32 (1000000 - v12) < v10 := by first | exact c14 | exact Int.not_le.mp c14 | exact Int.not_lt.mp c14 | exact Decidable.not_not.mp c14
          show jGo E l 70 229 229 _ 87 [.inr (.inr (.inl 176)), .inl a1, .inl v10] [.inl 1000000, .inl 0, .inr (.inr (.inl 181))] 229 jr0 h
          refine jGo_blk qX12_unraft_87 ?_
          refine st_si jo_181 (show 0 ≤ 0 by omega) (show 0 < ((6 : Nat) : Int) by omega) (fun hx => (jba_181 _ _).2 hx) (fun g29 eg29 => ?_)
          replace eg29 : g29 = jup h 181 0 1000000 := eg29
          have fg29 : jfr w_X12_unraft h g29 := jfr_up f0 eg29 (by unfold w_X12_unraft; omega)
          have e30 : g29 181 0 = 1000000 := jup_s eg29
          refine st_gr jo_176 jr_176_28 ?_
          refine st_si jo_202 (show 0 ≤ a1 by omega) (show a1 < ((6 : Nat) : Int) by omega) (fun hx => (jba_202 _ _).2 (show (-1 ≤ (-1) ∧ (-1) ≤ 15) ∨ (-1) = 100 by omega)) (fun g31 eg31 => ?_)
          replace eg31 : g31 = jup g29 202 a1 (-1) := eg31
          have fg31 : jfr w_X12_unraft h g31 := jfr_up fg29 eg31 (by unfold w_X12_unraft; omega)
          have e32 : g31 202 a1 = (-1) := jup_s eg31
          refine st_gr jo_176 jr_176_29 ?_
          refine st_si jo_203 (show 0 ≤ a1 by omega) (show a1 < ((6 : Nat) : Int) by omega) (fun hx => (jba_203 _ _).2 hx) (fun g33 eg33 => ?_)
          replace eg33 : g33 = jup g31 203 a1 0 := eg33
          have fg33 : jfr w_X12_unraft h g33 := jfr_up fg31 eg33 (by unfold w_X12_unraft; omega)
          have e34 : g33 203 a1 = 0 := jup_s eg33
          have rv35 : v4 = h 202 a1 := by omega
          subst rv35
          have rv36 : v7 = h 202 a1 := by omega
          subst rv36
          have rv37 : v10 = h 203 a1 := by omega
          subst rv37
          have rv38 : v12 = h 181 0 := by omega
          subst rv38
          have hq39 : ∀ i k : Int, ¬ i = 219 → g33 i k = (jup (jup (jup h 181 0 (if jw32 (1000000 - h 181 0) < h 203 a1 then 1000000 else jw32 (h 181 0 + h 203 a1))) 202 a1 (-1)) 203 a1 0) i k := fun i k p1 => ((congrFun (congrFun eg33 i) k).trans (jup_cc (by omega) (by omega) (by first | rfl | omega | exact congrArg jw32 (by omega)) ((congrFun (congrFun eg31 i) k).trans (jup_cc (by omega) (by omega) (by first | rfl | omega | exact congrArg jw32 (by omega)) ((congrFun (congrFun eg29 i) k).trans (jup_cc (by omega) (by omega) (by first | exact (if_pos (by omega)).symm | exact (if_neg (by omega)).symm) rfl))))))
          exact st_r0 (ls := []) ⟨rfl, rfl, fg33, (h 203 a1), rfl, trivial, (by unfold P_X12_unraft; exact Or.inr (Or.inr (Or.inr ⟨by omega, by omega, hq39⟩)))⟩
      · replace c9 : v7 < 100 := by first | exact c9 | exact Int.not_le.mp c9 | exact Int.not_lt.mp c9 | exact Decidable.not_not.mp c9
        refine st_cv (na := 1) (st := [.inl (-2), .inr (.inr (.inl 176))]) jo_176 rfl rfl rfl (c_X12_refuse (-2) h (by omega)) rfl ?_
        rintro _ _ g41 ⟨rfl, ft40, t40, rfl, ht40, zt40⟩ kt40
        replace kt40 : -2147483648 ≤ t40 ∧ t40 ≤ 2147483647 := kt40
        replace ht40 : -7 ≤ t40 ∧ t40 ≤ -1 := ht40
        have fg41 : jfr w_X12_unraft h g41 := jfr_tr f0 ft40 ws_X12_refuse__X12_unraft
        replace zt40 : t40 = (-2 : Int) := zt40
        have rv42 : v4 = h 202 a1 := by omega
        subst rv42
        have rv43 : v7 = h 202 a1 := by omega
        subst rv43
        have hs44 : ∀ i k : Int, ¬ i = 219 → g41 i k = h i k := fun i k p1 => (ft40 i k (by first | exact p1 | (unfold w_X12_refuse; omega)))
        exact st_r0 (ls := []) ⟨rfl, rfl, fg41, t40, rfl, trivial, (by unfold P_X12_unraft; by_cases zz : t40 = -4 <;> first | exact Or.inl ⟨by omega, hs44⟩ | exact Or.inr (Or.inl ⟨by omega, hs44⟩) | exact Or.inr (Or.inr (Or.inl ⟨by omega, hs44⟩)))⟩
    · replace c6 : v4 < 0 := by first | exact c6 | exact Int.not_le.mp c6 | exact Int.not_lt.mp c6 | exact Decidable.not_not.mp c6
      refine st_cv (na := 1) (st := [.inl (-3), .inr (.inr (.inl 176))]) jo_176 rfl rfl rfl (c_X12_refuse (-3) h (by omega)) rfl ?_
      rintro _ _ g46 ⟨rfl, ft45, t45, rfl, ht45, zt45⟩ kt45
      replace kt45 : -2147483648 ≤ t45 ∧ t45 ≤ 2147483647 := kt45
      replace ht45 : -7 ≤ t45 ∧ t45 ≤ -1 := ht45
      have fg46 : jfr w_X12_unraft h g46 := jfr_tr f0 ft45 ws_X12_refuse__X12_unraft
      replace zt45 : t45 = (-3 : Int) := zt45
      have rv47 : v4 = h 202 a1 := by omega
      subst rv47
      have hs48 : ∀ i k : Int, ¬ i = 219 → g46 i k = h i k := fun i k p1 => (ft45 i k (by first | exact p1 | (unfold w_X12_refuse; omega)))
      exact st_r0 (ls := []) ⟨rfl, rfl, fg46, t45, rfl, trivial, (by unfold P_X12_unraft; by_cases zz : t45 = -4 <;> first | exact Or.inl ⟨by omega, hs48⟩ | exact Or.inr (Or.inl ⟨by omega, hs48⟩) | exact Or.inr (Or.inr (Or.inl ⟨by omega, hs48⟩)))⟩
  · replace c3 : t1 = 0 := by first | exact c3 | exact Int.not_le.mp c3 | exact Int.not_lt.mp c3 | exact Decidable.not_not.mp c3
    refine st_cv (na := 1) (st := [.inl (-1), .inr (.inr (.inl 176))]) jo_176 rfl rfl rfl (c_X12_refuse (-1) h (by omega)) rfl ?_
    rintro _ _ g50 ⟨rfl, ft49, t49, rfl, ht49, zt49⟩ kt49
    replace kt49 : -2147483648 ≤ t49 ∧ t49 ≤ 2147483647 := kt49
    replace ht49 : -7 ≤ t49 ∧ t49 ≤ -1 := ht49
    have fg50 : jfr w_X12_unraft h g50 := jfr_tr f0 ft49 ws_X12_refuse__X12_unraft
    replace zt49 : t49 = (-1 : Int) := zt49
    have hs51 : ∀ i k : Int, ¬ i = 219 → g50 i k = h i k := fun i k p1 => (ft49 i k (by first | exact p1 | (unfold w_X12_refuse; omega)))
    exact st_r0 (ls := []) ⟨rfl, rfl, fg50, t49, rfl, trivial, (by unfold P_X12_unraft; by_cases zz : t49 = -4 <;> first | exact Or.inl ⟨by omega, hs51⟩ | exact Or.inr (Or.inl ⟨by omega, hs51⟩) | exact Or.inr (Or.inr (Or.inl ⟨by omega, hs51⟩)))⟩

def w_X10_lineUp_29 (i k : Int) : Prop := (i = 34) ∨ (i = 29 ∧ k = 6)
def k_X10_lineUp_29 (h : JH) (v : Option JV) (r' g : JH) : Prop := r' = jr0 ∧ jfr w_X10_lineUp_29 h g ∧ v = none ∧ (jHo h g (h 29 4) (g 29 6) (g 29 6) ∧ 0 ≤ g 29 6 ∧ g 29 6 ≤ 16)
set_option maxHeartbeats 4000000 in
theorem c_X10_lineUp_29 {E : JE} {l : Launch} (h : JH) : jMt E l 71 [.inr (.inr (.inl 29))] 229 jr0 h (k_X10_lineUp_29 h) := by
  refine jMt0 (nL := 3) (ls := [.inr (.inr (.inl 29)), .inr (.inr (.inr ())), .inr (.inr (.inr ()))]) (by decide +kernel) (by decide +kernel) (by decide +kernel) rfl rfl ?_
  have f0 : jfr w_X10_lineUp_29 h h := jfr_rf _ _
  refine jGo_bd (fun hbd => ?_)
  have hb0 := (jbf_10_4 jo_29 _).1 (hbd 29 4)
  have key : ∀ N : Nat, (∀ (x1 : Int) (x2 : JV) (g : JH), (0 ≤ x1 ∧ x1 ≤ 16) → (0 ≤ g 29 6 ∧ g 29 6 ≤ x1) → (jHo h g x1 (g 29 6) (g 29 6)) → (x1 ≤ h 29 4) → jfr w_X10_lineUp_29 h g → (16 - x1) * 1000000 + 999999 < (N : Int) → jGo E l 71 229 229 (jRK (k_X10_lineUp_29 h)) 7 [.inr (.inr (.inl 29)), .inl x1, x2] [] 229 jr0 g) ∧
      (∀ (x1 : Int) (x2 : Int) (g : JH), (0 ≤ x1 ∧ x1 ≤ 15 ∧ 0 ≤ x2 ∧ x2 ≤ 16) → (x2 ≤ g 29 6 ∧ g 29 6 ≤ x1 ∧ x1 < g 29 4) → (jHo h g x1 (g 29 6) x2) → (jUnw h x1) → (∀ j : Int, x2 < j → j ≤ g 29 6 → h (36 + 3 * g 34 j) 1 < h (36 + 3 * x1) 1) → jfr w_X10_lineUp_29 h g → (16 - x1) * 1000000 + (x2 - 0) < (N : Int) → jGo E l 71 229 229 (jRK (k_X10_lineUp_29 h)) 32 [.inr (.inr (.inl 29)), .inl x1, .inl x2] [] 229 jr0 g) := by
    intro N
    induction N with
    | zero => exact ⟨fun _ _ _ hi hx0 hx1 hx2 _ hN => absurd hN (by omega), fun _ _ _ hi hx0 hx1 hx2 hx3 _ hN => absurd hN (by omega)⟩
    | succ N ih =>
      refine ⟨?_, ?_⟩
      · intro x1 x2 g hi hx0 hx1 hx2 hf hN
        refine jGo_blk qX10_lineUp_7 ?_
        refine st_gi jo_29 (fun v1 ev1 b2 => ?_)
        replace ev1 : v1 = g 29 4 := ev1
        replace b2 := (jbf_10_4 jo_29 _).1 b2
        refine And.intro (fun c3 => ?_) (fun c3 => ?_)
        · replace c3 : v1 ≤ x1 := c3
          show jGo E l 71 229 229 _ 107 [.inr (.inr (.inl 29)), .inl x1, x2] [] 229 jr0 g
          refine jGo_blk qX10_lineUp_107 ?_
          exact ⟨rfl, rfl, hf, rfl, (by have y4 := hf 29 4 (by unfold w_X10_lineUp_29; omega); exact ⟨by rw [show h 29 4 = x1 by omega]; exact hx1, by omega, by omega⟩)⟩
        · replace c3 : x1 < v1 := by first | exact c3 | exact Int.not_le.mp c3 | exact Int.not_lt.mp c3 | exact Decidable.not_not.mp c3
          refine st_gr jo_29 jr_29_3 ?_
          refine st_ar jo_33 (by decide) (show 0 ≤ x1 by omega) (show x1 < ((16 : Nat) : Int) by omega) (fun u4 eu4 => ?_)
          replace eu4 : u4 = jr0 33 x1 := eu4
          have qu4 : u4 = 36 + 3 * x1 := eu4.trans (jhul_33 x1 (by omega) (by omega)).1
          have hu4 : jHl u4 := by rw [eu4]; exact (jhul_33 x1 (by omega) (by omega)).2
          refine st_cv (na := 0) (st := [.inr (.inr (.inl u4))]) hu4.1 rfl rfl rfl (c_X4_isUnderWay u4 g hu4) rfl ?_
          rintro _ _ _ ⟨rfl, rfl, t5, rfl, ht5, zt5⟩ kt5
          replace kt5 : -2147483648 ≤ t5 ∧ t5 ≤ 2147483647 := kt5
          replace ht5 : 0 ≤ t5 ∧ t5 ≤ 1 := ht5
          replace zt5 : (t5 = 1 ∧ (g u4 3 = 0 ∨ g u4 3 = 1)) ∨ (t5 = 0 ∧ ¬ (g u4 3 = 0 ∨ g u4 3 = 1)) := zt5
          refine And.intro (fun c7 => ?_) (fun c7 => ?_)
          · replace c7 : t5 = 0 := c7
            show jGo E l 71 229 229 _ 101 [.inr (.inr (.inl 29)), .inl x1, x2] [] 229 jr0 g
            refine jGo_blk qX10_lineUp_101 ?_
            have e8 : jw32 (x1 + 1) = x1 + 1 := jzj32 (by omega)
            show jGo E l 71 229 229 _ 7 [.inr (.inr (.inl 29)), .inl (jw32 (x1 + 1)), x2] [] 229 jr0 g
            have y10 : g u4 3 = h (36 + 3 * x1) 3 := by rw [qu4]; exact hf _ _ (by unfold w_X10_lineUp_29; omega)
            exact ih.1 (jw32 (x1 + 1)) x2 g (by omega) (by omega) (by rw [show jw32 (x1 + 1) = x1 + 1 by omega]; exact jHo_no hx1 (by unfold jUnw; omega)) (by have y4 := hf 29 4 (by unfold w_X10_lineUp_29; omega); omega) hf (by omega)
          · replace c7 : ¬ t5 = 0 := by first | exact c7 | exact Int.not_le.mp c7 | exact Int.not_lt.mp c7 | exact Decidable.not_not.mp c7
            refine st_gi jo_29 (fun v11 ev11 b12 => ?_)
            replace ev11 : v11 = g 29 6 := ev11
            replace b12 := (jbf_10_6 jo_29 _).1 b12
            show jGo E l 71 229 229 _ 32 [.inr (.inr (.inl 29)), .inl x1, .inl v11] [] 229 jr0 g
            have y13 : g u4 3 = h (36 + 3 * x1) 3 := by rw [qu4]; exact hf _ _ (by unfold w_X10_lineUp_29; omega)
            exact ih.2 x1 v11 g (by omega) (by omega) (by rw [show v11 = g 29 6 by omega]; exact hx1) (by unfold jUnw; omega) (by exact fun j a b => absurd b (by omega)) hf (by omega)
      · intro x1 x2 g hi hx0 hx1 hx2 hx3 hf hN
        refine jGo_blk qX10_lineUp_32 ?_
        refine And.intro (fun c14 => ?_) (fun c14 => ?_)
        · replace c14 : x2 ≤ 0 := c14
          show jGo E l 71 229 229 _ 84 [.inr (.inr (.inl 29)), .inl x1, .inl x2] [] 229 jr0 g
          refine jGo_blk qX10_lineUp_84 ?_
          refine st_gr jo_29 jr_29_5 ?_
          refine st_si jo_34 (show 0 ≤ x2 by omega) (show x2 < ((16 : Nat) : Int) by omega) (fun hx => (jba_34 _ _).2 (show 0 ≤ x1 ∧ x1 ≤ 15 by omega)) (fun g15 eg15 => ?_)
          replace eg15 : g15 = jup g 34 x2 x1 := eg15
          have fg15 : jfr w_X10_lineUp_29 h g15 := jfr_up hf eg15 (by unfold w_X10_lineUp_29; omega)
          have e16 : g15 34 x2 = x1 := jup_s eg15
          refine st_gi jo_29 (fun v17 ev17 b18 => ?_)
          replace ev17 : v17 = g15 29 6 := ev17
          replace b18 := (jbf_10_6 jo_29 _).1 b18
          have e19 : g15 29 6 = g 29 6 := jup_o eg15 (by first | exact fun q => absurd q.1 (by decide) | exact fun q => absurd q.2 (by decide) | omega)
          have e20 : jw32 (v17 + 1) = v17 + 1 := jzj32 (by omega)
          refine st_pi jo_29 (fun hx => (jbf_10_6 jo_29 _).2 (show 0 ≤ jw32 (v17 + 1) ∧ jw32 (v17 + 1) ≤ 16 by omega)) (fun g21 eg21 => ?_)
          replace eg21 : g21 = jup g15 29 6 (jw32 (v17 + 1)) := eg21
          have fg21 : jfr w_X10_lineUp_29 h g21 := jfr_up fg15 eg21 (by unfold w_X10_lineUp_29; omega)
          have e22 : g21 29 6 = jw32 (v17 + 1) := jup_s eg21
          show jGo E l 71 229 229 _ 101 [.inr (.inr (.inl 29)), .inl x1, .inl x2] [] 229 jr0 g21
          refine jGo_blk qX10_lineUp_101 ?_
          have e23 : jw32 (x1 + 1) = x1 + 1 := jzj32 (by omega)
          show jGo E l 71 229 229 _ 7 [.inr (.inr (.inl 29)), .inl (jw32 (x1 + 1)), .inl x2] [] 229 jr0 g21
          have hc24 : jHo h g21 (x1 + 1) (g 29 6 + 1) (g 29 6 + 1) := by
            exact jHo_in hx1 (by omega) (by omega) (by omega) hx2 hx3 (Or.inl (by omega)) ((jup_o eg21 (by first | exact fun q => absurd q.1 (by decide) | exact fun q => absurd q.2 (by decide) | omega)).trans (jup_s eg15)) (fun i q => (jup_o eg21 (by first | exact fun q => absurd q.1 (by decide) | exact fun q => absurd q.2 (by decide) | omega)).trans (jup_o eg15 (by first | exact fun q => absurd q.1 (by decide) | exact fun q => absurd q.2 (by decide) | omega)))
          exact ih.1 (jw32 (x1 + 1)) (.inl x2) g21 (by omega) (by omega) (by rw [show jw32 (x1 + 1) = x1 + 1 by omega, show g21 29 6 = g 29 6 + 1 by omega]; exact hc24) (by have y4 := hf 29 4 (by unfold w_X10_lineUp_29; omega); omega) fg21 (by omega)
        · replace c14 : 0 < x2 := by first | exact c14 | exact Int.not_le.mp c14 | exact Int.not_lt.mp c14 | exact Decidable.not_not.mp c14
          refine st_gr jo_29 jr_29_3 ?_
          refine st_gr jo_29 jr_29_5 ?_
          have e25 : jw32 (x2 - 1) = x2 - 1 := jzj32 (by omega)
          refine st_ai jo_34 (show 0 ≤ jw32 (x2 - 1) by omega) (show jw32 (x2 - 1) < ((16 : Nat) : Int) by omega) (fun v26 ev26 b27 => ?_)
          replace ev26 : v26 = g 34 (jw32 (x2 - 1)) := ev26
          replace b27 := (jba_34 (jw32 (x2 - 1)) _).1 b27
          refine st_ar jo_33 (by decide) (show 0 ≤ v26 by omega) (show v26 < ((16 : Nat) : Int) by omega) (fun u28 eu28 => ?_)
          replace eu28 : u28 = jr0 33 v26 := eu28
          have qu28 : u28 = 36 + 3 * v26 := eu28.trans (jhul_33 v26 (by omega) (by omega)).1
          have hu28 : jHl u28 := by rw [eu28]; exact (jhul_33 v26 (by omega) (by omega)).2
          refine st_gi hu28.1 (fun v29 ev29 b30 => ?_)
          replace ev29 : v29 = g u28 1 := ev29
          replace b30 := (jbf_4_1 hu28.1 _).1 b30
          refine st_gr jo_29 jr_29_3 ?_
          refine st_ar jo_33 (by decide) (show 0 ≤ x1 by omega) (show x1 < ((16 : Nat) : Int) by omega) (fun u31 eu31 => ?_)
          replace eu31 : u31 = jr0 33 x1 := eu31
          have qu31 : u31 = 36 + 3 * x1 := eu31.trans (jhul_33 x1 (by omega) (by omega)).1
          have hu31 : jHl u31 := by rw [eu31]; exact (jhul_33 x1 (by omega) (by omega)).2
          refine st_gi hu31.1 (fun v32 ev32 b33 => ?_)
          replace ev32 : v32 = g u31 1 := ev32
          replace b33 := (jbf_4_1 hu31.1 _).1 b33
          refine And.intro (fun c34 => ?_) (fun c34 => ?_)
          · replace c34 : v32 ≤ v29 := c34
            show jGo E l 71 229 229 _ 84 [.inr (.inr (.inl 29)), .inl x1, .inl x2] [] 229 jr0 g
            refine jGo_blk qX10_lineUp_84 ?_
            refine st_gr jo_29 jr_29_5 ?_
            refine st_si jo_34 (show 0 ≤ x2 by omega) (show x2 < ((16 : Nat) : Int) by omega) (fun hx => (jba_34 _ _).2 (show 0 ≤ x1 ∧ x1 ≤ 15 by omega)) (fun g35 eg35 => ?_)
            replace eg35 : g35 = jup g 34 x2 x1 := eg35
            have fg35 : jfr w_X10_lineUp_29 h g35 := jfr_up hf eg35 (by unfold w_X10_lineUp_29; omega)
            have e36 : g35 34 x2 = x1 := jup_s eg35
            refine st_gi jo_29 (fun v37 ev37 b38 => ?_)
            replace ev37 : v37 = g35 29 6 := ev37
            replace b38 := (jbf_10_6 jo_29 _).1 b38
            have e39 : g35 29 6 = g 29 6 := jup_o eg35 (by first | exact fun q => absurd q.1 (by decide) | exact fun q => absurd q.2 (by decide) | omega)
            have e40 : jw32 (v37 + 1) = v37 + 1 := jzj32 (by omega)
            refine st_pi jo_29 (fun hx => (jbf_10_6 jo_29 _).2 (show 0 ≤ jw32 (v37 + 1) ∧ jw32 (v37 + 1) ≤ 16 by omega)) (fun g41 eg41 => ?_)
            replace eg41 : g41 = jup g35 29 6 (jw32 (v37 + 1)) := eg41
            have fg41 : jfr w_X10_lineUp_29 h g41 := jfr_up fg35 eg41 (by unfold w_X10_lineUp_29; omega)
            have e42 : g41 29 6 = jw32 (v37 + 1) := jup_s eg41
            show jGo E l 71 229 229 _ 101 [.inr (.inr (.inl 29)), .inl x1, .inl x2] [] 229 jr0 g41
            refine jGo_blk qX10_lineUp_101 ?_
            have e43 : jw32 (x1 + 1) = x1 + 1 := jzj32 (by omega)
            show jGo E l 71 229 229 _ 7 [.inr (.inr (.inl 29)), .inl (jw32 (x1 + 1)), .inl x2] [] 229 jr0 g41
            have hc44 : jHo h g41 (x1 + 1) (g 29 6 + 1) (g 29 6 + 1) := by
              have y1 : g u28 1 = h (36 + 3 * g 34 (x2 - 1)) 1 := by rw [qu28, ev26, show jw32 (x2 - 1) = x2 - 1 by omega]; exact hf _ _ (by unfold w_X10_lineUp_29; omega)
              have y2 : g u31 1 = h (36 + 3 * x1) 1 := by rw [qu31]; exact hf _ _ (by unfold w_X10_lineUp_29; omega)
              exact jHo_in hx1 (by omega) (by omega) (by omega) hx2 hx3 (Or.inr (by omega)) ((jup_o eg41 (by first | exact fun q => absurd q.1 (by decide) | exact fun q => absurd q.2 (by decide) | omega)).trans (jup_s eg35)) (fun i q => (jup_o eg41 (by first | exact fun q => absurd q.1 (by decide) | exact fun q => absurd q.2 (by decide) | omega)).trans (jup_o eg35 (by first | exact fun q => absurd q.1 (by decide) | exact fun q => absurd q.2 (by decide) | omega)))
            exact ih.1 (jw32 (x1 + 1)) (.inl x2) g41 (by omega) (by omega) (by rw [show jw32 (x1 + 1) = x1 + 1 by omega, show g41 29 6 = g 29 6 + 1 by omega]; exact hc44) (by have y4 := hf 29 4 (by unfold w_X10_lineUp_29; omega); omega) fg41 (by omega)
          · replace c34 : v29 < v32 := by first | exact c34 | exact Int.not_le.mp c34 | exact Int.not_lt.mp c34 | exact Decidable.not_not.mp c34
            refine st_gr jo_29 jr_29_5 ?_
            refine st_gr jo_29 jr_29_5 ?_
            have e45 : jw32 (x2 - 1) = x2 - 1 := jzj32 (by omega)
            refine st_ai jo_34 (show 0 ≤ jw32 (x2 - 1) by omega) (show jw32 (x2 - 1) < ((16 : Nat) : Int) by omega) (fun v46 ev46 b47 => ?_)
            replace ev46 : v46 = g 34 (jw32 (x2 - 1)) := ev46
            replace b47 := (jba_34 (jw32 (x2 - 1)) _).1 b47
            refine st_si jo_34 (show 0 ≤ x2 by omega) (show x2 < ((16 : Nat) : Int) by omega) (fun hx => (jba_34 _ _).2 (show 0 ≤ v46 ∧ v46 ≤ 15 by omega)) (fun g48 eg48 => ?_)
            replace eg48 : g48 = jup g 34 x2 v46 := eg48
            have fg48 : jfr w_X10_lineUp_29 h g48 := jfr_up hf eg48 (by unfold w_X10_lineUp_29; omega)
            have e49 : g48 34 x2 = v46 := jup_s eg48
            have e50 : jw32 (x2 + (-1)) = x2 + (-1) := jzj32 (by omega)
            show jGo E l 71 229 229 _ 32 [.inr (.inr (.inl 29)), .inl x1, .inl (jw32 (x2 + (-1)))] [] 229 jr0 g48
            have e51 : g48 29 6 = g 29 6 := jup_o eg48 (by first | exact fun q => absurd q.1 (by decide) | exact fun q => absurd q.2 (by decide) | omega)
            have e52 : g48 29 6 = g 29 6 := jup_o eg48 (by first | exact fun q => absurd q.1 (by decide) | exact fun q => absurd q.2 (by decide) | omega)
            have e53 : g48 29 4 = g 29 4 := jup_o eg48 (by first | exact fun q => absurd q.1 (by decide) | exact fun q => absurd q.2 (by decide) | omega)
            have e54 : g48 29 6 = g 29 6 := jup_o eg48 (by first | exact fun q => absurd q.1 (by decide) | exact fun q => absurd q.2 (by decide) | omega)
            have e55 : g48 29 6 = g 29 6 := jup_o eg48 (by first | exact fun q => absurd q.1 (by decide) | exact fun q => absurd q.2 (by decide) | omega)
            have hc56 : ∀ j : Int, jw32 (x2 + (-1)) < j → j ≤ g48 29 6 → h (36 + 3 * g48 34 j) 1 < h (36 + 3 * x1) 1 := by
              have y1 : g u28 1 = h (36 + 3 * g 34 (x2 - 1)) 1 := by rw [qu28, ev26, show jw32 (x2 - 1) = x2 - 1 by omega]; exact hf _ _ (by unfold w_X10_lineUp_29; omega)
              have y2 : g u31 1 = h (36 + 3 * x1) 1 := by rw [qu31]; exact hf _ _ (by unfold w_X10_lineUp_29; omega)
              intro j a b
              by_cases z : j = x2
              · rw [z, (jup_s eg48).trans (ev46.trans (congrArg (g 34) (show jw32 (x2 - 1) = x2 - 1 by omega)))]; omega
              · rw [jup_o eg48 (show ¬ ((34 : Int) = 34 ∧ j = x2) by omega)]; exact hx3 j (by omega) (by omega)
            exact ih.2 x1 (jw32 (x2 + (-1))) g48 (by omega) (by omega) (by rw [show g48 29 6 = g 29 6 by omega, show jw32 (x2 + (-1)) = x2 - 1 by omega]; exact jHo_mv hx1 (by omega) (by omega) ((jup_s eg48).trans (ev46.trans (congrArg (g 34) (show jw32 (x2 - 1) = x2 - 1 by omega)))) (fun i q => jup_o eg48 (by first | exact fun q => absurd q.1 (by decide) | exact fun q => absurd q.2 (by decide) | omega))) (by exact hx2) (by exact hc56) fg48 (by omega)
  refine jGo_blk qX10_lineUp_0 ?_
  refine st_pi jo_29 (fun hx => (jbf_10_6 jo_29 _).2 (show 0 ≤ 0 ∧ 0 ≤ 16 by omega)) (fun g57 eg57 => ?_)
  replace eg57 : g57 = jup h 29 6 0 := eg57
  have fg57 : jfr w_X10_lineUp_29 h g57 := jfr_up f0 eg57 (by unfold w_X10_lineUp_29; omega)
  have e58 : g57 29 6 = 0 := jup_s eg57
  show jGo E l 71 229 229 _ 7 [.inr (.inr (.inl 29)), .inl 0, .inr (.inr (.inr ()))] [] 229 jr0 g57
  exact (key 1000000000000000000).1 0 (.inr (.inr (.inr ()))) g57 (by omega) (by omega) (by rw [show g57 29 6 = 0 by omega]; exact jHo_0 h g57) (by omega) fg57 (by omega)
