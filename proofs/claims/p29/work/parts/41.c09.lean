def k_X12_isHull (a1 : Int) (h : JH) (v : Option JV) (r' g : JH) : Prop := r' = jr0 ∧ h = g ∧ ∃ x : Int, v = some (.inl x) ∧ (0 ≤ x ∧ x ≤ 1) ∧ ((x = 1 ∧ 0 ≤ a1 ∧ a1 < h 176 14 ∧ h 176 14 ≤ 16) ∨ (x = 0 ∧ ¬ (0 ≤ a1 ∧ a1 < h 176 14)))
set_option maxHeartbeats 4000000 in
theorem c_X12_isHull {E : JE} {l : Launch} (a1 : Int) (h : JH) : jMt E l 63 [.inr (.inr (.inl 176)), .inl a1] 229 jr0 h (k_X12_isHull a1 h) := by
  refine jMt0 (nL := 2) (ls := [.inr (.inr (.inl 176)), .inl a1]) (by decide +kernel) (by decide +kernel) (by decide +kernel) rfl rfl ?_
  refine jGo_blk qX12_isHull_0 ?_
  refine st_gi jo_176 (fun v1 ev1 b2 => ?_)
  replace ev1 : v1 = h 176 14 := ev1
  replace b2 := (jbf_12_14 jo_176 _).1 b2
  have e3 : jw32 (v1 - 1) = v1 - 1 := jzj32 (by omega)
  refine st_cs (na := 3) (st := [.inl (jw32 (v1 - 1)), .inl 0, .inl a1]) rfl rfl rfl (c_X12_in a1 0 (jw32 (v1 - 1)) h) rfl ?_
  rintro _ _ _ ⟨rfl, rfl, t4, rfl, ht4, zt4⟩ kt4
  replace kt4 : -2147483648 ≤ t4 ∧ t4 ≤ 2147483647 := kt4
  replace ht4 : 0 ≤ t4 ∧ t4 ≤ 1 := ht4
  replace zt4 : (t4 = 1 ∧ (0 : Int) ≤ a1 ∧ a1 ≤ (jw32 (v1 - 1))) ∨ (t4 = 0 ∧ ¬ ((0 : Int) ≤ a1 ∧ a1 ≤ (jw32 (v1 - 1)))) := zt4
  exact st_r1 (ls := []) (show (t4 : Int) = 0 ∨ (t4 : Int) = 1 by omega) ⟨rfl, rfl, rfl, t4, rfl, (by omega), (by omega)⟩

def w_X12_priority (i k : Int) : Prop := (i = 190) ∨ (i = 219)
theorem ws_X12_refuse__X12_priority (i k : Int) (q : w_X12_refuse i k) : w_X12_priority i k := by
  unfold w_X12_refuse at q; unfold w_X12_priority
  exact (Or.inr (by omega))
def k_X12_priority (a1 : Int) (a2 : Int) (h : JH) (v : Option JV) (r' g : JH) : Prop := r' = jr0 ∧ jfr w_X12_priority h g ∧ ∃ x : Int, v = some (.inl x) ∧ (-7 ≤ x ∧ x ≤ 99) ∧ ((P_X12_priority a1 a2 x h g) ∧ jRx (x < 0) h g)
set_option maxHeartbeats 4000000 in
theorem c_X12_priority {E : JE} {l : Launch} (a1 : Int) (a2 : Int) (h : JH) : jMt E l 64 [.inr (.inr (.inl 176)), .inl a1, .inl a2] 229 jr0 h (k_X12_priority a1 a2 h) := by
  refine jMt0 (nL := 4) (ls := [.inr (.inr (.inl 176)), .inl a1, .inl a2, .inr (.inr (.inr ()))]) (by decide +kernel) (by decide +kernel) (by decide +kernel) rfl rfl ?_
  have f0 : jfr w_X12_priority h h := jfr_rf _ _
  refine jGo_blk qX12_priority_0 ?_
  refine st_cv (na := 1) (st := [.inl a1, .inr (.inr (.inl 176))]) jo_176 rfl rfl rfl (c_X12_isHull a1 h) rfl ?_
  rintro _ _ _ ⟨rfl, rfl, t1, rfl, ht1, zt1⟩ kt1
  replace kt1 : -2147483648 ≤ t1 ∧ t1 ≤ 2147483647 := kt1
  replace ht1 : 0 ≤ t1 ∧ t1 ≤ 1 := ht1
  replace zt1 : (t1 = 1 ∧ 0 ≤ a1 ∧ a1 < h 176 14 ∧ h 176 14 ≤ 16) ∨ (t1 = 0 ∧ ¬ (0 ≤ a1 ∧ a1 < h 176 14)) := zt1
  refine And.intro (fun c3 => ?_) (fun c3 => ?_)
  · replace c3 : ¬ t1 = 0 := c3
    show jGo E l 64 229 229 _ 14 [.inr (.inr (.inl 176)), .inl a1, .inl a2, .inr (.inr (.inr ()))] [] 229 jr0 h
    refine jGo_blk qX12_priority_14 ?_
    refine st_gr jo_176 jr_176_18 ?_
    refine st_ai jo_192 (show 0 ≤ a1 by omega) (show a1 < ((16 : Nat) : Int) by omega) (fun v4 ev4 b5 => ?_)
    replace ev4 : v4 = h 192 a1 := ev4
    replace b5 := (jba_192 a1 _).1 b5
    refine And.intro (fun c6 => ?_) (fun c6 => ?_)
    · replace c6 : v4 ≤ 1 := c6
      show jGo E l 64 229 229 _ 31 [.inr (.inr (.inl 176)), .inl a1, .inl a2, .inr (.inr (.inr ()))] [] 229 jr0 h
      refine jGo_blk qX12_priority_31 ?_
      refine And.intro (fun c7 => ?_) (fun c7 => ?_)
      · replace c7 : 0 ≤ a2 := c7
        show jGo E l 64 229 229 _ 42 [.inr (.inr (.inl 176)), .inl a1, .inl a2, .inr (.inr (.inr ()))] [] 229 jr0 h
        refine jGo_blk qX12_priority_42 ?_
        refine And.intro (fun c8 => ?_) (fun c8 => ?_)
        · replace c8 : a2 ≤ 99 := c8
          show jGo E l 64 229 229 _ 55 [.inr (.inr (.inl 176)), .inl a1, .inl a2, .inr (.inr (.inr ()))] [] 229 jr0 h
          refine jGo_blk qX12_priority_55 ?_
          refine st_gr jo_176 jr_176_16 ?_
          refine st_ai jo_190 (show 0 ≤ a1 by omega) (show a1 < ((16 : Nat) : Int) by omega) (fun v9 ev9 b10 => ?_)
          replace ev9 : v9 = h 190 a1 := ev9
          replace b10 := (jba_190 a1 _).1 b10
          refine st_gr jo_176 jr_176_16 ?_
          refine st_si jo_190 (show 0 ≤ a1 by omega) (show a1 < ((16 : Nat) : Int) by omega) (fun hx => (jba_190 _ _).2 (show 0 ≤ a2 ∧ a2 ≤ 99 by omega)) (fun g11 eg11 => ?_)
          replace eg11 : g11 = jup h 190 a1 a2 := eg11
          have fg11 : jfr w_X12_priority h g11 := jfr_up f0 eg11 (by unfold w_X12_priority; omega)
          have e12 : g11 190 a1 = a2 := jup_s eg11
          have rv13 : v4 = h 192 a1 := by omega
          subst rv13
          have rv14 : v9 = h 190 a1 := by omega
          subst rv14
          have hq15 : ∀ i k : Int, ¬ i = 219 → g11 i k = (jup h 190 a1 a2) i k := fun i k p1 => ((congrFun (congrFun eg11 i) k).trans (jup_cc (by omega) (by omega) (by first | rfl | omega | exact congrArg jw32 (by omega)) rfl))
          exact st_r0 (ls := []) ⟨rfl, rfl, fg11, (h 190 a1), rfl, (by omega), (by refine ⟨by unfold P_X12_priority; exact Or.inr (Or.inr (Or.inr (Or.inr ⟨by omega, by omega, hq15⟩))), fun b9 => absurd b9 (by omega)⟩)⟩
        · replace c8 : 99 < a2 := by first | exact c8 | exact Int.not_le.mp c8 | exact Int.not_lt.mp c8 | exact Decidable.not_not.mp c8
          refine st_cv (na := 1) (st := [.inl (-6), .inr (.inr (.inl 176))]) jo_176 rfl rfl rfl (c_X12_refuse (-6) h (by omega)) rfl ?_
          rintro _ _ g17 ⟨rfl, ft16, t16, rfl, ht16, zt16⟩ kt16
          replace kt16 : -2147483648 ≤ t16 ∧ t16 ≤ 2147483647 := kt16
          replace ht16 : -7 ≤ t16 ∧ t16 ≤ -1 := ht16
          have fg17 : jfr w_X12_priority h g17 := jfr_tr f0 ft16 ws_X12_refuse__X12_priority
          replace zt16 : t16 = (-6 : Int) := zt16
          have rv18 : v4 = h 192 a1 := by omega
          subst rv18
          have hs19 : ∀ i k : Int, ¬ i = 219 → g17 i k = h i k := fun i k p1 => (ft16 i k (by first | exact p1 | (unfold w_X12_refuse; omega)))
          exact st_r0 (ls := []) ⟨rfl, rfl, fg17, t16, rfl, (by omega), (by refine ⟨by unfold P_X12_priority; by_cases zz : t16 = -4 <;> first | exact Or.inl ⟨by omega, hs19⟩ | exact Or.inr (Or.inl ⟨by omega, hs19⟩) | exact Or.inr (Or.inr (Or.inl ⟨by omega, hs19⟩)) | exact Or.inr (Or.inr (Or.inr (Or.inl ⟨by omega, hs19⟩))), fun _ i k q9 => ?_⟩; exact (ft16 i k (jzma_w_X12_refuse q9)))⟩
      · replace c7 : a2 < 0 := by first | exact c7 | exact Int.not_le.mp c7 | exact Int.not_lt.mp c7 | exact Decidable.not_not.mp c7
        refine st_cv (na := 1) (st := [.inl (-4), .inr (.inr (.inl 176))]) jo_176 rfl rfl rfl (c_X12_refuse (-4) h (by omega)) rfl ?_
        rintro _ _ g21 ⟨rfl, ft20, t20, rfl, ht20, zt20⟩ kt20
        replace kt20 : -2147483648 ≤ t20 ∧ t20 ≤ 2147483647 := kt20
        replace ht20 : -7 ≤ t20 ∧ t20 ≤ -1 := ht20
        have fg21 : jfr w_X12_priority h g21 := jfr_tr f0 ft20 ws_X12_refuse__X12_priority
        replace zt20 : t20 = (-4 : Int) := zt20
        have rv22 : v4 = h 192 a1 := by omega
        subst rv22
        have hs23 : ∀ i k : Int, ¬ i = 219 → g21 i k = h i k := fun i k p1 => (ft20 i k (by first | exact p1 | (unfold w_X12_refuse; omega)))
        exact st_r0 (ls := []) ⟨rfl, rfl, fg21, t20, rfl, (by omega), (by refine ⟨by unfold P_X12_priority; by_cases zz : t20 = -4 <;> first | exact Or.inl ⟨by omega, hs23⟩ | exact Or.inr (Or.inl ⟨by omega, hs23⟩) | exact Or.inr (Or.inr (Or.inl ⟨by omega, hs23⟩)) | exact Or.inr (Or.inr (Or.inr (Or.inl ⟨by omega, hs23⟩))), fun _ i k q9 => ?_⟩; exact (ft20 i k (jzma_w_X12_refuse q9)))⟩
    · replace c6 : 1 < v4 := by first | exact c6 | exact Int.not_le.mp c6 | exact Int.not_lt.mp c6 | exact Decidable.not_not.mp c6
      refine st_cv (na := 1) (st := [.inl (-3), .inr (.inr (.inl 176))]) jo_176 rfl rfl rfl (c_X12_refuse (-3) h (by omega)) rfl ?_
      rintro _ _ g25 ⟨rfl, ft24, t24, rfl, ht24, zt24⟩ kt24
      replace kt24 : -2147483648 ≤ t24 ∧ t24 ≤ 2147483647 := kt24
      replace ht24 : -7 ≤ t24 ∧ t24 ≤ -1 := ht24
      have fg25 : jfr w_X12_priority h g25 := jfr_tr f0 ft24 ws_X12_refuse__X12_priority
      replace zt24 : t24 = (-3 : Int) := zt24
      have rv26 : v4 = h 192 a1 := by omega
      subst rv26
      have hs27 : ∀ i k : Int, ¬ i = 219 → g25 i k = h i k := fun i k p1 => (ft24 i k (by first | exact p1 | (unfold w_X12_refuse; omega)))
      exact st_r0 (ls := []) ⟨rfl, rfl, fg25, t24, rfl, (by omega), (by refine ⟨by unfold P_X12_priority; by_cases zz : t24 = -4 <;> first | exact Or.inl ⟨by omega, hs27⟩ | exact Or.inr (Or.inl ⟨by omega, hs27⟩) | exact Or.inr (Or.inr (Or.inl ⟨by omega, hs27⟩)) | exact Or.inr (Or.inr (Or.inr (Or.inl ⟨by omega, hs27⟩))), fun _ i k q9 => ?_⟩; exact (ft24 i k (jzma_w_X12_refuse q9)))⟩
  · replace c3 : t1 = 0 := by first | exact c3 | exact Int.not_le.mp c3 | exact Int.not_lt.mp c3 | exact Decidable.not_not.mp c3
    refine st_cv (na := 1) (st := [.inl (-1), .inr (.inr (.inl 176))]) jo_176 rfl rfl rfl (c_X12_refuse (-1) h (by omega)) rfl ?_
    rintro _ _ g29 ⟨rfl, ft28, t28, rfl, ht28, zt28⟩ kt28
    replace kt28 : -2147483648 ≤ t28 ∧ t28 ≤ 2147483647 := kt28
    replace ht28 : -7 ≤ t28 ∧ t28 ≤ -1 := ht28
    have fg29 : jfr w_X12_priority h g29 := jfr_tr f0 ft28 ws_X12_refuse__X12_priority
    replace zt28 : t28 = (-1 : Int) := zt28
    have hs30 : ∀ i k : Int, ¬ i = 219 → g29 i k = h i k := fun i k p1 => (ft28 i k (by first | exact p1 | (unfold w_X12_refuse; omega)))
    exact st_r0 (ls := []) ⟨rfl, rfl, fg29, t28, rfl, (by omega), (by refine ⟨by unfold P_X12_priority; by_cases zz : t28 = -4 <;> first | exact Or.inl ⟨by omega, hs30⟩ | exact Or.inr (Or.inl ⟨by omega, hs30⟩) | exact Or.inr (Or.inr (Or.inl ⟨by omega, hs30⟩)) | exact Or.inr (Or.inr (Or.inr (Or.inl ⟨by omega, hs30⟩))), fun _ i k q9 => ?_⟩; exact (ft28 i k (jzma_w_X12_refuse q9)))⟩

def w_X11_raft (i k : Int) : Prop := (i = 1) ∨ (30 ≤ i ∧ i ≤ 32) ∨ (i = 111 ∧ 9 ≤ k ∧ k ≤ 11)
theorem ws_X11_refused__X11_raft (i k : Int) (q : w_X11_refused i k) : w_X11_raft i k := by
  unfold w_X11_refused at q; unfold w_X11_raft
  exact (Or.inl (by omega))
theorem ws_X7_forget__X11_raft (i k : Int) (q : w_X7_forget i k) : w_X11_raft i k := by
  unfold w_X7_forget at q; unfold w_X11_raft
  exact (Or.inr (Or.inr (by omega)))
def k_X11_raft (a1 : Int) (a2 : Int) (h : JH) (v : Option JV) (r' g : JH) : Prop := r' = jr0 ∧ jfr w_X11_raft h g ∧ ∃ x : Int, v = some (.inl x) ∧ (-7 ≤ x ∧ x ≤ 1) ∧ ((P_X11_raft a1 a2 x h g) ∧ jFg (x < 0) h g)
set_option maxHeartbeats 4000000 in
theorem c_X11_raft {E : JE} {l : Launch} (a1 : Int) (a2 : Int) (h : JH) : jMt E l 65 [.inr (.inr (.inl 0)), .inl a1, .inl a2] 229 jr0 h (k_X11_raft a1 a2 h) := by
  refine jMt0 (nL := 4) (ls := [.inr (.inr (.inl 0)), .inl a1, .inl a2, .inr (.inr (.inr ()))]) (by decide +kernel) (by decide +kernel) (by decide +kernel) rfl rfl ?_
  have f0 : jfr w_X11_raft h h := jfr_rf _ _
  refine jGo_blk qX11_raft_0 ?_
  refine st_cs (na := 2) (st := [.inl 6, .inl a1]) rfl rfl rfl (c_X11_within a1 6 h) rfl ?_
  rintro _ _ _ ⟨rfl, rfl, t1, rfl, ht1, zt1⟩ kt1
  replace kt1 : -2147483648 ≤ t1 ∧ t1 ≤ 2147483647 := kt1
  replace ht1 : 0 ≤ t1 ∧ t1 ≤ 1 := ht1
  replace zt1 : (t1 = 1 ∧ 0 ≤ a1 ∧ a1 < (6 : Int)) ∨ (t1 = 0 ∧ ¬ (0 ≤ a1 ∧ a1 < (6 : Int))) := zt1
  refine And.intro (fun c3 => ?_) (fun c3 => ?_)
  · replace c3 : ¬ t1 = 0 := c3
    show jGo E l 65 229 229 _ 13 [.inr (.inr (.inl 0)), .inl a1, .inl a2, .inr (.inr (.inr ()))] [] 229 jr0 h
    refine jGo_blk qX11_raft_13 ?_
    refine st_gr jo_0 jr_0_5 ?_
    refine st_gr jo_29 jr_29_1 ?_
    refine st_ai jo_31 (show 0 ≤ a1 by omega) (show a1 < ((6 : Nat) : Int) by omega) (fun v4 ev4 b5 => ?_)
    replace ev4 : v4 = h 31 a1 := ev4
    replace b5 := (jba_31 a1 _).1 b5
    refine And.intro (fun c6 => ?_) (fun c6 => ?_)
    · replace c6 : v4 = (-1) := c6
      show jGo E l 65 229 229 _ 31 [.inr (.inr (.inl 0)), .inl a1, .inl a2, .inr (.inr (.inr ()))] [] 229 jr0 h
      refine jGo_blk qX11_raft_31 ?_
      refine st_cs (na := 3) (st := [.inl 1000, .inl 1, .inl a2]) rfl rfl rfl (c_X11_outside a2 1 1000 h) rfl ?_
      rintro _ _ _ ⟨rfl, rfl, t7, rfl, ht7, zt7⟩ kt7
      replace kt7 : -2147483648 ≤ t7 ∧ t7 ≤ 2147483647 := kt7
      replace ht7 : -6 ≤ t7 ∧ t7 ≤ 0 := ht7
      replace zt7 : (t7 = -4 ∧ a2 < (1 : Int)) ∨ (t7 = -6 ∧ (1 : Int) ≤ a2 ∧ (1000 : Int) < a2) ∨ (t7 = 0 ∧ (1 : Int) ≤ a2 ∧ a2 ≤ (1000 : Int)) := zt7
      show jGo E l 65 229 229 _ 39 [.inr (.inr (.inl 0)), .inl a1, .inl a2, .inr (.inr (.inr ()))] [.inl t7] 229 jr0 h
      refine jGo_blk qX11_raft_39 ?_
      refine And.intro (fun c9 => ?_) (fun c9 => ?_)
      · replace c9 : ¬ t7 = 0 := c9
        show jGo E l 65 229 229 _ 60 [.inr (.inr (.inl 0)), .inl a1, .inl a2, .inl t7] [] 229 jr0 h
        refine jGo_blk qX11_raft_60 ?_
        refine And.intro (fun c10 => ?_) (fun c10 => ?_)
        · replace c10 : t7 = 0 := c10
          exfalso; omega
        · replace c10 : ¬ t7 = 0 := by first | exact c10 | exact Int.not_le.mp c10 | exact Int.not_lt.mp c10 | exact Decidable.not_not.mp c10
          refine st_cv (na := 1) (st := [.inl t7, .inr (.inr (.inl 0))]) jo_0 rfl rfl rfl (c_X11_refused t7 h (by omega)) rfl ?_
          rintro _ _ g12 ⟨rfl, ft11, t11, rfl, ht11, zt11⟩ kt11
          replace kt11 : -2147483648 ≤ t11 ∧ t11 ≤ 2147483647 := kt11
          replace ht11 : -7 ≤ t11 ∧ t11 ≤ -1 := ht11
          have fg12 : jfr w_X11_raft h g12 := jfr_tr f0 ft11 ws_X11_refused__X11_raft
          replace zt11 : t11 = t7 := zt11
          have rv13 : v4 = h 31 a1 := by omega
          subst rv13
          have hs14 : ∀ i k : Int, ¬ i = 1 → ¬ i = 111 → g12 i k = h i k := fun i k p1 p2 => (ft11 i k (by unfold w_X11_refused; omega))
          exact st_r0 (ls := []) ⟨rfl, rfl, fg12, t11, rfl, (by omega), (by refine ⟨by unfold P_X11_raft; by_cases zz : t11 = -4 <;> first | exact Or.inl ⟨by omega, hs14⟩ | exact Or.inr (Or.inl ⟨by omega, hs14⟩) | exact Or.inr (Or.inr (Or.inl ⟨by omega, hs14⟩)) | exact Or.inr (Or.inr (Or.inr (Or.inl ⟨by omega, hs14⟩))) | exact Or.inr (Or.inr (Or.inr (Or.inr (Or.inl ⟨by omega, hs14⟩)))), Or.inr ⟨by omega, fun i k p1 => (ft11 i k (by first | exact p1 | (unfold w_X11_refused; omega)))⟩⟩)⟩
      · replace c9 : t7 = 0 := by first | exact c9 | exact Int.not_le.mp c9 | exact Int.not_lt.mp c9 | exact Decidable.not_not.mp c9
        refine st_gr jo_0 jr_0_5 ?_
        refine st_gr jo_29 jr_29_0 ?_
        refine st_ai jo_30 (show 0 ≤ 0 by omega) (show 0 < ((6 : Nat) : Int) by omega) (fun v15 ev15 b16 => ?_)
        replace ev15 : v15 = h 30 0 := ev15
        replace b16 := (jba_30 0 _).1 b16
        refine And.intro (fun c17 => ?_) (fun c17 => ?_)
        · replace c17 : a2 ≤ v15 := c17
          show jGo E l 65 229 229 _ 60 [.inr (.inr (.inl 0)), .inl a1, .inl a2, .inl t7] [] 229 jr0 h
          refine jGo_blk qX11_raft_60 ?_
          refine And.intro (fun c18 => ?_) (fun c18 => ?_)
          · replace c18 : t7 = 0 := c18
            show jGo E l 65 229 229 _ 70 [.inr (.inr (.inl 0)), .inl a1, .inl a2, .inl t7] [] 229 jr0 h
            refine jGo_blk qX11_raft_70 ?_
            refine st_gr jo_0 jr_0_11 ?_
            refine st_cv (na := 0) (st := [.inr (.inr (.inl 111))]) jo_111 rfl rfl rfl (c_X7_forget h) rfl ?_
            rintro _ _ g20 ⟨rfl, ft19, rfl, zt19⟩ kt19
            have fg20 : jfr w_X11_raft h g20 := jfr_tr f0 ft19 ws_X7_forget__X11_raft
            replace zt19 : g20 111 9 = 0 ∧ g20 111 10 = 0 ∧ g20 111 11 = 0 := zt19
            refine st_gr jo_0 jr_0_5 ?_
            refine st_gr jo_29 jr_29_0 ?_
            refine st_ai jo_30 (show 0 ≤ 0 by omega) (show 0 < ((6 : Nat) : Int) by omega) (fun v21 ev21 b22 => ?_)
            replace ev21 : v21 = g20 30 0 := ev21
            replace b22 := (jba_30 0 _).1 b22
            refine st_si jo_30 (show 0 ≤ 0 by omega) (show 0 < ((6 : Nat) : Int) by omega) (fun hx => (jba_30 _ _).2 hx) (fun g23 eg23 => ?_)
            replace eg23 : g23 = jup g20 30 0 (jw32 (v21 - a2)) := eg23
            have fg23 : jfr w_X11_raft h g23 := jfr_up fg20 eg23 (by unfold w_X11_raft; omega)
            have e24 : g23 30 0 = jw32 (v21 - a2) := jup_s eg23
            refine st_gr jo_0 jr_0_5 ?_
            refine st_gr jo_29 jr_29_1 ?_
            refine st_si jo_31 (show 0 ≤ a1 by omega) (show a1 < ((6 : Nat) : Int) by omega) (fun hx => (jba_31 _ _).2 (show -2 ≤ (-2) ∧ (-2) ≤ 15 by omega)) (fun g25 eg25 => ?_)
            replace eg25 : g25 = jup g23 31 a1 (-2) := eg25
            have fg25 : jfr w_X11_raft h g25 := jfr_up fg23 eg25 (by unfold w_X11_raft; omega)
            have e26 : g25 31 a1 = (-2) := jup_s eg25
            refine st_gr jo_0 jr_0_5 ?_
            refine st_gr jo_29 jr_29_2 ?_
            refine st_si jo_32 (show 0 ≤ a1 by omega) (show a1 < ((6 : Nat) : Int) by omega) (fun hx => (jba_32 _ _).2 hx) (fun g27 eg27 => ?_)
            replace eg27 : g27 = jup g25 32 a1 a2 := eg27
            have fg27 : jfr w_X11_raft h g27 := jfr_up fg25 eg27 (by unfold w_X11_raft; omega)
            have e28 : g27 32 a1 = a2 := jup_s eg27
            have e29 : g20 30 0 = h 30 0 := (ft19 30 0 (by unfold w_X7_forget; omega))
            have rv30 : v4 = h 31 a1 := by omega
            subst rv30
            have rv31 : v15 = h 30 0 := by omega
            subst rv31
            have rv32 : v21 = h 30 0 := by omega
            subst rv32
            have hq33 : ∀ i k : Int, ¬ i = 1 → ¬ i = 111 → g27 i k = (jup (jup (jup h 30 0 (jw32 (h 30 0 - a2))) 31 a1 (-2)) 32 a1 a2) i k := fun i k p1 p2 => ((congrFun (congrFun eg27 i) k).trans (jup_cc (by omega) (by omega) (by first | rfl | omega | exact congrArg jw32 (by omega)) ((congrFun (congrFun eg25 i) k).trans (jup_cc (by omega) (by omega) (by first | rfl | omega | exact congrArg jw32 (by omega)) ((congrFun (congrFun eg23 i) k).trans (jup_cc (by omega) (by omega) (by first | rfl | omega | exact congrArg jw32 (by omega)) (ft19 i k (by unfold w_X7_forget; omega))))))))
            exact st_r0 (ls := []) ⟨rfl, rfl, fg27, 1, rfl, (by omega), (by refine ⟨by unfold P_X11_raft; exact Or.inr (Or.inr (Or.inr (Or.inr (Or.inr ⟨by omega, by omega, hq33⟩)))), Or.inl ?_⟩; exact ⟨(((jup_o eg27 (by first | exact fun q => absurd q.1 (by decide) | exact fun q => absurd q.2 (by decide) | omega)).trans ((jup_o eg25 (by first | exact fun q => absurd q.1 (by decide) | exact fun q => absurd q.2 (by decide) | omega)).trans (jup_o eg23 (by first | exact fun q => absurd q.1 (by decide) | exact fun q => absurd q.2 (by decide) | omega))))).trans zt19.1, (((jup_o eg27 (by first | exact fun q => absurd q.1 (by decide) | exact fun q => absurd q.2 (by decide) | omega)).trans ((jup_o eg25 (by first | exact fun q => absurd q.1 (by decide) | exact fun q => absurd q.2 (by decide) | omega)).trans (jup_o eg23 (by first | exact fun q => absurd q.1 (by decide) | exact fun q => absurd q.2 (by decide) | omega))))).trans zt19.2.1, (((jup_o eg27 (by first | exact fun q => absurd q.1 (by decide) | exact fun q => absurd q.2 (by decide) | omega)).trans ((jup_o eg25 (by first | exact fun q => absurd q.1 (by decide) | exact fun q => absurd q.2 (by decide) | omega)).trans (jup_o eg23 (by first | exact fun q => absurd q.1 (by decide) | exact fun q => absurd q.2 (by decide) | omega))))).trans zt19.2.2⟩)⟩
          · replace c18 : ¬ t7 = 0 := by first | exact c18 | exact Int.not_le.mp c18 | exact Int.not_lt.mp c18 | exact Decidable.not_not.mp c18
            exfalso; omega
        · replace c17 : v15 < a2 := by first | exact c17 | exact Int.not_le.mp c17 | exact Int.not_lt.mp c17 | exact Decidable.not_not.mp c17
          show jGo E l 65 229 229 _ 60 [.inr (.inr (.inl 0)), .inl a1, .inl a2, .inl (-3)] [] 229 jr0 h
          refine jGo_blk qX11_raft_60 ?_
          refine And.intro (fun c34 => ?_) (fun c34 => ?_)
          · replace c34 : (-3 : Int) = 0 := c34
            exfalso; omega
          · replace c34 : ¬ (-3 : Int) = 0 := by first | exact c34 | exact Int.not_le.mp c34 | exact Int.not_lt.mp c34 | exact Decidable.not_not.mp c34
            refine st_cv (na := 1) (st := [.inl (-3), .inr (.inr (.inl 0))]) jo_0 rfl rfl rfl (c_X11_refused (-3) h (by omega)) rfl ?_
            rintro _ _ g36 ⟨rfl, ft35, t35, rfl, ht35, zt35⟩ kt35
            replace kt35 : -2147483648 ≤ t35 ∧ t35 ≤ 2147483647 := kt35
            replace ht35 : -7 ≤ t35 ∧ t35 ≤ -1 := ht35
            have fg36 : jfr w_X11_raft h g36 := jfr_tr f0 ft35 ws_X11_refused__X11_raft
            replace zt35 : t35 = (-3 : Int) := zt35
            have rv37 : v4 = h 31 a1 := by omega
            subst rv37
            have rv38 : v15 = h 30 0 := by omega
            subst rv38
            have hs39 : ∀ i k : Int, ¬ i = 1 → ¬ i = 111 → g36 i k = h i k := fun i k p1 p2 => (ft35 i k (by unfold w_X11_refused; omega))
            exact st_r0 (ls := []) ⟨rfl, rfl, fg36, t35, rfl, (by omega), (by refine ⟨by unfold P_X11_raft; by_cases zz : t35 = -4 <;> first | exact Or.inl ⟨by omega, hs39⟩ | exact Or.inr (Or.inl ⟨by omega, hs39⟩) | exact Or.inr (Or.inr (Or.inl ⟨by omega, hs39⟩)) | exact Or.inr (Or.inr (Or.inr (Or.inl ⟨by omega, hs39⟩))) | exact Or.inr (Or.inr (Or.inr (Or.inr (Or.inl ⟨by omega, hs39⟩)))), Or.inr ⟨by omega, fun i k p1 => (ft35 i k (by first | exact p1 | (unfold w_X11_refused; omega)))⟩⟩)⟩
    · replace c6 : ¬ v4 = (-1) := by first | exact c6 | exact Int.not_le.mp c6 | exact Int.not_lt.mp c6 | exact Decidable.not_not.mp c6
      show jGo E l 65 229 229 _ 39 [.inr (.inr (.inl 0)), .inl a1, .inl a2, .inr (.inr (.inr ()))] [.inl (-3)] 229 jr0 h
      refine jGo_blk qX11_raft_39 ?_
      refine And.intro (fun c40 => ?_) (fun c40 => ?_)
      · replace c40 : ¬ (-3 : Int) = 0 := c40
        show jGo E l 65 229 229 _ 60 [.inr (.inr (.inl 0)), .inl a1, .inl a2, .inl (-3)] [] 229 jr0 h
        refine jGo_blk qX11_raft_60 ?_
        refine And.intro (fun c41 => ?_) (fun c41 => ?_)
        · replace c41 : (-3 : Int) = 0 := c41
          exfalso; omega
        · replace c41 : ¬ (-3 : Int) = 0 := by first | exact c41 | exact Int.not_le.mp c41 | exact Int.not_lt.mp c41 | exact Decidable.not_not.mp c41
          refine st_cv (na := 1) (st := [.inl (-3), .inr (.inr (.inl 0))]) jo_0 rfl rfl rfl (c_X11_refused (-3) h (by omega)) rfl ?_
          rintro _ _ g43 ⟨rfl, ft42, t42, rfl, ht42, zt42⟩ kt42
          replace kt42 : -2147483648 ≤ t42 ∧ t42 ≤ 2147483647 := kt42
          replace ht42 : -7 ≤ t42 ∧ t42 ≤ -1 := ht42
          have fg43 : jfr w_X11_raft h g43 := jfr_tr f0 ft42 ws_X11_refused__X11_raft
          replace zt42 : t42 = (-3 : Int) := zt42
          have rv44 : v4 = h 31 a1 := by omega
          subst rv44
          have hs45 : ∀ i k : Int, ¬ i = 1 → ¬ i = 111 → g43 i k = h i k := fun i k p1 p2 => (ft42 i k (by unfold w_X11_refused; omega))
          exact st_r0 (ls := []) ⟨rfl, rfl, fg43, t42, rfl, (by omega), (by refine ⟨by unfold P_X11_raft; by_cases zz : t42 = -4 <;> first | exact Or.inl ⟨by omega, hs45⟩ | exact Or.inr (Or.inl ⟨by omega, hs45⟩) | exact Or.inr (Or.inr (Or.inl ⟨by omega, hs45⟩)) | exact Or.inr (Or.inr (Or.inr (Or.inl ⟨by omega, hs45⟩))) | exact Or.inr (Or.inr (Or.inr (Or.inr (Or.inl ⟨by omega, hs45⟩)))), Or.inr ⟨by omega, fun i k p1 => (ft42 i k (by first | exact p1 | (unfold w_X11_refused; omega)))⟩⟩)⟩
      · replace c40 : (-3 : Int) = 0 := by first | exact c40 | exact Int.not_le.mp c40 | exact Int.not_lt.mp c40 | exact Decidable.not_not.mp c40
        exfalso; omega
  · replace c3 : t1 = 0 := by first | exact c3 | exact Int.not_le.mp c3 | exact Int.not_lt.mp c3 | exact Decidable.not_not.mp c3
    show jGo E l 65 229 229 _ 39 [.inr (.inr (.inl 0)), .inl a1, .inl a2, .inr (.inr (.inr ()))] [.inl (-1)] 229 jr0 h
    refine jGo_blk qX11_raft_39 ?_
    refine And.intro (fun c46 => ?_) (fun c46 => ?_)
    · replace c46 : ¬ (-1 : Int) = 0 := c46
      show jGo E l 65 229 229 _ 60 [.inr (.inr (.inl 0)), .inl a1, .inl a2, .inl (-1)] [] 229 jr0 h
      refine jGo_blk qX11_raft_60 ?_
      refine And.intro (fun c47 => ?_) (fun c47 => ?_)
      · replace c47 : (-1 : Int) = 0 := c47
        exfalso; omega
      · replace c47 : ¬ (-1 : Int) = 0 := by first | exact c47 | exact Int.not_le.mp c47 | exact Int.not_lt.mp c47 | exact Decidable.not_not.mp c47
        refine st_cv (na := 1) (st := [.inl (-1), .inr (.inr (.inl 0))]) jo_0 rfl rfl rfl (c_X11_refused (-1) h (by omega)) rfl ?_
        rintro _ _ g49 ⟨rfl, ft48, t48, rfl, ht48, zt48⟩ kt48
        replace kt48 : -2147483648 ≤ t48 ∧ t48 ≤ 2147483647 := kt48
        replace ht48 : -7 ≤ t48 ∧ t48 ≤ -1 := ht48
        have fg49 : jfr w_X11_raft h g49 := jfr_tr f0 ft48 ws_X11_refused__X11_raft
        replace zt48 : t48 = (-1 : Int) := zt48
        have hs50 : ∀ i k : Int, ¬ i = 1 → ¬ i = 111 → g49 i k = h i k := fun i k p1 p2 => (ft48 i k (by unfold w_X11_refused; omega))
        exact st_r0 (ls := []) ⟨rfl, rfl, fg49, t48, rfl, (by omega), (by refine ⟨by unfold P_X11_raft; by_cases zz : t48 = -4 <;> first | exact Or.inl ⟨by omega, hs50⟩ | exact Or.inr (Or.inl ⟨by omega, hs50⟩) | exact Or.inr (Or.inr (Or.inl ⟨by omega, hs50⟩)) | exact Or.inr (Or.inr (Or.inr (Or.inl ⟨by omega, hs50⟩))) | exact Or.inr (Or.inr (Or.inr (Or.inr (Or.inl ⟨by omega, hs50⟩)))), Or.inr ⟨by omega, fun i k p1 => (ft48 i k (by first | exact p1 | (unfold w_X11_refused; omega)))⟩⟩)⟩
    · replace c46 : (-1 : Int) = 0 := by first | exact c46 | exact Int.not_le.mp c46 | exact Int.not_lt.mp c46 | exact Decidable.not_not.mp c46
      exfalso; omega

def w_X12_raft (i k : Int) : Prop := (i = 181) ∨ (202 ≤ i ∧ i ≤ 203) ∨ (i = 219)
theorem ws_X12_refuse__X12_raft (i k : Int) (q : w_X12_refuse i k) : w_X12_raft i k := by
  unfold w_X12_refuse at q; unfold w_X12_raft
  exact (Or.inr (Or.inr (by omega)))
def k_X12_raft (a1 : Int) (a2 : Int) (h : JH) (v : Option JV) (r' g : JH) : Prop := r' = jr0 ∧ jfr w_X12_raft h g ∧ ∃ x : Int, v = some (.inl x) ∧ (-7 ≤ x ∧ x ≤ 1) ∧ ((P_X12_raft a1 a2 x h g) ∧ jRx (x < 0) h g)
set_option maxHeartbeats 4000000 in
theorem c_X12_raft {E : JE} {l : Launch} (a1 : Int) (a2 : Int) (h : JH) : jMt E l 66 [.inr (.inr (.inl 176)), .inl a1, .inl a2] 229 jr0 h (k_X12_raft a1 a2 h) := by
  refine jMt0 (nL := 3) (ls := [.inr (.inr (.inl 176)), .inl a1, .inl a2]) (by decide +kernel) (by decide +kernel) (by decide +kernel) rfl rfl ?_
  have f0 : jfr w_X12_raft h h := jfr_rf _ _
  refine jGo_blk qX12_raft_0 ?_
  refine st_cs (na := 3) (st := [.inl 5, .inl 0, .inl a1]) rfl rfl rfl (c_X12_in a1 0 5 h) rfl ?_
  rintro _ _ _ ⟨rfl, rfl, t1, rfl, ht1, zt1⟩ kt1
  replace kt1 : -2147483648 ≤ t1 ∧ t1 ≤ 2147483647 := kt1
  replace ht1 : 0 ≤ t1 ∧ t1 ≤ 1 := ht1
  replace zt1 : (t1 = 1 ∧ (0 : Int) ≤ a1 ∧ a1 ≤ (5 : Int)) ∨ (t1 = 0 ∧ ¬ ((0 : Int) ≤ a1 ∧ a1 ≤ (5 : Int))) := zt1
  refine And.intro (fun c3 => ?_) (fun c3 => ?_)
  · replace c3 : ¬ t1 = 0 := c3
    show jGo E l 66 229 229 _ 15 [.inr (.inr (.inl 176)), .inl a1, .inl a2] [] 229 jr0 h
    refine jGo_blk qX12_raft_15 ?_
    refine st_gr jo_176 jr_176_28 ?_
    refine st_ai jo_202 (show 0 ≤ a1 by omega) (show a1 < ((6 : Nat) : Int) by omega) (fun v4 ev4 b5 => ?_)
    replace ev4 : v4 = h 202 a1 := ev4
    replace b5 := (jba_202 a1 _).1 b5
    refine And.intro (fun c6 => ?_) (fun c6 => ?_)
    · replace c6 : v4 < 0 := c6
      show jGo E l 66 229 229 _ 31 [.inr (.inr (.inl 176)), .inl a1, .inl a2] [] 229 jr0 h
      refine jGo_blk qX12_raft_31 ?_
      refine And.intro (fun c7 => ?_) (fun c7 => ?_)
      · replace c7 : 1 ≤ a2 := c7
        show jGo E l 66 229 229 _ 43 [.inr (.inr (.inl 176)), .inl a1, .inl a2] [] 229 jr0 h
        refine jGo_blk qX12_raft_43 ?_
        refine And.intro (fun c8 => ?_) (fun c8 => ?_)
        · replace c8 : a2 ≤ 1000 := c8
          show jGo E l 66 229 229 _ 57 [.inr (.inr (.inl 176)), .inl a1, .inl a2] [] 229 jr0 h
          refine jGo_blk qX12_raft_57 ?_
          refine st_gr jo_176 jr_176_5 ?_
          refine st_ai jo_181 (show 0 ≤ 0 by omega) (show 0 < ((6 : Nat) : Int) by omega) (fun v9 ev9 b10 => ?_)
          replace ev9 : v9 = h 181 0 := ev9
          replace b10 := (jba_181 0 _).1 b10
          refine And.intro (fun c11 => ?_) (fun c11 => ?_)
          · replace c11 : a2 ≤ v9 := c11
            show jGo E l 66 229 229 _ 74 [.inr (.inr (.inl 176)), .inl a1, .inl a2] [] 229 jr0 h
            refine jGo_blk qX12_raft_74 ?_
            refine st_gr jo_176 jr_176_5 ?_
            refine st_ai jo_181 (show 0 ≤ 0 by omega) (show 0 < ((6 : Nat) : Int) by omega) (fun v12 ev12 b13 => ?_)
            replace ev12 : v12 = h 181 0 := ev12
            replace b13 := (jba_181 0 _).1 b13
            have e14 : jw32 (v12 - a2) = v12 - a2 := jzj32 (by omega)
            refine st_si jo_181 (show 0 ≤ 0 by omega) (show 0 < ((6 : Nat) : Int) by omega) (fun hx => (jba_181 _ _).2 hx) (fun g15 eg15 => ?_)
            replace eg15 : g15 = jup h 181 0 (jw32 (v12 - a2)) := eg15
            have fg15 : jfr w_X12_raft h g15 := jfr_up f0 eg15 (by unfold w_X12_raft; omega)
            have e16 : g15 181 0 = jw32 (v12 - a2) := jup_s eg15
            refine st_gr jo_176 jr_176_28 ?_
            refine st_si jo_202 (show 0 ≤ a1 by omega) (show a1 < ((6 : Nat) : Int) by omega) (fun hx => (jba_202 _ _).2 (show (-1 ≤ 100 ∧ 100 ≤ 15) ∨ 100 = 100 by omega)) (fun g17 eg17 => ?_)
            replace eg17 : g17 = jup g15 202 a1 100 := eg17
            have fg17 : jfr w_X12_raft h g17 := jfr_up fg15 eg17 (by unfold w_X12_raft; omega)
            have e18 : g17 202 a1 = 100 := jup_s eg17
            refine st_gr jo_176 jr_176_29 ?_
            refine st_si jo_203 (show 0 ≤ a1 by omega) (show a1 < ((6 : Nat) : Int) by omega) (fun hx => (jba_203 _ _).2 hx) (fun g19 eg19 => ?_)
            replace eg19 : g19 = jup g17 203 a1 a2 := eg19
            have fg19 : jfr w_X12_raft h g19 := jfr_up fg17 eg19 (by unfold w_X12_raft; omega)
            have e20 : g19 203 a1 = a2 := jup_s eg19
            have rv21 : v4 = h 202 a1 := by omega
            subst rv21
            have rv22 : v9 = h 181 0 := by omega
            subst rv22
            have rv23 : v12 = h 181 0 := by omega
            subst rv23
            have hq24 : ∀ i k : Int, ¬ i = 219 → g19 i k = (jup (jup (jup h 181 0 (jw32 (h 181 0 - a2))) 202 a1 100) 203 a1 a2) i k := fun i k p1 => ((congrFun (congrFun eg19 i) k).trans (jup_cc (by omega) (by omega) (by first | rfl | omega | exact congrArg jw32 (by omega)) ((congrFun (congrFun eg17 i) k).trans (jup_cc (by omega) (by omega) (by first | rfl | omega | exact congrArg jw32 (by omega)) ((congrFun (congrFun eg15 i) k).trans (jup_cc (by omega) (by omega) (by first | rfl | omega | exact congrArg jw32 (by omega)) rfl))))))
            exact st_r0 (ls := []) ⟨rfl, rfl, fg19, 1, rfl, (by omega), (by refine ⟨by unfold P_X12_raft; exact Or.inr (Or.inr (Or.inr (Or.inr (Or.inr ⟨by omega, by omega, hq24⟩)))), fun b9 => absurd b9 (by omega)⟩)⟩
          · replace c11 : v9 < a2 := by first | exact c11 | exact Int.not_le.mp c11 | exact Int.not_lt.mp c11 | exact Decidable.not_not.mp c11
            refine st_cv (na := 1) (st := [.inl (-3), .inr (.inr (.inl 176))]) jo_176 rfl rfl rfl (c_X12_refuse (-3) h (by omega)) rfl ?_
            rintro _ _ g26 ⟨rfl, ft25, t25, rfl, ht25, zt25⟩ kt25
            replace kt25 : -2147483648 ≤ t25 ∧ t25 ≤ 2147483647 := kt25
            replace ht25 : -7 ≤ t25 ∧ t25 ≤ -1 := ht25
            have fg26 : jfr w_X12_raft h g26 := jfr_tr f0 ft25 ws_X12_refuse__X12_raft
            replace zt25 : t25 = (-3 : Int) := zt25
            have rv27 : v4 = h 202 a1 := by omega
            subst rv27
            have rv28 : v9 = h 181 0 := by omega
            subst rv28
            have hs29 : ∀ i k : Int, ¬ i = 219 → g26 i k = h i k := fun i k p1 => (ft25 i k (by first | exact p1 | (unfold w_X12_refuse; omega)))
            exact st_r0 (ls := []) ⟨rfl, rfl, fg26, t25, rfl, (by omega), (by refine ⟨by unfold P_X12_raft; by_cases zz : t25 = -4 <;> first | exact Or.inl ⟨by omega, hs29⟩ | exact Or.inr (Or.inl ⟨by omega, hs29⟩) | exact Or.inr (Or.inr (Or.inl ⟨by omega, hs29⟩)) | exact Or.inr (Or.inr (Or.inr (Or.inl ⟨by omega, hs29⟩))) | exact Or.inr (Or.inr (Or.inr (Or.inr (Or.inl ⟨by omega, hs29⟩)))), fun _ i k q9 => ?_⟩; exact (ft25 i k (jzma_w_X12_refuse q9)))⟩
        · replace c8 : 1000 < a2 := by first | exact c8 | exact Int.not_le.mp c8 | exact Int.not_lt.mp c8 | exact Decidable.not_not.mp c8
          refine st_cv (na := 1) (st := [.inl (-6), .inr (.inr (.inl 176))]) jo_176 rfl rfl rfl (c_X12_refuse (-6) h (by omega)) rfl ?_
          rintro _ _ g31 ⟨rfl, ft30, t30, rfl, ht30, zt30⟩ kt30
          replace kt30 : -2147483648 ≤ t30 ∧ t30 ≤ 2147483647 := kt30
          replace ht30 : -7 ≤ t30 ∧ t30 ≤ -1 := ht30
          have fg31 : jfr w_X12_raft h g31 := jfr_tr f0 ft30 ws_X12_refuse__X12_raft
          replace zt30 : t30 = (-6 : Int) := zt30
          have rv32 : v4 = h 202 a1 := by omega
          subst rv32
          have hs33 : ∀ i k : Int, ¬ i = 219 → g31 i k = h i k := fun i k p1 => (ft30 i k (by first | exact p1 | (unfold w_X12_refuse; omega)))
          exact st_r0 (ls := []) ⟨rfl, rfl, fg31, t30, rfl, (by omega), (by refine ⟨by unfold P_X12_raft; by_cases zz : t30 = -4 <;> first | exact Or.inl ⟨by omega, hs33⟩ | exact Or.inr (Or.inl ⟨by omega, hs33⟩) | exact Or.inr (Or.inr (Or.inl ⟨by omega, hs33⟩)) | exact Or.inr (Or.inr (Or.inr (Or.inl ⟨by omega, hs33⟩))) | exact Or.inr (Or.inr (Or.inr (Or.inr (Or.inl ⟨by omega, hs33⟩)))), fun _ i k q9 => ?_⟩; exact (ft30 i k (jzma_w_X12_refuse q9)))⟩
      · replace c7 : a2 < 1 := by first | exact c7 | exact Int.not_le.mp c7 | exact Int.not_lt.mp c7 | exact Decidable.not_not.mp c7
        refine st_cv (na := 1) (st := [.inl (-4), .inr (.inr (.inl 176))]) jo_176 rfl rfl rfl (c_X12_refuse (-4) h (by omega)) rfl ?_
        rintro _ _ g35 ⟨rfl, ft34, t34, rfl, ht34, zt34⟩ kt34
        replace kt34 : -2147483648 ≤ t34 ∧ t34 ≤ 2147483647 := kt34
        replace ht34 : -7 ≤ t34 ∧ t34 ≤ -1 := ht34
        have fg35 : jfr w_X12_raft h g35 := jfr_tr f0 ft34 ws_X12_refuse__X12_raft
        replace zt34 : t34 = (-4 : Int) := zt34
        have rv36 : v4 = h 202 a1 := by omega
        subst rv36
        have hs37 : ∀ i k : Int, ¬ i = 219 → g35 i k = h i k := fun i k p1 => (ft34 i k (by first | exact p1 | (unfold w_X12_refuse; omega)))
        exact st_r0 (ls := []) ⟨rfl, rfl, fg35, t34, rfl, (by omega), (by refine ⟨by unfold P_X12_raft; by_cases zz : t34 = -4 <;> first | exact Or.inl ⟨by omega, hs37⟩ | exact Or.inr (Or.inl ⟨by omega, hs37⟩) | exact Or.inr (Or.inr (Or.inl ⟨by omega, hs37⟩)) | exact Or.inr (Or.inr (Or.inr (Or.inl ⟨by omega, hs37⟩))) | exact Or.inr (Or.inr (Or.inr (Or.inr (Or.inl ⟨by omega, hs37⟩)))), fun _ i k q9 => ?_⟩; exact (ft34 i k (jzma_w_X12_refuse q9)))⟩
    · replace c6 : 0 ≤ v4 := by first | exact c6 | exact Int.not_le.mp c6 | exact Int.not_lt.mp c6 | exact Decidable.not_not.mp c6
      refine st_cv (na := 1) (st := [.inl (-3), .inr (.inr (.inl 176))]) jo_176 rfl rfl rfl (c_X12_refuse (-3) h (by omega)) rfl ?_
      rintro _ _ g39 ⟨rfl, ft38, t38, rfl, ht38, zt38⟩ kt38
      replace kt38 : -2147483648 ≤ t38 ∧ t38 ≤ 2147483647 := kt38
      replace ht38 : -7 ≤ t38 ∧ t38 ≤ -1 := ht38
      have fg39 : jfr w_X12_raft h g39 := jfr_tr f0 ft38 ws_X12_refuse__X12_raft
      replace zt38 : t38 = (-3 : Int) := zt38
      have rv40 : v4 = h 202 a1 := by omega
      subst rv40
      have hs41 : ∀ i k : Int, ¬ i = 219 → g39 i k = h i k := fun i k p1 => (ft38 i k (by first | exact p1 | (unfold w_X12_refuse; omega)))
      exact st_r0 (ls := []) ⟨rfl, rfl, fg39, t38, rfl, (by omega), (by refine ⟨by unfold P_X12_raft; by_cases zz : t38 = -4 <;> first | exact Or.inl ⟨by omega, hs41⟩ | exact Or.inr (Or.inl ⟨by omega, hs41⟩) | exact Or.inr (Or.inr (Or.inl ⟨by omega, hs41⟩)) | exact Or.inr (Or.inr (Or.inr (Or.inl ⟨by omega, hs41⟩))) | exact Or.inr (Or.inr (Or.inr (Or.inr (Or.inl ⟨by omega, hs41⟩)))), fun _ i k q9 => ?_⟩; exact (ft38 i k (jzma_w_X12_refuse q9)))⟩
  · replace c3 : t1 = 0 := by first | exact c3 | exact Int.not_le.mp c3 | exact Int.not_lt.mp c3 | exact Decidable.not_not.mp c3
    refine st_cv (na := 1) (st := [.inl (-1), .inr (.inr (.inl 176))]) jo_176 rfl rfl rfl (c_X12_refuse (-1) h (by omega)) rfl ?_
    rintro _ _ g43 ⟨rfl, ft42, t42, rfl, ht42, zt42⟩ kt42
    replace kt42 : -2147483648 ≤ t42 ∧ t42 ≤ 2147483647 := kt42
    replace ht42 : -7 ≤ t42 ∧ t42 ≤ -1 := ht42
    have fg43 : jfr w_X12_raft h g43 := jfr_tr f0 ft42 ws_X12_refuse__X12_raft
    replace zt42 : t42 = (-1 : Int) := zt42
    have hs44 : ∀ i k : Int, ¬ i = 219 → g43 i k = h i k := fun i k p1 => (ft42 i k (by first | exact p1 | (unfold w_X12_refuse; omega)))
    exact st_r0 (ls := []) ⟨rfl, rfl, fg43, t42, rfl, (by omega), (by refine ⟨by unfold P_X12_raft; by_cases zz : t42 = -4 <;> first | exact Or.inl ⟨by omega, hs44⟩ | exact Or.inr (Or.inl ⟨by omega, hs44⟩) | exact Or.inr (Or.inr (Or.inl ⟨by omega, hs44⟩)) | exact Or.inr (Or.inr (Or.inr (Or.inl ⟨by omega, hs44⟩))) | exact Or.inr (Or.inr (Or.inr (Or.inr (Or.inl ⟨by omega, hs44⟩)))), fun _ i k q9 => ?_⟩; exact (ft42 i k (jzma_w_X12_refuse q9)))⟩

def w_X10_store_29 (i k : Int) : Prop := (i = 30)
def k_X10_store_29 (a1 : Int) (a2 : Int) (h : JH) (v : Option JV) (r' g : JH) : Prop := r' = jr0 ∧ jfr w_X10_store_29 h g ∧ ∃ x : Int, v = some (.inl x) ∧ (True) ∧ (x = jmin a2 (jw32 (1000000 - h 30 a1)) ∧ g = jSto 30 a1 a2 h)
set_option maxHeartbeats 4000000 in
theorem c_X10_store_29 {E : JE} {l : Launch} (a1 : Int) (a2 : Int) (h : JH) (p1 : 0 ≤ a1 ∧ a1 ≤ 5) : jMt E l 68 [.inr (.inr (.inl 29)), .inl a1, .inl a2] 229 jr0 h (k_X10_store_29 a1 a2 h) := by
  refine jMt0 (nL := 4) (ls := [.inr (.inr (.inl 29)), .inl a1, .inl a2, .inr (.inr (.inr ()))]) (by decide +kernel) (by decide +kernel) (by decide +kernel) rfl rfl ?_
  have f0 : jfr w_X10_store_29 h h := jfr_rf _ _
  refine jGo_blk qX10_store_0 ?_
  refine st_gr jo_29 jr_29_0 ?_
  refine st_ai jo_30 (show 0 ≤ a1 by omega) (show a1 < ((6 : Nat) : Int) by omega) (fun v1 ev1 b2 => ?_)
  replace ev1 : v1 = h 30 a1 := ev1
  replace b2 := (jba_30 a1 _).1 b2
  refine st_m0 rfl (fun v3 m1v3 m2v3 m3v3 => ?_)
  replace m1v3 : v3 ≤ a2 := m1v3; replace m2v3 : v3 ≤ jw32 (1000000 - v1) := m2v3; replace m3v3 : v3 = a2 ∨ v3 = jw32 (1000000 - v1) := m3v3
  have ev3 : v3 = jmin a2 (jw32 (1000000 - v1)) := by unfold jmin; omega
  refine st_gr jo_29 jr_29_0 ?_
  refine st_ai jo_30 (show 0 ≤ a1 by omega) (show a1 < ((6 : Nat) : Int) by omega) (fun v4 ev4 b5 => ?_)
  replace ev4 : v4 = h 30 a1 := ev4
  replace b5 := (jba_30 a1 _).1 b5
  refine st_si jo_30 (show 0 ≤ a1 by omega) (show a1 < ((6 : Nat) : Int) by omega) (fun hx => (jba_30 _ _).2 hx) (fun g6 eg6 => ?_)
  replace eg6 : g6 = jup h 30 a1 (jw32 (v4 + v3)) := eg6
  have fg6 : jfr w_X10_store_29 h g6 := jfr_up f0 eg6 (by unfold w_X10_store_29; omega)
  have e7 : g6 30 a1 = jw32 (v4 + v3) := jup_s eg6
  exact st_r0 (ls := []) ⟨rfl, rfl, fg6, v3, rfl, trivial, (by subst eg6 ev4 ev3 ev1; unfold jSto; exact ⟨rfl, rfl⟩)⟩

def w_X11_unraft (i k : Int) : Prop := (i = 1) ∨ (30 ≤ i ∧ i ≤ 32) ∨ (i = 111 ∧ 9 ≤ k ∧ k ≤ 11)
theorem ws_X7_forget__X11_unraft (i k : Int) (q : w_X7_forget i k) : w_X11_unraft i k := by
  unfold w_X7_forget at q; unfold w_X11_unraft
  exact (Or.inr (Or.inr (by omega)))
theorem ws_X10_store_29__X11_unraft (i k : Int) (q : w_X10_store_29 i k) : w_X11_unraft i k := by
  unfold w_X10_store_29 at q; unfold w_X11_unraft
  exact (Or.inr (Or.inl (by omega)))
theorem ws_X11_refused__X11_unraft (i k : Int) (q : w_X11_refused i k) : w_X11_unraft i k := by
  unfold w_X11_refused at q; unfold w_X11_unraft
  exact (Or.inl (by omega))
def k_X11_unraft (a1 : Int) (h : JH) (v : Option JV) (r' g : JH) : Prop := r' = jr0 ∧ jfr w_X11_unraft h g ∧ ∃ x : Int, v = some (.inl x) ∧ (True) ∧ ((P_X11_unraft a1 x h g) ∧ jFg (x < 0) h g)
set_option maxHeartbeats 4000000 in
theorem c_X11_unraft {E : JE} {l : Launch} (a1 : Int) (h : JH) : jMt E l 69 [.inr (.inr (.inl 0)), .inl a1] 229 jr0 h (k_X11_unraft a1 h) := by
  refine jMt0 (nL := 4) (ls := [.inr (.inr (.inl 0)), .inl a1, .inr (.inr (.inr ())), .inr (.inr (.inr ()))]) (by decide +kernel) (by decide +kernel) (by decide +kernel) rfl rfl ?_
  have f0 : jfr w_X11_unraft h h := jfr_rf _ _
  refine jGo_blk qX11_unraft_0 ?_
  refine st_cs (na := 2) (st := [.inl 6, .inl a1]) rfl rfl rfl (c_X11_within a1 6 h) rfl ?_
  rintro _ _ _ ⟨rfl, rfl, t1, rfl, ht1, zt1⟩ kt1
  replace kt1 : -2147483648 ≤ t1 ∧ t1 ≤ 2147483647 := kt1
  replace ht1 : 0 ≤ t1 ∧ t1 ≤ 1 := ht1
  replace zt1 : (t1 = 1 ∧ 0 ≤ a1 ∧ a1 < (6 : Int)) ∨ (t1 = 0 ∧ ¬ (0 ≤ a1 ∧ a1 < (6 : Int))) := zt1
  refine And.intro (fun c3 => ?_) (fun c3 => ?_)
  · replace c3 : ¬ t1 = 0 := c3
    show jGo E l 69 229 229 _ 13 [.inr (.inr (.inl 0)), .inl a1, .inr (.inr (.inr ())), .inr (.inr (.inr ()))] [] 229 jr0 h
    refine jGo_blk qX11_unraft_13 ?_
    refine st_gr jo_0 jr_0_5 ?_
    refine st_gr jo_29 jr_29_1 ?_
    refine st_ai jo_31 (show 0 ≤ a1 by omega) (show a1 < ((6 : Nat) : Int) by omega) (fun v4 ev4 b5 => ?_)
    replace ev4 : v4 = h 31 a1 := ev4
    replace b5 := (jba_31 a1 _).1 b5
    refine And.intro (fun c6 => ?_) (fun c6 => ?_)
    · replace c6 : ¬ v4 = (-1) := c6
      show jGo E l 69 229 229 _ 31 [.inr (.inr (.inl 0)), .inl a1, .inr (.inr (.inr ())), .inr (.inr (.inr ()))] [] 229 jr0 h
      refine jGo_blk qX11_unraft_31 ?_
      refine st_gr jo_0 jr_0_5 ?_
      refine st_gr jo_29 jr_29_1 ?_
      refine st_ai jo_31 (show 0 ≤ a1 by omega) (show a1 < ((6 : Nat) : Int) by omega) (fun v7 ev7 b8 => ?_)
      replace ev7 : v7 = h 31 a1 := ev7
      replace b8 := (jba_31 a1 _).1 b8
      refine And.intro (fun c9 => ?_) (fun c9 => ?_)
      · replace c9 : v7 = (-2) := c9
        show jGo E l 69 229 229 _ 50 [.inr (.inr (.inl 0)), .inl a1, .inr (.inr (.inr ())), .inr (.inr (.inr ()))] [] 229 jr0 h
        refine jGo_blk qX11_unraft_50 ?_
        show jGo E l 69 229 229 _ 51 [.inr (.inr (.inl 0)), .inl a1, .inr (.inr (.inr ())), .inr (.inr (.inr ()))] [.inl 0] 229 jr0 h
        refine jGo_blk qX11_unraft_51 ?_
        refine And.intro (fun c10 => ?_) (fun c10 => ?_)
        · replace c10 : (0 : Int) = 0 := c10
          show jGo E l 69 229 229 _ 62 [.inr (.inr (.inl 0)), .inl a1, .inl 0, .inr (.inr (.inr ()))] [] 229 jr0 h
          refine jGo_blk qX11_unraft_62 ?_
          refine st_gr jo_0 jr_0_11 ?_
          refine st_cv (na := 0) (st := [.inr (.inr (.inl 111))]) jo_111 rfl rfl rfl (c_X7_forget h) rfl ?_
          rintro _ _ g12 ⟨rfl, ft11, rfl, zt11⟩ kt11
          have fg12 : jfr w_X11_unraft h g12 := jfr_tr f0 ft11 ws_X7_forget__X11_unraft
          replace zt11 : g12 111 9 = 0 ∧ g12 111 10 = 0 ∧ g12 111 11 = 0 := zt11
          refine st_gr jo_0 jr_0_5 ?_
          refine st_gr jo_29 jr_29_2 ?_
          refine st_ai jo_32 (show 0 ≤ a1 by omega) (show a1 < ((6 : Nat) : Int) by omega) (fun v13 ev13 b14 => ?_)
          replace ev13 : v13 = g12 32 a1 := ev13
          replace b14 := (jba_32 a1 _).1 b14
          refine st_gr jo_0 jr_0_5 ?_
          refine st_gr jo_29 jr_29_1 ?_
          refine st_si jo_31 (show 0 ≤ a1 by omega) (show a1 < ((6 : Nat) : Int) by omega) (fun hx => (jba_31 _ _).2 (show -2 ≤ (-1) ∧ (-1) ≤ 15 by omega)) (fun g15 eg15 => ?_)
          replace eg15 : g15 = jup g12 31 a1 (-1) := eg15
          have fg15 : jfr w_X11_unraft h g15 := jfr_up fg12 eg15 (by unfold w_X11_unraft; omega)
          have e16 : g15 31 a1 = (-1) := jup_s eg15
          refine st_gr jo_0 jr_0_5 ?_
          refine st_gr jo_29 jr_29_2 ?_
          refine st_si jo_32 (show 0 ≤ a1 by omega) (show a1 < ((6 : Nat) : Int) by omega) (fun hx => (jba_32 _ _).2 hx) (fun g17 eg17 => ?_)
          replace eg17 : g17 = jup g15 32 a1 0 := eg17
          have fg17 : jfr w_X11_unraft h g17 := jfr_up fg15 eg17 (by unfold w_X11_unraft; omega)
          have e18 : g17 32 a1 = 0 := jup_s eg17
          refine st_gr jo_0 jr_0_5 ?_
          refine st_cv (na := 2) (st := [.inl v13, .inl 0, .inr (.inr (.inl 29))]) jo_29 rfl rfl rfl (c_X10_store_29 0 v13 g17 (by omega)) rfl ?_
          rintro _ _ g20 ⟨rfl, ft19, t19, rfl, ht19, zt19⟩ kt19
          replace kt19 : -2147483648 ≤ t19 ∧ t19 ≤ 2147483647 := kt19
          have fg20 : jfr w_X11_unraft h g20 := jfr_tr fg17 ft19 ws_X10_store_29__X11_unraft
          replace zt19 : t19 = jmin v13 (jw32 (1000000 - g17 30 (0 : Int))) ∧ g20 = jSto 30 (0 : Int) v13 g17 := zt19
          have y21 := zt19.1
          have y22 := zt19.2
          have e23 : g12 32 a1 = h 32 a1 := (ft11 32 a1 (by unfold w_X7_forget; omega))
          have rv24 : v4 = h 31 a1 := by omega
          subst rv24
          have rv25 : v7 = h 31 a1 := by omega
          subst rv25
          have rv26 : v13 = h 32 a1 := by omega
          subst rv26
          have hq27 : ∀ i k : Int, ¬ i = 1 → ¬ i = 111 → g17 i k = jup (jup h 31 a1 (-1)) 32 a1 0 i k := fun i k p1 p2 => ((congrFun (congrFun eg17 i) k).trans (jup_cc (by omega) (by omega) (by first | rfl | omega) ((congrFun (congrFun eg15 i) k).trans (jup_cc (by omega) (by omega) (by first | rfl | omega) (ft11 i k (by unfold w_X7_forget; omega))))))
          have hq28 : ∀ i k : Int, ¬ i = 1 → ¬ i = 111 → g20 i k = jSto 30 0 (h 32 a1) (jup (jup h 31 a1 (-1)) 32 a1 0) i k := fun i k p1 p2 => (congrFun (congrFun zt19.2 i) k).trans (jSto_c (by omega) (hq27 30 0 (by decide) (by decide)) (hq27 i k p1 p2))
          exact st_r0 (ls := []) ⟨rfl, rfl, fg20, (h 32 a1), rfl, trivial, (by refine ⟨by unfold P_X11_unraft; exact Or.inr (Or.inr (Or.inr ⟨by omega, by omega, hq28⟩)), Or.inl ?_⟩; exact ⟨(((ft19 111 9 (by unfold w_X10_store_29; omega)).trans ((jup_o eg17 (by first | exact fun q => absurd q.1 (by decide) | exact fun q => absurd q.2 (by decide) | omega)).trans (jup_o eg15 (by first | exact fun q => absurd q.1 (by decide) | exact fun q => absurd q.2 (by decide) | omega))))).trans zt11.1, (((ft19 111 10 (by unfold w_X10_store_29; omega)).trans ((jup_o eg17 (by first | exact fun q => absurd q.1 (by decide) | exact fun q => absurd q.2 (by decide) | omega)).trans (jup_o eg15 (by first | exact fun q => absurd q.1 (by decide) | exact fun q => absurd q.2 (by decide) | omega))))).trans zt11.2.1, (((ft19 111 11 (by unfold w_X10_store_29; omega)).trans ((jup_o eg17 (by first | exact fun q => absurd q.1 (by decide) | exact fun q => absurd q.2 (by decide) | omega)).trans (jup_o eg15 (by first | exact fun q => absurd q.1 (by decide) | exact fun q => absurd q.2 (by decide) | omega))))).trans zt11.2.2⟩)⟩
        · replace c10 : ¬ (0 : Int) = 0 := by first | exact c10 | exact Int.not_le.mp c10 | exact Int.not_lt.mp c10 | exact Decidable.not_not.mp c10
          exfalso; omega
      · replace c9 : ¬ v7 = (-2) := by first | exact c9 | exact Int.not_le.mp c9 | exact Int.not_lt.mp c9 | exact Decidable.not_not.mp c9
        show jGo E l 69 229 229 _ 51 [.inr (.inr (.inl 0)), .inl a1, .inr (.inr (.inr ())), .inr (.inr (.inr ()))] [.inl (-2)] 229 jr0 h
        refine jGo_blk qX11_unraft_51 ?_
        refine And.intro (fun c29 => ?_) (fun c29 => ?_)
        · replace c29 : (-2 : Int) = 0 := c29
          exfalso; omega
        · replace c29 : ¬ (-2 : Int) = 0 := by first | exact c29 | exact Int.not_le.mp c29 | exact Int.not_lt.mp c29 | exact Decidable.not_not.mp c29
          refine st_cv (na := 1) (st := [.inl (-2), .inr (.inr (.inl 0))]) jo_0 rfl rfl rfl (c_X11_refused (-2) h (by omega)) rfl ?_
          rintro _ _ g31 ⟨rfl, ft30, t30, rfl, ht30, zt30⟩ kt30
          replace kt30 : -2147483648 ≤ t30 ∧ t30 ≤ 2147483647 := kt30
          replace ht30 : -7 ≤ t30 ∧ t30 ≤ -1 := ht30
          have fg31 : jfr w_X11_unraft h g31 := jfr_tr f0 ft30 ws_X11_refused__X11_unraft
          replace zt30 : t30 = (-2 : Int) := zt30
          have rv32 : v4 = h 31 a1 := by omega
          subst rv32
          have rv33 : v7 = h 31 a1 := by omega
          subst rv33
          have hs34 : ∀ i k : Int, ¬ i = 1 → ¬ i = 111 → g31 i k = h i k := fun i k p1 p2 => (ft30 i k (by unfold w_X11_refused; omega))
          exact st_r0 (ls := []) ⟨rfl, rfl, fg31, t30, rfl, trivial, (by refine ⟨by unfold P_X11_unraft; by_cases zz : t30 = -4 <;> first | exact Or.inl ⟨by omega, hs34⟩ | exact Or.inr (Or.inl ⟨by omega, hs34⟩) | exact Or.inr (Or.inr (Or.inl ⟨by omega, hs34⟩)), Or.inr ⟨by omega, fun i k p1 => (ft30 i k (by first | exact p1 | (unfold w_X11_refused; omega)))⟩⟩)⟩
    · replace c6 : v4 = (-1) := by first | exact c6 | exact Int.not_le.mp c6 | exact Int.not_lt.mp c6 | exact Decidable.not_not.mp c6
      show jGo E l 69 229 229 _ 51 [.inr (.inr (.inl 0)), .inl a1, .inr (.inr (.inr ())), .inr (.inr (.inr ()))] [.inl (-3)] 229 jr0 h
      refine jGo_blk qX11_unraft_51 ?_
      refine And.intro (fun c35 => ?_) (fun c35 => ?_)
      · replace c35 : (-3 : Int) = 0 := c35
        exfalso; omega
      · replace c35 : ¬ (-3 : Int) = 0 := by first | exact c35 | exact Int.not_le.mp c35 | exact Int.not_lt.mp c35 | exact Decidable.not_not.mp c35
        refine st_cv (na := 1) (st := [.inl (-3), .inr (.inr (.inl 0))]) jo_0 rfl rfl rfl (c_X11_refused (-3) h (by omega)) rfl ?_
        rintro _ _ g37 ⟨rfl, ft36, t36, rfl, ht36, zt36⟩ kt36
        replace kt36 : -2147483648 ≤ t36 ∧ t36 ≤ 2147483647 := kt36
        replace ht36 : -7 ≤ t36 ∧ t36 ≤ -1 := ht36
        have fg37 : jfr w_X11_unraft h g37 := jfr_tr f0 ft36 ws_X11_refused__X11_unraft
        replace zt36 : t36 = (-3 : Int) := zt36
        have rv38 : v4 = h 31 a1 := by omega
        subst rv38
        have hs39 : ∀ i k : Int, ¬ i = 1 → ¬ i = 111 → g37 i k = h i k := fun i k p1 p2 => (ft36 i k (by unfold w_X11_refused; omega))
        exact st_r0 (ls := []) ⟨rfl, rfl, fg37, t36, rfl, trivial, (by refine ⟨by unfold P_X11_unraft; by_cases zz : t36 = -4 <;> first | exact Or.inl ⟨by omega, hs39⟩ | exact Or.inr (Or.inl ⟨by omega, hs39⟩) | exact Or.inr (Or.inr (Or.inl ⟨by omega, hs39⟩)), Or.inr ⟨by omega, fun i k p1 => (ft36 i k (by first | exact p1 | (unfold w_X11_refused; omega)))⟩⟩)⟩
  · replace c3 : t1 = 0 := by first | exact c3 | exact Int.not_le.mp c3 | exact Int.not_lt.mp c3 | exact Decidable.not_not.mp c3
    show jGo E l 69 229 229 _ 51 [.inr (.inr (.inl 0)), .inl a1, .inr (.inr (.inr ())), .inr (.inr (.inr ()))] [.inl (-1)] 229 jr0 h
    refine jGo_blk qX11_unraft_51 ?_
    refine And.intro (fun c40 => ?_) (fun c40 => ?_)
    · replace c40 : (-1 : Int) = 0 := c40
      exfalso; omega
    · replace c40 : ¬ (-1 : Int) = 0 := by first | exact c40 | exact Int.not_le.mp c40 | exact Int.not_lt.mp c40 | exact Decidable.not_not.mp c40
      refine st_cv (na := 1) (st := [.inl (-1), .inr (.inr (.inl 0))]) jo_0 rfl rfl rfl (c_X11_refused (-1) h (by omega)) rfl ?_
      rintro _ _ g42 ⟨rfl, ft41, t41, rfl, ht41, zt41⟩ kt41
      replace kt41 : -2147483648 ≤ t41 ∧ t41 ≤ 2147483647 := kt41
      replace ht41 : -7 ≤ t41 ∧ t41 ≤ -1 := ht41
      have fg42 : jfr w_X11_unraft h g42 := jfr_tr f0 ft41 ws_X11_refused__X11_unraft
      replace zt41 : t41 = (-1 : Int) := zt41
      have hs43 : ∀ i k : Int, ¬ i = 1 → ¬ i = 111 → g42 i k = h i k := fun i k p1 p2 => (ft41 i k (by unfold w_X11_refused; omega))
      exact st_r0 (ls := []) ⟨rfl, rfl, fg42, t41, rfl, trivial, (by refine ⟨by unfold P_X11_unraft; by_cases zz : t41 = -4 <;> first | exact Or.inl ⟨by omega, hs43⟩ | exact Or.inr (Or.inl ⟨by omega, hs43⟩) | exact Or.inr (Or.inr (Or.inl ⟨by omega, hs43⟩)), Or.inr ⟨by omega, fun i k p1 => (ft41 i k (by first | exact p1 | (unfold w_X11_refused; omega)))⟩⟩)⟩
