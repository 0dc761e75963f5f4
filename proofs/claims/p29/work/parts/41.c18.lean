def w_X12_tree (i k : Int) : Prop := (205 ≤ i ∧ i ≤ 209) ∨ (i = 219) ∨ (i = 176 ∧ k = 34)
theorem ws_X12_refuse__X12_tree (i k : Int) (q : w_X12_refuse i k) : w_X12_tree i k := by
  unfold w_X12_refuse at q; unfold w_X12_tree
  exact (Or.inr (Or.inl (by omega)))
def k_X12_tree (a1 : Int) (a2 : Int) (a3 : Int) (h : JH) (v : Option JV) (r' g : JH) : Prop := r' = jr0 ∧ jfr w_X12_tree h g ∧ ∃ x : Int, v = some (.inl x) ∧ (-7 ≤ x ∧ x ≤ 39) ∧ (P_X12_tree a1 a2 a3 x h g)
set_option maxHeartbeats 4000000 in
theorem c_X12_tree {E : JE} {l : Launch} (a1 : Int) (a2 : Int) (a3 : Int) (h : JH) : jMt E l 102 [.inr (.inr (.inl 176)), .inl a1, .inl a2, .inl a3] 229 jr0 h (k_X12_tree a1 a2 a3 h) := by
  refine jMt0 (nL := 4) (ls := [.inr (.inr (.inl 176)), .inl a1, .inl a2, .inl a3]) (by decide +kernel) (by decide +kernel) (by decide +kernel) rfl rfl ?_
  have f0 : jfr w_X12_tree h h := jfr_rf _ _
  refine jGo_blk qX12_tree_0 ?_
  refine st_cs (na := 3) (st := [.inl 2, .inl 0, .inl a1]) rfl rfl rfl (c_X12_in a1 0 2 h) rfl ?_
  rintro _ _ _ ⟨rfl, rfl, t1, rfl, ht1, zt1⟩ kt1
  replace kt1 : -2147483648 ≤ t1 ∧ t1 ≤ 2147483647 := kt1
  replace ht1 : 0 ≤ t1 ∧ t1 ≤ 1 := ht1
  replace zt1 : (t1 = 1 ∧ (0 : Int) ≤ a1 ∧ a1 ≤ (2 : Int)) ∨ (t1 = 0 ∧ ¬ ((0 : Int) ≤ a1 ∧ a1 ≤ (2 : Int))) := zt1
  refine And.intro (fun c3 => ?_) (fun c3 => ?_)
  · replace c3 : ¬ t1 = 0 := c3
    show jGo E l 102 229 229 _ 15 [.inr (.inr (.inl 176)), .inl a1, .inl a2, .inl a3] [] 229 jr0 h
    refine jGo_blk qX12_tree_15 ?_
    refine And.intro (fun c4 => ?_) (fun c4 => ?_)
    · replace c4 : a2 < (-9) := c4
      show jGo E l 102 229 229 _ 26 [.inr (.inr (.inl 176)), .inl a1, .inl a2, .inl a3] [] 229 jr0 h
      refine jGo_blk qX12_tree_26 ?_
      refine st_cv (na := 1) (st := [.inl (-4), .inr (.inr (.inl 176))]) jo_176 rfl rfl rfl (c_X12_refuse (-4) h (by omega)) rfl ?_
      rintro _ _ g6 ⟨rfl, ft5, t5, rfl, ht5, zt5⟩ kt5
      replace kt5 : -2147483648 ≤ t5 ∧ t5 ≤ 2147483647 := kt5
      replace ht5 : -7 ≤ t5 ∧ t5 ≤ -1 := ht5
      have fg6 : jfr w_X12_tree h g6 := jfr_tr f0 ft5 ws_X12_refuse__X12_tree
      replace zt5 : t5 = (-4 : Int) := zt5
      have e7 : g6 176 34 = h 176 34 := ft5 176 34 (by unfold w_X12_refuse; omega)
      have hs8 : ∀ i k : Int, ¬ i = 219 → g6 i k = h i k := fun i k p1 => (ft5 i k (by first | exact p1 | (unfold w_X12_refuse; omega)))
      exact st_r0 (ls := []) ⟨rfl, rfl, fg6, t5, rfl, (by omega), (by unfold P_X12_tree; by_cases zz : t5 = -4 <;> first | exact Or.inl ⟨by omega, hs8⟩ | exact Or.inr (Or.inl ⟨by omega, hs8⟩) | exact Or.inr (Or.inr (Or.inl ⟨by omega, hs8⟩)))⟩
    · replace c4 : (-9) ≤ a2 := by first | exact c4 | exact Int.not_le.mp c4 | exact Int.not_lt.mp c4 | exact Decidable.not_not.mp c4
      refine And.intro (fun c9 => ?_) (fun c9 => ?_)
      · replace c9 : 1 ≤ a3 := c9
        show jGo E l 102 229 229 _ 33 [.inr (.inr (.inl 176)), .inl a1, .inl a2, .inl a3] [] 229 jr0 h
        refine jGo_blk qX12_tree_33 ?_
        refine And.intro (fun c10 => ?_) (fun c10 => ?_)
        · replace c10 : 9 < a2 := c10
          show jGo E l 102 229 229 _ 55 [.inr (.inr (.inl 176)), .inl a1, .inl a2, .inl a3] [] 229 jr0 h
          refine jGo_blk qX12_tree_55 ?_
          refine st_cv (na := 1) (st := [.inl (-6), .inr (.inr (.inl 176))]) jo_176 rfl rfl rfl (c_X12_refuse (-6) h (by omega)) rfl ?_
          rintro _ _ g12 ⟨rfl, ft11, t11, rfl, ht11, zt11⟩ kt11
          replace kt11 : -2147483648 ≤ t11 ∧ t11 ≤ 2147483647 := kt11
          replace ht11 : -7 ≤ t11 ∧ t11 ≤ -1 := ht11
          have fg12 : jfr w_X12_tree h g12 := jfr_tr f0 ft11 ws_X12_refuse__X12_tree
          replace zt11 : t11 = (-6 : Int) := zt11
          have e13 : g12 176 34 = h 176 34 := ft11 176 34 (by unfold w_X12_refuse; omega)
          have hs14 : ∀ i k : Int, ¬ i = 219 → g12 i k = h i k := fun i k p1 => (ft11 i k (by first | exact p1 | (unfold w_X12_refuse; omega)))
          exact st_r0 (ls := []) ⟨rfl, rfl, fg12, t11, rfl, (by omega), (by unfold P_X12_tree; by_cases zz : t11 = -4 <;> first | exact Or.inl ⟨by omega, hs14⟩ | exact Or.inr (Or.inl ⟨by omega, hs14⟩) | exact Or.inr (Or.inr (Or.inl ⟨by omega, hs14⟩)))⟩
        · replace c10 : a2 ≤ 9 := by first | exact c10 | exact Int.not_le.mp c10 | exact Int.not_lt.mp c10 | exact Decidable.not_not.mp c10
          refine And.intro (fun c15 => ?_) (fun c15 => ?_)
          · replace c15 : 500 < a3 := c15
            show jGo E l 102 229 229 _ 55 [.inr (.inr (.inl 176)), .inl a1, .inl a2, .inl a3] [] 229 jr0 h
            refine jGo_blk qX12_tree_55 ?_
            refine st_cv (na := 1) (st := [.inl (-6), .inr (.inr (.inl 176))]) jo_176 rfl rfl rfl (c_X12_refuse (-6) h (by omega)) rfl ?_
            rintro _ _ g17 ⟨rfl, ft16, t16, rfl, ht16, zt16⟩ kt16
            replace kt16 : -2147483648 ≤ t16 ∧ t16 ≤ 2147483647 := kt16
            replace ht16 : -7 ≤ t16 ∧ t16 ≤ -1 := ht16
            have fg17 : jfr w_X12_tree h g17 := jfr_tr f0 ft16 ws_X12_refuse__X12_tree
            replace zt16 : t16 = (-6 : Int) := zt16
            have e18 : g17 176 34 = h 176 34 := ft16 176 34 (by unfold w_X12_refuse; omega)
            have hs19 : ∀ i k : Int, ¬ i = 219 → g17 i k = h i k := fun i k p1 => (ft16 i k (by first | exact p1 | (unfold w_X12_refuse; omega)))
            exact st_r0 (ls := []) ⟨rfl, rfl, fg17, t16, rfl, (by omega), (by unfold P_X12_tree; by_cases zz : t16 = -4 <;> first | exact Or.inl ⟨by omega, hs19⟩ | exact Or.inr (Or.inl ⟨by omega, hs19⟩) | exact Or.inr (Or.inr (Or.inl ⟨by omega, hs19⟩)))⟩
          · replace c15 : a3 ≤ 500 := by first | exact c15 | exact Int.not_le.mp c15 | exact Int.not_lt.mp c15 | exact Decidable.not_not.mp c15
            refine st_gi jo_176 (fun v20 ev20 b21 => ?_)
            replace ev20 : v20 = h 176 34 := ev20
            replace b21 := (jbf_12_34 jo_176 _).1 b21
            refine And.intro (fun c22 => ?_) (fun c22 => ?_)
            · replace c22 : ¬ v20 = 40 := c22
              show jGo E l 102 229 229 _ 62 [.inr (.inr (.inl 176)), .inl a1, .inl a2, .inl a3] [] 229 jr0 h
              refine jGo_blk qX12_tree_62 ?_
              refine st_gr jo_176 jr_176_35 ?_
              refine st_gi jo_176 (fun v23 ev23 b24 => ?_)
              replace ev23 : v23 = h 176 34 := ev23
              replace b24 := (jbf_12_34 jo_176 _).1 b24
              refine st_si jo_205 (show 0 ≤ v23 by omega) (show v23 < ((40 : Nat) : Int) by omega) (fun hx => (jba_205 _ _).2 (show 0 ≤ a1 ∧ a1 ≤ 2 by omega)) (fun g25 eg25 => ?_)
              replace eg25 : g25 = jup h 205 v23 a1 := eg25
              have fg25 : jfr w_X12_tree h g25 := jfr_up f0 eg25 (by unfold w_X12_tree; omega)
              have e26 : g25 205 v23 = a1 := jup_s eg25
              refine st_gr jo_176 jr_176_36 ?_
              refine st_gi jo_176 (fun v27 ev27 b28 => ?_)
              replace ev27 : v27 = g25 176 34 := ev27
              replace b28 := (jbf_12_34 jo_176 _).1 b28
              have e29 : g25 176 34 = h 176 34 := jup_o eg25 (by first | exact fun q => absurd q.1 (by decide) | exact fun q => absurd q.2 (by decide) | omega)
              refine st_si jo_206 (show 0 ≤ v27 by omega) (show v27 < ((40 : Nat) : Int) by omega) (fun hx => (jba_206 _ _).2 (show -9 ≤ a2 ∧ a2 ≤ 9 by omega)) (fun g30 eg30 => ?_)
              replace eg30 : g30 = jup g25 206 v27 a2 := eg30
              have fg30 : jfr w_X12_tree h g30 := jfr_up fg25 eg30 (by unfold w_X12_tree; omega)
              have e31 : g30 206 v27 = a2 := jup_s eg30
              refine st_gr jo_176 jr_176_37 ?_
              refine st_gi jo_176 (fun v32 ev32 b33 => ?_)
              replace ev32 : v32 = g30 176 34 := ev32
              replace b33 := (jbf_12_34 jo_176 _).1 b33
              have e34 : g30 176 34 = g25 176 34 := jup_o eg30 (by first | exact fun q => absurd q.1 (by decide) | exact fun q => absurd q.2 (by decide) | omega)
              refine st_si jo_207 (show 0 ≤ v32 by omega) (show v32 < ((40 : Nat) : Int) by omega) (fun hx => (jba_207 _ _).2 hx) (fun g35 eg35 => ?_)
              replace eg35 : g35 = jup g30 207 v32 a3 := eg35
              have fg35 : jfr w_X12_tree h g35 := jfr_up fg30 eg35 (by unfold w_X12_tree; omega)
              have e36 : g35 207 v32 = a3 := jup_s eg35
              refine st_gr jo_176 jr_176_38 ?_
              refine st_gi jo_176 (fun v37 ev37 b38 => ?_)
              replace ev37 : v37 = g35 176 34 := ev37
              replace b38 := (jbf_12_34 jo_176 _).1 b38
              have e39 : g35 176 34 = g30 176 34 := jup_o eg35 (by first | exact fun q => absurd q.1 (by decide) | exact fun q => absurd q.2 (by decide) | omega)
              refine st_si jo_208 (show 0 ≤ v37 by omega) (show v37 < ((40 : Nat) : Int) by omega) (fun hx => (jba_208 _ _).2 (show -1 ≤ (-1) ∧ (-1) ≤ 15 by omega)) (fun g40 eg40 => ?_)
              replace eg40 : g40 = jup g35 208 v37 (-1) := eg40
              have fg40 : jfr w_X12_tree h g40 := jfr_up fg35 eg40 (by unfold w_X12_tree; omega)
              have e41 : g40 208 v37 = (-1) := jup_s eg40
              refine st_gr jo_176 jr_176_39 ?_
              refine st_gi jo_176 (fun v42 ev42 b43 => ?_)
              replace ev42 : v42 = g40 176 34 := ev42
              replace b43 := (jbf_12_34 jo_176 _).1 b43
              have e44 : g40 176 34 = g35 176 34 := jup_o eg40 (by first | exact fun q => absurd q.1 (by decide) | exact fun q => absurd q.2 (by decide) | omega)
              refine st_si jo_209 (show 0 ≤ v42 by omega) (show v42 < ((40 : Nat) : Int) by omega) (fun hx => (jba_209 _ _).2 (show -1 ≤ (-1) ∧ (-1) ≤ 5 by omega)) (fun g45 eg45 => ?_)
              replace eg45 : g45 = jup g40 209 v42 (-1) := eg45
              have fg45 : jfr w_X12_tree h g45 := jfr_up fg40 eg45 (by unfold w_X12_tree; omega)
              have e46 : g45 209 v42 = (-1) := jup_s eg45
              refine st_gi jo_176 (fun v47 ev47 b48 => ?_)
              replace ev47 : v47 = g45 176 34 := ev47
              replace b48 := (jbf_12_34 jo_176 _).1 b48
              have e49 : g45 176 34 = g40 176 34 := jup_o eg45 (by first | exact fun q => absurd q.1 (by decide) | exact fun q => absurd q.2 (by decide) | omega)
              have e50 : jw32 (v47 + 1) = v47 + 1 := jzj32 (by omega)
              refine st_pi jo_176 (fun hx => (jbf_12_34 jo_176 _).2 (show 0 ≤ jw32 (v47 + 1) ∧ jw32 (v47 + 1) ≤ 40 by omega)) (fun g51 eg51 => ?_)
              replace eg51 : g51 = jup g45 176 34 (jw32 (v47 + 1)) := eg51
              have fg51 : jfr w_X12_tree h g51 := jfr_up fg45 eg51 (by unfold w_X12_tree; omega)
              have e52 : g51 176 34 = jw32 (v47 + 1) := jup_s eg51
              refine st_gi jo_176 (fun v53 ev53 b54 => ?_)
              replace ev53 : v53 = g51 176 34 := ev53
              replace b54 := (jbf_12_34 jo_176 _).1 b54
              have e55 : jw32 (v53 - 1) = v53 - 1 := jzj32 (by omega)
              have e56 : g25 176 34 = h 176 34 := (jup_o eg25 (by first | exact fun q => absurd q.1 (by decide) | exact fun q => absurd q.2 (by decide) | omega))
              have e57 : g30 176 34 = h 176 34 := ((jup_o eg30 (by first | exact fun q => absurd q.1 (by decide) | exact fun q => absurd q.2 (by decide) | omega)).trans (jup_o eg25 (by first | exact fun q => absurd q.1 (by decide) | exact fun q => absurd q.2 (by decide) | omega)))
              have e58 : g35 176 34 = h 176 34 := ((jup_o eg35 (by first | exact fun q => absurd q.1 (by decide) | exact fun q => absurd q.2 (by decide) | omega)).trans ((jup_o eg30 (by first | exact fun q => absurd q.1 (by decide) | exact fun q => absurd q.2 (by decide) | omega)).trans (jup_o eg25 (by first | exact fun q => absurd q.1 (by decide) | exact fun q => absurd q.2 (by decide) | omega))))
              have e59 : g40 176 34 = h 176 34 := ((jup_o eg40 (by first | exact fun q => absurd q.1 (by decide) | exact fun q => absurd q.2 (by decide) | omega)).trans ((jup_o eg35 (by first | exact fun q => absurd q.1 (by decide) | exact fun q => absurd q.2 (by decide) | omega)).trans ((jup_o eg30 (by first | exact fun q => absurd q.1 (by decide) | exact fun q => absurd q.2 (by decide) | omega)).trans (jup_o eg25 (by first | exact fun q => absurd q.1 (by decide) | exact fun q => absurd q.2 (by decide) | omega)))))
              have e60 : g45 176 34 = h 176 34 := ((jup_o eg45 (by first | exact fun q => absurd q.1 (by decide) | exact fun q => absurd q.2 (by decide) | omega)).trans ((jup_o eg40 (by first | exact fun q => absurd q.1 (by decide) | exact fun q => absurd q.2 (by decide) | omega)).trans ((jup_o eg35 (by first | exact fun q => absurd q.1 (by decide) | exact fun q => absurd q.2 (by decide) | omega)).trans ((jup_o eg30 (by first | exact fun q => absurd q.1 (by decide) | exact fun q => absurd q.2 (by decide) | omega)).trans (jup_o eg25 (by first | exact fun q => absurd q.1 (by decide) | exact fun q => absurd q.2 (by decide) | omega))))))
              have rv61 : v20 = h 176 34 := by omega
              subst rv61
              have rv62 : v23 = h 176 34 := by omega
              subst rv62
              have rv63 : v27 = h 176 34 := by omega
              subst rv63
              have rv64 : v32 = h 176 34 := by omega
              subst rv64
              have rv65 : v37 = h 176 34 := by omega
              subst rv65
              have rv66 : v42 = h 176 34 := by omega
              subst rv66
              have rv67 : v47 = h 176 34 := by omega
              subst rv67
              have hq68 : ∀ i k : Int, ¬ i = 219 → g51 i k = (jup (jup (jup (jup (jup (jup h 205 (h 176 34) a1) 206 (h 176 34) a2) 207 (h 176 34) a3) 208 (h 176 34) (-1)) 209 (h 176 34) (-1)) 176 34 (h 176 34 + 1)) i k := fun i k p1 => ((congrFun (congrFun eg51 i) k).trans (jup_cc (by omega) (by omega) (by first | rfl | omega | exact congrArg jw32 (by omega)) ((congrFun (congrFun eg45 i) k).trans (jup_cc (by omega) (by omega) (by first | rfl | omega | exact congrArg jw32 (by omega)) ((congrFun (congrFun eg40 i) k).trans (jup_cc (by omega) (by omega) (by first | rfl | omega | exact congrArg jw32 (by omega)) ((congrFun (congrFun eg35 i) k).trans (jup_cc (by omega) (by omega) (by first | rfl | omega | exact congrArg jw32 (by omega)) ((congrFun (congrFun eg30 i) k).trans (jup_cc (by omega) (by omega) (by first | rfl | omega | exact congrArg jw32 (by omega)) ((congrFun (congrFun eg25 i) k).trans (jup_cc (by omega) (by omega) (by first | rfl | omega | exact congrArg jw32 (by omega)) rfl))))))))))))
              exact st_r0 (ls := []) ⟨rfl, rfl, fg51, jw32 (v53 - 1), rfl, (by omega), (by unfold P_X12_tree; exact Or.inr (Or.inr (Or.inr ⟨by omega, by omega, hq68⟩)))⟩
            · replace c22 : v20 = 40 := by first | exact c22 | exact Int.not_le.mp c22 | exact Int.not_lt.mp c22 | exact Decidable.not_not.mp c22
              show jGo E l 102 229 229 _ 55 [.inr (.inr (.inl 176)), .inl a1, .inl a2, .inl a3] [] 229 jr0 h
              refine jGo_blk qX12_tree_55 ?_
              refine st_cv (na := 1) (st := [.inl (-6), .inr (.inr (.inl 176))]) jo_176 rfl rfl rfl (c_X12_refuse (-6) h (by omega)) rfl ?_
              rintro _ _ g70 ⟨rfl, ft69, t69, rfl, ht69, zt69⟩ kt69
              replace kt69 : -2147483648 ≤ t69 ∧ t69 ≤ 2147483647 := kt69
              replace ht69 : -7 ≤ t69 ∧ t69 ≤ -1 := ht69
              have fg70 : jfr w_X12_tree h g70 := jfr_tr f0 ft69 ws_X12_refuse__X12_tree
              replace zt69 : t69 = (-6 : Int) := zt69
              have e71 : g70 176 34 = h 176 34 := ft69 176 34 (by unfold w_X12_refuse; omega)
              have rv72 : v20 = h 176 34 := by omega
              subst rv72
              have hs73 : ∀ i k : Int, ¬ i = 219 → g70 i k = h i k := fun i k p1 => (ft69 i k (by first | exact p1 | (unfold w_X12_refuse; omega)))
              exact st_r0 (ls := []) ⟨rfl, rfl, fg70, t69, rfl, (by omega), (by unfold P_X12_tree; by_cases zz : t69 = -4 <;> first | exact Or.inl ⟨by omega, hs73⟩ | exact Or.inr (Or.inl ⟨by omega, hs73⟩) | exact Or.inr (Or.inr (Or.inl ⟨by omega, hs73⟩)))⟩
      · replace c9 : a3 < 1 := by first | exact c9 | exact Int.not_le.mp c9 | exact Int.not_lt.mp c9 | exact Decidable.not_not.mp c9
        show jGo E l 102 229 229 _ 26 [.inr (.inr (.inl 176)), .inl a1, .inl a2, .inl a3] [] 229 jr0 h
        refine jGo_blk qX12_tree_26 ?_
        refine st_cv (na := 1) (st := [.inl (-4), .inr (.inr (.inl 176))]) jo_176 rfl rfl rfl (c_X12_refuse (-4) h (by omega)) rfl ?_
        rintro _ _ g75 ⟨rfl, ft74, t74, rfl, ht74, zt74⟩ kt74
        replace kt74 : -2147483648 ≤ t74 ∧ t74 ≤ 2147483647 := kt74
        replace ht74 : -7 ≤ t74 ∧ t74 ≤ -1 := ht74
        have fg75 : jfr w_X12_tree h g75 := jfr_tr f0 ft74 ws_X12_refuse__X12_tree
        replace zt74 : t74 = (-4 : Int) := zt74
        have e76 : g75 176 34 = h 176 34 := ft74 176 34 (by unfold w_X12_refuse; omega)
        have hs77 : ∀ i k : Int, ¬ i = 219 → g75 i k = h i k := fun i k p1 => (ft74 i k (by first | exact p1 | (unfold w_X12_refuse; omega)))
        exact st_r0 (ls := []) ⟨rfl, rfl, fg75, t74, rfl, (by omega), (by unfold P_X12_tree; by_cases zz : t74 = -4 <;> first | exact Or.inl ⟨by omega, hs77⟩ | exact Or.inr (Or.inl ⟨by omega, hs77⟩) | exact Or.inr (Or.inr (Or.inl ⟨by omega, hs77⟩)))⟩
  · replace c3 : t1 = 0 := by first | exact c3 | exact Int.not_le.mp c3 | exact Int.not_lt.mp c3 | exact Decidable.not_not.mp c3
    refine st_cv (na := 1) (st := [.inl (-1), .inr (.inr (.inl 176))]) jo_176 rfl rfl rfl (c_X12_refuse (-1) h (by omega)) rfl ?_
    rintro _ _ g79 ⟨rfl, ft78, t78, rfl, ht78, zt78⟩ kt78
    replace kt78 : -2147483648 ≤ t78 ∧ t78 ≤ 2147483647 := kt78
    replace ht78 : -7 ≤ t78 ∧ t78 ≤ -1 := ht78
    have fg79 : jfr w_X12_tree h g79 := jfr_tr f0 ft78 ws_X12_refuse__X12_tree
    replace zt78 : t78 = (-1 : Int) := zt78
    have e80 : g79 176 34 = h 176 34 := ft78 176 34 (by unfold w_X12_refuse; omega)
    have hs81 : ∀ i k : Int, ¬ i = 219 → g79 i k = h i k := fun i k p1 => (ft78 i k (by first | exact p1 | (unfold w_X12_refuse; omega)))
    exact st_r0 (ls := []) ⟨rfl, rfl, fg79, t78, rfl, (by omega), (by unfold P_X12_tree; by_cases zz : t78 = -4 <;> first | exact Or.inl ⟨by omega, hs81⟩ | exact Or.inr (Or.inl ⟨by omega, hs81⟩) | exact Or.inr (Or.inr (Or.inl ⟨by omega, hs81⟩)))⟩

def w_X8_add (i k : Int) : Prop := (92 ≤ i ∧ i ≤ 96)
def k_X8_add (a1 : Int) (a2 : Int) (a3 : Int) (a4 : Int) (a5 : Int) (h : JH) (v : Option JV) (r' g : JH) : Prop := r' = jr0 ∧ jfr w_X8_add h g ∧ ∃ x : Int, v = some (.inl x) ∧ (0 ≤ x ∧ x ≤ 5) ∧ (x = h 92 a1 ∧ jSx g (jup (jup (jup (jup (jup h 93 (a1 * 6 + h 92 a1) a2) 94 (a1 * 6 + h 92 a1) a3) 95 (a1 * 6 + h 92 a1) a4) 96 (a1 * 6 + h 92 a1) a5) 92 a1 (h 92 a1 + 1)))
set_option maxHeartbeats 4000000 in
theorem c_X8_add {E : JE} {l : Launch} (a1 : Int) (a2 : Int) (a3 : Int) (a4 : Int) (a5 : Int) (h : JH) (p1 : 0 ≤ a1 ∧ a1 ≤ 2) (p2 : 0 ≤ a2 ∧ a2 ≤ 2) (p3 : -9 ≤ a3 ∧ a3 ≤ 9) (p4 : 0 ≤ a4 ∧ a4 ≤ 9) (p5 : 1 ≤ a5 ∧ a5 ≤ 500) (q0 : h 92 a1 ≤ 5) : jMt E l 103 [.inr (.inr (.inl 91)), .inl a1, .inl a2, .inl a3, .inl a4, .inl a5] 229 jr0 h (k_X8_add a1 a2 a3 a4 a5 h) := by
  refine jMt0 (nL := 7) (ls := [.inr (.inr (.inl 91)), .inl a1, .inl a2, .inl a3, .inl a4, .inl a5, .inr (.inr (.inr ()))]) (by decide +kernel) (by decide +kernel) (by decide +kernel) rfl rfl ?_
  have f0 : jfr w_X8_add h h := jfr_rf _ _
  refine jGo_blk qX8_add_0 ?_
  have e1 : jw32 (a1 * 6) = a1 * 6 := jzj32 (by omega)
  refine st_gr jo_91 jr_91_0 ?_
  refine st_ai jo_92 (show 0 ≤ a1 by omega) (show a1 < ((3 : Nat) : Int) by omega) (fun v2 ev2 b3 => ?_)
  replace ev2 : v2 = h 92 a1 := ev2
  replace b3 := (jba_92 a1 _).1 b3
  have e4 : jw32 ((jw32 (a1 * 6)) + v2) = (jw32 (a1 * 6)) + v2 := jzj32 (by omega)
  refine st_gr jo_91 jr_91_1 ?_
  refine st_si jo_93 (show 0 ≤ jw32 ((jw32 (a1 * 6)) + v2) by omega) (show jw32 ((jw32 (a1 * 6)) + v2) < ((18 : Nat) : Int) by omega) (fun hx => (jba_93 _ _).2 (show 0 ≤ a2 ∧ a2 ≤ 2 by omega)) (fun g5 eg5 => ?_)
  replace eg5 : g5 = jup h 93 (jw32 ((jw32 (a1 * 6)) + v2)) a2 := eg5
  have fg5 : jfr w_X8_add h g5 := jfr_up f0 eg5 (by unfold w_X8_add; omega)
  have e6 : g5 93 (jw32 ((jw32 (a1 * 6)) + v2)) = a2 := jup_s eg5
  refine st_gr jo_91 jr_91_2 ?_
  refine st_si jo_94 (show 0 ≤ jw32 ((jw32 (a1 * 6)) + v2) by omega) (show jw32 ((jw32 (a1 * 6)) + v2) < ((18 : Nat) : Int) by omega) (fun hx => (jba_94 _ _).2 (show -9 ≤ a3 ∧ a3 ≤ 9 by omega)) (fun g7 eg7 => ?_)
  replace eg7 : g7 = jup g5 94 (jw32 ((jw32 (a1 * 6)) + v2)) a3 := eg7
  have fg7 : jfr w_X8_add h g7 := jfr_up fg5 eg7 (by unfold w_X8_add; omega)
  have e8 : g7 94 (jw32 ((jw32 (a1 * 6)) + v2)) = a3 := jup_s eg7
  refine st_gr jo_91 jr_91_3 ?_
  refine st_si jo_95 (show 0 ≤ jw32 ((jw32 (a1 * 6)) + v2) by omega) (show jw32 ((jw32 (a1 * 6)) + v2) < ((18 : Nat) : Int) by omega) (fun hx => (jba_95 _ _).2 (show 0 ≤ a4 ∧ a4 ≤ 9 by omega)) (fun g9 eg9 => ?_)
  replace eg9 : g9 = jup g7 95 (jw32 ((jw32 (a1 * 6)) + v2)) a4 := eg9
  have fg9 : jfr w_X8_add h g9 := jfr_up fg7 eg9 (by unfold w_X8_add; omega)
  have e10 : g9 95 (jw32 ((jw32 (a1 * 6)) + v2)) = a4 := jup_s eg9
  refine st_gr jo_91 jr_91_4 ?_
  refine st_si jo_96 (show 0 ≤ jw32 ((jw32 (a1 * 6)) + v2) by omega) (show jw32 ((jw32 (a1 * 6)) + v2) < ((18 : Nat) : Int) by omega) (fun hx => (jba_96 _ _).2 (show 0 ≤ a5 ∧ a5 ≤ 500 by omega)) (fun g11 eg11 => ?_)
  replace eg11 : g11 = jup g9 96 (jw32 ((jw32 (a1 * 6)) + v2)) a5 := eg11
  have fg11 : jfr w_X8_add h g11 := jfr_up fg9 eg11 (by unfold w_X8_add; omega)
  have e12 : g11 96 (jw32 ((jw32 (a1 * 6)) + v2)) = a5 := jup_s eg11
  refine st_gr jo_91 jr_91_0 ?_
  refine st_ai jo_92 (show 0 ≤ a1 by omega) (show a1 < ((3 : Nat) : Int) by omega) (fun v13 ev13 b14 => ?_)
  replace ev13 : v13 = g11 92 a1 := ev13
  replace b14 := (jba_92 a1 _).1 b14
  have e15 : g11 92 a1 = g9 92 a1 := jup_o eg11 (by first | exact fun q => absurd q.1 (by decide) | exact fun q => absurd q.2 (by decide) | omega)
  have e16 : g9 92 a1 = g7 92 a1 := jup_o eg9 (by first | exact fun q => absurd q.1 (by decide) | exact fun q => absurd q.2 (by decide) | omega)
  have e17 : g7 92 a1 = g5 92 a1 := jup_o eg7 (by first | exact fun q => absurd q.1 (by decide) | exact fun q => absurd q.2 (by decide) | omega)
  have e18 : g5 92 a1 = h 92 a1 := jup_o eg5 (by first | exact fun q => absurd q.1 (by decide) | exact fun q => absurd q.2 (by decide) | omega)
  have e19 : jw32 (v13 + 1) = v13 + 1 := jzj32 (by omega)
  refine st_si jo_92 (show 0 ≤ a1 by omega) (show a1 < ((3 : Nat) : Int) by omega) (fun hx => (jba_92 _ _).2 (show 0 ≤ jw32 (v13 + 1) ∧ jw32 (v13 + 1) ≤ 6 by omega)) (fun g20 eg20 => ?_)
  replace eg20 : g20 = jup g11 92 a1 (jw32 (v13 + 1)) := eg20
  have fg20 : jfr w_X8_add h g20 := jfr_up fg11 eg20 (by unfold w_X8_add; omega)
  have e21 : g20 92 a1 = jw32 (v13 + 1) := jup_s eg20
  refine st_gr jo_91 jr_91_0 ?_
  refine st_ai jo_92 (show 0 ≤ a1 by omega) (show a1 < ((3 : Nat) : Int) by omega) (fun v22 ev22 b23 => ?_)
  replace ev22 : v22 = g20 92 a1 := ev22
  replace b23 := (jba_92 a1 _).1 b23
  have e24 : jw32 (v22 - 1) = v22 - 1 := jzj32 (by omega)
  have e25 : g11 92 a1 = h 92 a1 := ((jup_o eg11 (by first | exact fun q => absurd q.1 (by decide) | exact fun q => absurd q.2 (by decide) | omega)).trans ((jup_o eg9 (by first | exact fun q => absurd q.1 (by decide) | exact fun q => absurd q.2 (by decide) | omega)).trans ((jup_o eg7 (by first | exact fun q => absurd q.1 (by decide) | exact fun q => absurd q.2 (by decide) | omega)).trans (jup_o eg5 (by first | exact fun q => absurd q.1 (by decide) | exact fun q => absurd q.2 (by decide) | omega)))))
  have hq26 : ∀ i k : Int, ¬ i = 1 → ¬ i = 111 → g20 i k = (jup (jup (jup (jup (jup h 93 (a1 * 6 + h 92 a1) a2) 94 (a1 * 6 + h 92 a1) a3) 95 (a1 * 6 + h 92 a1) a4) 96 (a1 * 6 + h 92 a1) a5) 92 a1 (h 92 a1 + 1)) i k := fun i k p1 p2 => ((congrFun (congrFun eg20 i) k).trans (jup_cc (by omega) (by omega) (by first | rfl | omega | exact congrArg jw32 (by omega)) ((congrFun (congrFun eg11 i) k).trans (jup_cc (by omega) (by omega) (by first | rfl | omega | exact congrArg jw32 (by omega)) ((congrFun (congrFun eg9 i) k).trans (jup_cc (by omega) (by omega) (by first | rfl | omega | exact congrArg jw32 (by omega)) ((congrFun (congrFun eg7 i) k).trans (jup_cc (by omega) (by omega) (by first | rfl | omega | exact congrArg jw32 (by omega)) ((congrFun (congrFun eg5 i) k).trans (jup_cc (by omega) (by omega) (by first | rfl | omega | exact congrArg jw32 (by omega)) rfl))))))))))
  exact st_r0 (ls := []) ⟨rfl, rfl, fg20, jw32 (v22 - 1), rfl, (by omega), (by exact ⟨by omega, hq26⟩)⟩

def w_X11_part (i k : Int) : Prop := (i = 1) ∨ (92 ≤ i ∧ i ≤ 96)
theorem ws_X11_refused__X11_part (i k : Int) (q : w_X11_refused i k) : w_X11_part i k := by
  unfold w_X11_refused at q; unfold w_X11_part
  exact (Or.inl (by omega))
theorem ws_X8_add__X11_part (i k : Int) (q : w_X8_add i k) : w_X11_part i k := by
  unfold w_X8_add at q; unfold w_X11_part
  exact (Or.inr (by omega))
def k_X11_part (a1 : Int) (a2 : Int) (a3 : Int) (a4 : Int) (a5 : Int) (h : JH) (v : Option JV) (r' g : JH) : Prop := r' = jr0 ∧ jfr w_X11_part h g ∧ ∃ x : Int, v = some (.inl x) ∧ (-7 ≤ x ∧ x ≤ 5) ∧ (P_X11_part a1 a2 a3 a4 a5 x h g)
set_option maxHeartbeats 4000000 in
theorem c_X11_part {E : JE} {l : Launch} (a1 : Int) (a2 : Int) (a3 : Int) (a4 : Int) (a5 : Int) (h : JH) : jMt E l 104 [.inr (.inr (.inl 0)), .inl a1, .inl a2, .inl a3, .inl a4, .inl a5] 229 jr0 h (k_X11_part a1 a2 a3 a4 a5 h) := by
  refine jMt0 (nL := 6) (ls := [.inr (.inr (.inl 0)), .inl a1, .inl a2, .inl a3, .inl a4, .inl a5]) (by decide +kernel) (by decide +kernel) (by decide +kernel) rfl rfl ?_
  have f0 : jfr w_X11_part h h := jfr_rf _ _
  refine jGo_blk qX11_part_0 ?_
  refine st_cs (na := 2) (st := [.inl 3, .inl a1]) rfl rfl rfl (c_X11_within a1 3 h) rfl ?_
  rintro _ _ _ ⟨rfl, rfl, t1, rfl, ht1, zt1⟩ kt1
  replace kt1 : -2147483648 ≤ t1 ∧ t1 ≤ 2147483647 := kt1
  replace ht1 : 0 ≤ t1 ∧ t1 ≤ 1 := ht1
  replace zt1 : (t1 = 1 ∧ 0 ≤ a1 ∧ a1 < (3 : Int)) ∨ (t1 = 0 ∧ ¬ (0 ≤ a1 ∧ a1 < (3 : Int))) := zt1
  refine And.intro (fun c3 => ?_) (fun c3 => ?_)
  · replace c3 : t1 = 0 := c3
    show jGo E l 104 229 229 _ 16 [.inr (.inr (.inl 0)), .inl a1, .inl a2, .inl a3, .inl a4, .inl a5] [] 229 jr0 h
    refine jGo_blk qX11_part_16 ?_
    refine st_cv (na := 1) (st := [.inl (-1), .inr (.inr (.inl 0))]) jo_0 rfl rfl rfl (c_X11_refused (-1) h (by omega)) rfl ?_
    rintro _ _ g5 ⟨rfl, ft4, t4, rfl, ht4, zt4⟩ kt4
    replace kt4 : -2147483648 ≤ t4 ∧ t4 ≤ 2147483647 := kt4
    replace ht4 : -7 ≤ t4 ∧ t4 ≤ -1 := ht4
    have fg5 : jfr w_X11_part h g5 := jfr_tr f0 ft4 ws_X11_refused__X11_part
    replace zt4 : t4 = (-1 : Int) := zt4
    have hs6 : ∀ i k : Int, ¬ i = 1 → ¬ i = 111 → g5 i k = h i k := fun i k p1 p2 => (ft4 i k (by unfold w_X11_refused; omega))
    exact st_r0 (ls := []) ⟨rfl, rfl, fg5, t4, rfl, (by omega), (by unfold P_X11_part; by_cases zz : t4 = -4 <;> first | exact Or.inl ⟨by omega, hs6⟩ | exact Or.inr (Or.inl ⟨by omega, hs6⟩) | exact Or.inr (Or.inr (Or.inl ⟨by omega, hs6⟩)))⟩
  · replace c3 : ¬ t1 = 0 := by first | exact c3 | exact Int.not_le.mp c3 | exact Int.not_lt.mp c3 | exact Decidable.not_not.mp c3
    refine st_cs (na := 2) (st := [.inl 3, .inl a2]) rfl rfl rfl (c_X11_within a2 3 h) rfl ?_
    rintro _ _ _ ⟨rfl, rfl, t7, rfl, ht7, zt7⟩ kt7
    replace kt7 : -2147483648 ≤ t7 ∧ t7 ≤ 2147483647 := kt7
    replace ht7 : 0 ≤ t7 ∧ t7 ≤ 1 := ht7
    replace zt7 : (t7 = 1 ∧ 0 ≤ a2 ∧ a2 < (3 : Int)) ∨ (t7 = 0 ∧ ¬ (0 ≤ a2 ∧ a2 < (3 : Int))) := zt7
    refine And.intro (fun c9 => ?_) (fun c9 => ?_)
    · replace c9 : ¬ t7 = 0 := c9
      show jGo E l 104 229 229 _ 22 [.inr (.inr (.inl 0)), .inl a1, .inl a2, .inl a3, .inl a4, .inl a5] [] 229 jr0 h
      refine jGo_blk qX11_part_22 ?_
      refine And.intro (fun c10 => ?_) (fun c10 => ?_)
      · replace c10 : a3 < (-9) := c10
        show jGo E l 104 229 229 _ 39 [.inr (.inr (.inl 0)), .inl a1, .inl a2, .inl a3, .inl a4, .inl a5] [] 229 jr0 h
        refine jGo_blk qX11_part_39 ?_
        refine st_cv (na := 1) (st := [.inl (-4), .inr (.inr (.inl 0))]) jo_0 rfl rfl rfl (c_X11_refused (-4) h (by omega)) rfl ?_
        rintro _ _ g12 ⟨rfl, ft11, t11, rfl, ht11, zt11⟩ kt11
        replace kt11 : -2147483648 ≤ t11 ∧ t11 ≤ 2147483647 := kt11
        replace ht11 : -7 ≤ t11 ∧ t11 ≤ -1 := ht11
        have fg12 : jfr w_X11_part h g12 := jfr_tr f0 ft11 ws_X11_refused__X11_part
        replace zt11 : t11 = (-4 : Int) := zt11
        have hs13 : ∀ i k : Int, ¬ i = 1 → ¬ i = 111 → g12 i k = h i k := fun i k p1 p2 => (ft11 i k (by unfold w_X11_refused; omega))
        exact st_r0 (ls := []) ⟨rfl, rfl, fg12, t11, rfl, (by omega), (by unfold P_X11_part; by_cases zz : t11 = -4 <;> first | exact Or.inl ⟨by omega, hs13⟩ | exact Or.inr (Or.inl ⟨by omega, hs13⟩) | exact Or.inr (Or.inr (Or.inl ⟨by omega, hs13⟩)))⟩
      · replace c10 : (-9) ≤ a3 := by first | exact c10 | exact Int.not_le.mp c10 | exact Int.not_lt.mp c10 | exact Decidable.not_not.mp c10
        refine And.intro (fun c14 => ?_) (fun c14 => ?_)
        · replace c14 : a4 < 0 := c14
          show jGo E l 104 229 229 _ 39 [.inr (.inr (.inl 0)), .inl a1, .inl a2, .inl a3, .inl a4, .inl a5] [] 229 jr0 h
          refine jGo_blk qX11_part_39 ?_
          refine st_cv (na := 1) (st := [.inl (-4), .inr (.inr (.inl 0))]) jo_0 rfl rfl rfl (c_X11_refused (-4) h (by omega)) rfl ?_
          rintro _ _ g16 ⟨rfl, ft15, t15, rfl, ht15, zt15⟩ kt15
          replace kt15 : -2147483648 ≤ t15 ∧ t15 ≤ 2147483647 := kt15
          replace ht15 : -7 ≤ t15 ∧ t15 ≤ -1 := ht15
          have fg16 : jfr w_X11_part h g16 := jfr_tr f0 ft15 ws_X11_refused__X11_part
          replace zt15 : t15 = (-4 : Int) := zt15
          have hs17 : ∀ i k : Int, ¬ i = 1 → ¬ i = 111 → g16 i k = h i k := fun i k p1 p2 => (ft15 i k (by unfold w_X11_refused; omega))
          exact st_r0 (ls := []) ⟨rfl, rfl, fg16, t15, rfl, (by omega), (by unfold P_X11_part; by_cases zz : t15 = -4 <;> first | exact Or.inl ⟨by omega, hs17⟩ | exact Or.inr (Or.inl ⟨by omega, hs17⟩) | exact Or.inr (Or.inr (Or.inl ⟨by omega, hs17⟩)))⟩
        · replace c14 : 0 ≤ a4 := by first | exact c14 | exact Int.not_le.mp c14 | exact Int.not_lt.mp c14 | exact Decidable.not_not.mp c14
          refine And.intro (fun c18 => ?_) (fun c18 => ?_)
          · replace c18 : 1 ≤ a5 := c18
            show jGo E l 104 229 229 _ 46 [.inr (.inr (.inl 0)), .inl a1, .inl a2, .inl a3, .inl a4, .inl a5] [] 229 jr0 h
            refine jGo_blk qX11_part_46 ?_
            refine And.intro (fun c19 => ?_) (fun c19 => ?_)
            · replace c19 : 9 < a3 := c19
              show jGo E l 104 229 229 _ 81 [.inr (.inr (.inl 0)), .inl a1, .inl a2, .inl a3, .inl a4, .inl a5] [] 229 jr0 h
              refine jGo_blk qX11_part_81 ?_
              refine st_cv (na := 1) (st := [.inl (-6), .inr (.inr (.inl 0))]) jo_0 rfl rfl rfl (c_X11_refused (-6) h (by omega)) rfl ?_
              rintro _ _ g21 ⟨rfl, ft20, t20, rfl, ht20, zt20⟩ kt20
              replace kt20 : -2147483648 ≤ t20 ∧ t20 ≤ 2147483647 := kt20
              replace ht20 : -7 ≤ t20 ∧ t20 ≤ -1 := ht20
              have fg21 : jfr w_X11_part h g21 := jfr_tr f0 ft20 ws_X11_refused__X11_part
              replace zt20 : t20 = (-6 : Int) := zt20
              have hs22 : ∀ i k : Int, ¬ i = 1 → ¬ i = 111 → g21 i k = h i k := fun i k p1 p2 => (ft20 i k (by unfold w_X11_refused; omega))
              exact st_r0 (ls := []) ⟨rfl, rfl, fg21, t20, rfl, (by omega), (by unfold P_X11_part; by_cases zz : t20 = -4 <;> first | exact Or.inl ⟨by omega, hs22⟩ | exact Or.inr (Or.inl ⟨by omega, hs22⟩) | exact Or.inr (Or.inr (Or.inl ⟨by omega, hs22⟩)))⟩
            · replace c19 : a3 ≤ 9 := by first | exact c19 | exact Int.not_le.mp c19 | exact Int.not_lt.mp c19 | exact Decidable.not_not.mp c19
              refine And.intro (fun c23 => ?_) (fun c23 => ?_)
              · replace c23 : 9 < a4 := c23
                show jGo E l 104 229 229 _ 81 [.inr (.inr (.inl 0)), .inl a1, .inl a2, .inl a3, .inl a4, .inl a5] [] 229 jr0 h
                refine jGo_blk qX11_part_81 ?_
                refine st_cv (na := 1) (st := [.inl (-6), .inr (.inr (.inl 0))]) jo_0 rfl rfl rfl (c_X11_refused (-6) h (by omega)) rfl ?_
                rintro _ _ g25 ⟨rfl, ft24, t24, rfl, ht24, zt24⟩ kt24
                replace kt24 : -2147483648 ≤ t24 ∧ t24 ≤ 2147483647 := kt24
                replace ht24 : -7 ≤ t24 ∧ t24 ≤ -1 := ht24
                have fg25 : jfr w_X11_part h g25 := jfr_tr f0 ft24 ws_X11_refused__X11_part
                replace zt24 : t24 = (-6 : Int) := zt24
                have hs26 : ∀ i k : Int, ¬ i = 1 → ¬ i = 111 → g25 i k = h i k := fun i k p1 p2 => (ft24 i k (by unfold w_X11_refused; omega))
                exact st_r0 (ls := []) ⟨rfl, rfl, fg25, t24, rfl, (by omega), (by unfold P_X11_part; by_cases zz : t24 = -4 <;> first | exact Or.inl ⟨by omega, hs26⟩ | exact Or.inr (Or.inl ⟨by omega, hs26⟩) | exact Or.inr (Or.inr (Or.inl ⟨by omega, hs26⟩)))⟩
              · replace c23 : a4 ≤ 9 := by first | exact c23 | exact Int.not_le.mp c23 | exact Int.not_lt.mp c23 | exact Decidable.not_not.mp c23
                refine And.intro (fun c27 => ?_) (fun c27 => ?_)
                · replace c27 : 500 < a5 := c27
                  show jGo E l 104 229 229 _ 81 [.inr (.inr (.inl 0)), .inl a1, .inl a2, .inl a3, .inl a4, .inl a5] [] 229 jr0 h
                  refine jGo_blk qX11_part_81 ?_
                  refine st_cv (na := 1) (st := [.inl (-6), .inr (.inr (.inl 0))]) jo_0 rfl rfl rfl (c_X11_refused (-6) h (by omega)) rfl ?_
                  rintro _ _ g29 ⟨rfl, ft28, t28, rfl, ht28, zt28⟩ kt28
                  replace kt28 : -2147483648 ≤ t28 ∧ t28 ≤ 2147483647 := kt28
                  replace ht28 : -7 ≤ t28 ∧ t28 ≤ -1 := ht28
                  have fg29 : jfr w_X11_part h g29 := jfr_tr f0 ft28 ws_X11_refused__X11_part
                  replace zt28 : t28 = (-6 : Int) := zt28
                  have hs30 : ∀ i k : Int, ¬ i = 1 → ¬ i = 111 → g29 i k = h i k := fun i k p1 p2 => (ft28 i k (by unfold w_X11_refused; omega))
                  exact st_r0 (ls := []) ⟨rfl, rfl, fg29, t28, rfl, (by omega), (by unfold P_X11_part; by_cases zz : t28 = -4 <;> first | exact Or.inl ⟨by omega, hs30⟩ | exact Or.inr (Or.inl ⟨by omega, hs30⟩) | exact Or.inr (Or.inr (Or.inl ⟨by omega, hs30⟩)))⟩
                · replace c27 : a5 ≤ 500 := by first | exact c27 | exact Int.not_le.mp c27 | exact Int.not_lt.mp c27 | exact Decidable.not_not.mp c27
                  refine st_gr jo_0 jr_0_7 ?_
                  refine st_gr jo_91 jr_91_0 ?_
                  refine st_ai jo_92 (show 0 ≤ a1 by omega) (show a1 < ((3 : Nat) : Int) by omega) (fun v31 ev31 b32 => ?_)
                  replace ev31 : v31 = h 92 a1 := ev31
                  replace b32 := (jba_92 a1 _).1 b32
                  refine And.intro (fun c33 => ?_) (fun c33 => ?_)
                  · replace c33 : v31 < 6 := c33
                    show jGo E l 104 229 229 _ 88 [.inr (.inr (.inl 0)), .inl a1, .inl a2, .inl a3, .inl a4, .inl a5] [] 229 jr0 h
                    refine jGo_blk qX11_part_88 ?_
                    refine st_gr jo_0 jr_0_7 ?_
                    refine st_cv (na := 5) (st := [.inl a5, .inl a4, .inl a3, .inl a2, .inl a1, .inr (.inr (.inl 91))]) jo_91 rfl rfl rfl (c_X8_add a1 a2 a3 a4 a5 h (by omega) (by omega) (by omega) (by omega) (by omega) (by omega)) rfl ?_
                    rintro _ _ g35 ⟨rfl, ft34, t34, rfl, ht34, zt34⟩ kt34
                    replace kt34 : -2147483648 ≤ t34 ∧ t34 ≤ 2147483647 := kt34
                    replace ht34 : 0 ≤ t34 ∧ t34 ≤ 5 := ht34
                    have fg35 : jfr w_X11_part h g35 := jfr_tr f0 ft34 ws_X8_add__X11_part
                    replace zt34 : t34 = h 92 a1 ∧ jSx g35 (jup (jup (jup (jup (jup h 93 (a1 * 6 + h 92 a1) a2) 94 (a1 * 6 + h 92 a1) a3) 95 (a1 * 6 + h 92 a1) a4) 96 (a1 * 6 + h 92 a1) a5) 92 a1 (h 92 a1 + 1)) := zt34
                    exact st_r0 (ls := []) ⟨rfl, rfl, fg35, t34, rfl, (by omega), (by unfold P_X11_part; exact Or.inr (Or.inr (Or.inr ⟨by omega, by omega, zt34.2⟩)))⟩
                  · replace c33 : 6 ≤ v31 := by first | exact c33 | exact Int.not_le.mp c33 | exact Int.not_lt.mp c33 | exact Decidable.not_not.mp c33
                    show jGo E l 104 229 229 _ 81 [.inr (.inr (.inl 0)), .inl a1, .inl a2, .inl a3, .inl a4, .inl a5] [] 229 jr0 h
                    refine jGo_blk qX11_part_81 ?_
                    refine st_cv (na := 1) (st := [.inl (-6), .inr (.inr (.inl 0))]) jo_0 rfl rfl rfl (c_X11_refused (-6) h (by omega)) rfl ?_
                    rintro _ _ g37 ⟨rfl, ft36, t36, rfl, ht36, zt36⟩ kt36
                    replace kt36 : -2147483648 ≤ t36 ∧ t36 ≤ 2147483647 := kt36
                    replace ht36 : -7 ≤ t36 ∧ t36 ≤ -1 := ht36
                    have fg37 : jfr w_X11_part h g37 := jfr_tr f0 ft36 ws_X11_refused__X11_part
                    replace zt36 : t36 = (-6 : Int) := zt36
                    have rv38 : v31 = h 92 a1 := by omega
                    subst rv38
                    have hs39 : ∀ i k : Int, ¬ i = 1 → ¬ i = 111 → g37 i k = h i k := fun i k p1 p2 => (ft36 i k (by unfold w_X11_refused; omega))
                    exact st_r0 (ls := []) ⟨rfl, rfl, fg37, t36, rfl, (by omega), (by unfold P_X11_part; by_cases zz : t36 = -4 <;> first | exact Or.inl ⟨by omega, hs39⟩ | exact Or.inr (Or.inl ⟨by omega, hs39⟩) | exact Or.inr (Or.inr (Or.inl ⟨by omega, hs39⟩)))⟩
          · replace c18 : a5 < 1 := by first | exact c18 | exact Int.not_le.mp c18 | exact Int.not_lt.mp c18 | exact Decidable.not_not.mp c18
            show jGo E l 104 229 229 _ 39 [.inr (.inr (.inl 0)), .inl a1, .inl a2, .inl a3, .inl a4, .inl a5] [] 229 jr0 h
            refine jGo_blk qX11_part_39 ?_
            refine st_cv (na := 1) (st := [.inl (-4), .inr (.inr (.inl 0))]) jo_0 rfl rfl rfl (c_X11_refused (-4) h (by omega)) rfl ?_
            rintro _ _ g41 ⟨rfl, ft40, t40, rfl, ht40, zt40⟩ kt40
            replace kt40 : -2147483648 ≤ t40 ∧ t40 ≤ 2147483647 := kt40
            replace ht40 : -7 ≤ t40 ∧ t40 ≤ -1 := ht40
            have fg41 : jfr w_X11_part h g41 := jfr_tr f0 ft40 ws_X11_refused__X11_part
            replace zt40 : t40 = (-4 : Int) := zt40
            have hs42 : ∀ i k : Int, ¬ i = 1 → ¬ i = 111 → g41 i k = h i k := fun i k p1 p2 => (ft40 i k (by unfold w_X11_refused; omega))
            exact st_r0 (ls := []) ⟨rfl, rfl, fg41, t40, rfl, (by omega), (by unfold P_X11_part; by_cases zz : t40 = -4 <;> first | exact Or.inl ⟨by omega, hs42⟩ | exact Or.inr (Or.inl ⟨by omega, hs42⟩) | exact Or.inr (Or.inr (Or.inl ⟨by omega, hs42⟩)))⟩
    · replace c9 : t7 = 0 := by first | exact c9 | exact Int.not_le.mp c9 | exact Int.not_lt.mp c9 | exact Decidable.not_not.mp c9
      show jGo E l 104 229 229 _ 16 [.inr (.inr (.inl 0)), .inl a1, .inl a2, .inl a3, .inl a4, .inl a5] [] 229 jr0 h
      refine jGo_blk qX11_part_16 ?_
      refine st_cv (na := 1) (st := [.inl (-1), .inr (.inr (.inl 0))]) jo_0 rfl rfl rfl (c_X11_refused (-1) h (by omega)) rfl ?_
      rintro _ _ g44 ⟨rfl, ft43, t43, rfl, ht43, zt43⟩ kt43
      replace kt43 : -2147483648 ≤ t43 ∧ t43 ≤ 2147483647 := kt43
      replace ht43 : -7 ≤ t43 ∧ t43 ≤ -1 := ht43
      have fg44 : jfr w_X11_part h g44 := jfr_tr f0 ft43 ws_X11_refused__X11_part
      replace zt43 : t43 = (-1 : Int) := zt43
      have hs45 : ∀ i k : Int, ¬ i = 1 → ¬ i = 111 → g44 i k = h i k := fun i k p1 p2 => (ft43 i k (by unfold w_X11_refused; omega))
      exact st_r0 (ls := []) ⟨rfl, rfl, fg44, t43, rfl, (by omega), (by unfold P_X11_part; by_cases zz : t43 = -4 <;> first | exact Or.inl ⟨by omega, hs45⟩ | exact Or.inr (Or.inl ⟨by omega, hs45⟩) | exact Or.inr (Or.inr (Or.inl ⟨by omega, hs45⟩)))⟩

def w_X12_part (i k : Int) : Prop := (210 ≤ i ∧ i ≤ 214) ∨ (i = 219)
theorem ws_X12_refuse__X12_part (i k : Int) (q : w_X12_refuse i k) : w_X12_part i k := by
  unfold w_X12_refuse at q; unfold w_X12_part
  exact (Or.inr (by omega))
def k_X12_part (a1 : Int) (a2 : Int) (a3 : Int) (a4 : Int) (a5 : Int) (h : JH) (v : Option JV) (r' g : JH) : Prop := r' = jr0 ∧ jfr w_X12_part h g ∧ ∃ x : Int, v = some (.inl x) ∧ (-7 ≤ x ∧ x ≤ 5) ∧ (P_X12_part a1 a2 a3 a4 a5 x h g)
set_option maxHeartbeats 4000000 in
theorem c_X12_part {E : JE} {l : Launch} (a1 : Int) (a2 : Int) (a3 : Int) (a4 : Int) (a5 : Int) (h : JH) : jMt E l 105 [.inr (.inr (.inl 176)), .inl a1, .inl a2, .inl a3, .inl a4, .inl a5] 229 jr0 h (k_X12_part a1 a2 a3 a4 a5 h) := by
  refine jMt0 (nL := 7) (ls := [.inr (.inr (.inl 176)), .inl a1, .inl a2, .inl a3, .inl a4, .inl a5, .inr (.inr (.inr ()))]) (by decide +kernel) (by decide +kernel) (by decide +kernel) rfl rfl ?_
  have f0 : jfr w_X12_part h h := jfr_rf _ _
  refine jGo_blk qX12_part_0 ?_
  refine st_cs (na := 3) (st := [.inl 2, .inl 0, .inl a1]) rfl rfl rfl (c_X12_in a1 0 2 h) rfl ?_
  rintro _ _ _ ⟨rfl, rfl, t1, rfl, ht1, zt1⟩ kt1
  replace kt1 : -2147483648 ≤ t1 ∧ t1 ≤ 2147483647 := kt1
  replace ht1 : 0 ≤ t1 ∧ t1 ≤ 1 := ht1
  replace zt1 : (t1 = 1 ∧ (0 : Int) ≤ a1 ∧ a1 ≤ (2 : Int)) ∨ (t1 = 0 ∧ ¬ ((0 : Int) ≤ a1 ∧ a1 ≤ (2 : Int))) := zt1
  refine And.intro (fun c3 => ?_) (fun c3 => ?_)
  · replace c3 : t1 = 0 := c3
    show jGo E l 105 229 229 _ 18 [.inr (.inr (.inl 176)), .inl a1, .inl a2, .inl a3, .inl a4, .inl a5, .inr (.inr (.inr ()))] [] 229 jr0 h
    refine jGo_blk qX12_part_18 ?_
    refine st_cv (na := 1) (st := [.inl (-1), .inr (.inr (.inl 176))]) jo_176 rfl rfl rfl (c_X12_refuse (-1) h (by omega)) rfl ?_
    rintro _ _ g5 ⟨rfl, ft4, t4, rfl, ht4, zt4⟩ kt4
    replace kt4 : -2147483648 ≤ t4 ∧ t4 ≤ 2147483647 := kt4
    replace ht4 : -7 ≤ t4 ∧ t4 ≤ -1 := ht4
    have fg5 : jfr w_X12_part h g5 := jfr_tr f0 ft4 ws_X12_refuse__X12_part
    replace zt4 : t4 = (-1 : Int) := zt4
    have hs6 : ∀ i k : Int, ¬ i = 219 → g5 i k = h i k := fun i k p1 => (ft4 i k (by first | exact p1 | (unfold w_X12_refuse; omega)))
    exact st_r0 (ls := []) ⟨rfl, rfl, fg5, t4, rfl, (by omega), (by unfold P_X12_part; by_cases zz : t4 = -4 <;> first | exact Or.inl ⟨by omega, hs6⟩ | exact Or.inr (Or.inl ⟨by omega, hs6⟩) | exact Or.inr (Or.inr (Or.inl ⟨by omega, hs6⟩)))⟩
  · replace c3 : ¬ t1 = 0 := by first | exact c3 | exact Int.not_le.mp c3 | exact Int.not_lt.mp c3 | exact Decidable.not_not.mp c3
    refine st_cs (na := 3) (st := [.inl 2, .inl 0, .inl a2]) rfl rfl rfl (c_X12_in a2 0 2 h) rfl ?_
    rintro _ _ _ ⟨rfl, rfl, t7, rfl, ht7, zt7⟩ kt7
    replace kt7 : -2147483648 ≤ t7 ∧ t7 ≤ 2147483647 := kt7
    replace ht7 : 0 ≤ t7 ∧ t7 ≤ 1 := ht7
    replace zt7 : (t7 = 1 ∧ (0 : Int) ≤ a2 ∧ a2 ≤ (2 : Int)) ∨ (t7 = 0 ∧ ¬ ((0 : Int) ≤ a2 ∧ a2 ≤ (2 : Int))) := zt7
    refine And.intro (fun c9 => ?_) (fun c9 => ?_)
    · replace c9 : ¬ t7 = 0 := c9
      show jGo E l 105 229 229 _ 24 [.inr (.inr (.inl 176)), .inl a1, .inl a2, .inl a3, .inl a4, .inl a5, .inr (.inr (.inr ()))] [] 229 jr0 h
      refine jGo_blk qX12_part_24 ?_
      refine And.intro (fun c10 => ?_) (fun c10 => ?_)
      · replace c10 : a3 < (-9) := c10
        show jGo E l 105 229 229 _ 41 [.inr (.inr (.inl 176)), .inl a1, .inl a2, .inl a3, .inl a4, .inl a5, .inr (.inr (.inr ()))] [] 229 jr0 h
        refine jGo_blk qX12_part_41 ?_
        refine st_cv (na := 1) (st := [.inl (-4), .inr (.inr (.inl 176))]) jo_176 rfl rfl rfl (c_X12_refuse (-4) h (by omega)) rfl ?_
        rintro _ _ g12 ⟨rfl, ft11, t11, rfl, ht11, zt11⟩ kt11
        replace kt11 : -2147483648 ≤ t11 ∧ t11 ≤ 2147483647 := kt11
        replace ht11 : -7 ≤ t11 ∧ t11 ≤ -1 := ht11
        have fg12 : jfr w_X12_part h g12 := jfr_tr f0 ft11 ws_X12_refuse__X12_part
        replace zt11 : t11 = (-4 : Int) := zt11
        have hs13 : ∀ i k : Int, ¬ i = 219 → g12 i k = h i k := fun i k p1 => (ft11 i k (by first | exact p1 | (unfold w_X12_refuse; omega)))
        exact st_r0 (ls := []) ⟨rfl, rfl, fg12, t11, rfl, (by omega), (by unfold P_X12_part; by_cases zz : t11 = -4 <;> first | exact Or.inl ⟨by omega, hs13⟩ | exact Or.inr (Or.inl ⟨by omega, hs13⟩) | exact Or.inr (Or.inr (Or.inl ⟨by omega, hs13⟩)))⟩
      · replace c10 : (-9) ≤ a3 := by first | exact c10 | exact Int.not_le.mp c10 | exact Int.not_lt.mp c10 | exact Decidable.not_not.mp c10
        refine And.intro (fun c14 => ?_) (fun c14 => ?_)
        · replace c14 : a4 < 0 := c14
          show jGo E l 105 229 229 _ 41 [.inr (.inr (.inl 176)), .inl a1, .inl a2, .inl a3, .inl a4, .inl a5, .inr (.inr (.inr ()))] [] 229 jr0 h
          refine jGo_blk qX12_part_41 ?_
          refine st_cv (na := 1) (st := [.inl (-4), .inr (.inr (.inl 176))]) jo_176 rfl rfl rfl (c_X12_refuse (-4) h (by omega)) rfl ?_
          rintro _ _ g16 ⟨rfl, ft15, t15, rfl, ht15, zt15⟩ kt15
          replace kt15 : -2147483648 ≤ t15 ∧ t15 ≤ 2147483647 := kt15
          replace ht15 : -7 ≤ t15 ∧ t15 ≤ -1 := ht15
          have fg16 : jfr w_X12_part h g16 := jfr_tr f0 ft15 ws_X12_refuse__X12_part
          replace zt15 : t15 = (-4 : Int) := zt15
          have hs17 : ∀ i k : Int, ¬ i = 219 → g16 i k = h i k := fun i k p1 => (ft15 i k (by first | exact p1 | (unfold w_X12_refuse; omega)))
          exact st_r0 (ls := []) ⟨rfl, rfl, fg16, t15, rfl, (by omega), (by unfold P_X12_part; by_cases zz : t15 = -4 <;> first | exact Or.inl ⟨by omega, hs17⟩ | exact Or.inr (Or.inl ⟨by omega, hs17⟩) | exact Or.inr (Or.inr (Or.inl ⟨by omega, hs17⟩)))⟩
        · replace c14 : 0 ≤ a4 := by first | exact c14 | exact Int.not_le.mp c14 | exact Int.not_lt.mp c14 | exact Decidable.not_not.mp c14
          refine And.intro (fun c18 => ?_) (fun c18 => ?_)
          · replace c18 : 1 ≤ a5 := c18
            show jGo E l 105 229 229 _ 48 [.inr (.inr (.inl 176)), .inl a1, .inl a2, .inl a3, .inl a4, .inl a5, .inr (.inr (.inr ()))] [] 229 jr0 h
            refine jGo_blk qX12_part_48 ?_
            refine And.intro (fun c19 => ?_) (fun c19 => ?_)
            · replace c19 : 9 < a3 := c19
              show jGo E l 105 229 229 _ 80 [.inr (.inr (.inl 176)), .inl a1, .inl a2, .inl a3, .inl a4, .inl a5, .inr (.inr (.inr ()))] [] 229 jr0 h
              refine jGo_blk qX12_part_80 ?_
              refine st_cv (na := 1) (st := [.inl (-6), .inr (.inr (.inl 176))]) jo_176 rfl rfl rfl (c_X12_refuse (-6) h (by omega)) rfl ?_
              rintro _ _ g21 ⟨rfl, ft20, t20, rfl, ht20, zt20⟩ kt20
              replace kt20 : -2147483648 ≤ t20 ∧ t20 ≤ 2147483647 := kt20
              replace ht20 : -7 ≤ t20 ∧ t20 ≤ -1 := ht20
              have fg21 : jfr w_X12_part h g21 := jfr_tr f0 ft20 ws_X12_refuse__X12_part
              replace zt20 : t20 = (-6 : Int) := zt20
              have hs22 : ∀ i k : Int, ¬ i = 219 → g21 i k = h i k := fun i k p1 => (ft20 i k (by first | exact p1 | (unfold w_X12_refuse; omega)))
              exact st_r0 (ls := []) ⟨rfl, rfl, fg21, t20, rfl, (by omega), (by unfold P_X12_part; by_cases zz : t20 = -4 <;> first | exact Or.inl ⟨by omega, hs22⟩ | exact Or.inr (Or.inl ⟨by omega, hs22⟩) | exact Or.inr (Or.inr (Or.inl ⟨by omega, hs22⟩)))⟩
            · replace c19 : a3 ≤ 9 := by first | exact c19 | exact Int.not_le.mp c19 | exact Int.not_lt.mp c19 | exact Decidable.not_not.mp c19
              refine And.intro (fun c23 => ?_) (fun c23 => ?_)
              · replace c23 : 9 < a4 := c23
                show jGo E l 105 229 229 _ 80 [.inr (.inr (.inl 176)), .inl a1, .inl a2, .inl a3, .inl a4, .inl a5, .inr (.inr (.inr ()))] [] 229 jr0 h
                refine jGo_blk qX12_part_80 ?_
                refine st_cv (na := 1) (st := [.inl (-6), .inr (.inr (.inl 176))]) jo_176 rfl rfl rfl (c_X12_refuse (-6) h (by omega)) rfl ?_
                rintro _ _ g25 ⟨rfl, ft24, t24, rfl, ht24, zt24⟩ kt24
                replace kt24 : -2147483648 ≤ t24 ∧ t24 ≤ 2147483647 := kt24
                replace ht24 : -7 ≤ t24 ∧ t24 ≤ -1 := ht24
                have fg25 : jfr w_X12_part h g25 := jfr_tr f0 ft24 ws_X12_refuse__X12_part
                replace zt24 : t24 = (-6 : Int) := zt24
                have hs26 : ∀ i k : Int, ¬ i = 219 → g25 i k = h i k := fun i k p1 => (ft24 i k (by first | exact p1 | (unfold w_X12_refuse; omega)))
                exact st_r0 (ls := []) ⟨rfl, rfl, fg25, t24, rfl, (by omega), (by unfold P_X12_part; by_cases zz : t24 = -4 <;> first | exact Or.inl ⟨by omega, hs26⟩ | exact Or.inr (Or.inl ⟨by omega, hs26⟩) | exact Or.inr (Or.inr (Or.inl ⟨by omega, hs26⟩)))⟩
              · replace c23 : a4 ≤ 9 := by first | exact c23 | exact Int.not_le.mp c23 | exact Int.not_lt.mp c23 | exact Decidable.not_not.mp c23
                refine And.intro (fun c27 => ?_) (fun c27 => ?_)
                · replace c27 : 500 < a5 := c27
                  show jGo E l 105 229 229 _ 80 [.inr (.inr (.inl 176)), .inl a1, .inl a2, .inl a3, .inl a4, .inl a5, .inr (.inr (.inr ()))] [] 229 jr0 h
                  refine jGo_blk qX12_part_80 ?_
                  refine st_cv (na := 1) (st := [.inl (-6), .inr (.inr (.inl 176))]) jo_176 rfl rfl rfl (c_X12_refuse (-6) h (by omega)) rfl ?_
                  rintro _ _ g29 ⟨rfl, ft28, t28, rfl, ht28, zt28⟩ kt28
                  replace kt28 : -2147483648 ≤ t28 ∧ t28 ≤ 2147483647 := kt28
                  replace ht28 : -7 ≤ t28 ∧ t28 ≤ -1 := ht28
                  have fg29 : jfr w_X12_part h g29 := jfr_tr f0 ft28 ws_X12_refuse__X12_part
                  replace zt28 : t28 = (-6 : Int) := zt28
                  have hs30 : ∀ i k : Int, ¬ i = 219 → g29 i k = h i k := fun i k p1 => (ft28 i k (by first | exact p1 | (unfold w_X12_refuse; omega)))
                  exact st_r0 (ls := []) ⟨rfl, rfl, fg29, t28, rfl, (by omega), (by unfold P_X12_part; by_cases zz : t28 = -4 <;> first | exact Or.inl ⟨by omega, hs30⟩ | exact Or.inr (Or.inl ⟨by omega, hs30⟩) | exact Or.inr (Or.inr (Or.inl ⟨by omega, hs30⟩)))⟩
                · replace c27 : a5 ≤ 500 := by first | exact c27 | exact Int.not_le.mp c27 | exact Int.not_lt.mp c27 | exact Decidable.not_not.mp c27
                  refine st_gr jo_176 jr_176_40 ?_
                  refine st_ai jo_210 (show 0 ≤ a1 by omega) (show a1 < ((3 : Nat) : Int) by omega) (fun v31 ev31 b32 => ?_)
                  replace ev31 : v31 = h 210 a1 := ev31
                  replace b32 := (jba_210 a1 _).1 b32
                  refine And.intro (fun c33 => ?_) (fun c33 => ?_)
                  · replace c33 : ¬ v31 = 6 := c33
                    show jGo E l 105 229 229 _ 87 [.inr (.inr (.inl 176)), .inl a1, .inl a2, .inl a3, .inl a4, .inl a5, .inr (.inr (.inr ()))] [] 229 jr0 h
                    refine jGo_blk qX12_part_87 ?_
                    have e34 : jw32 (6 * a1) = 6 * a1 := jzj32 (by omega)
                    refine st_gr jo_176 jr_176_40 ?_
                    refine st_ai jo_210 (show 0 ≤ a1 by omega) (show a1 < ((3 : Nat) : Int) by omega) (fun v35 ev35 b36 => ?_)
                    replace ev35 : v35 = h 210 a1 := ev35
                    replace b36 := (jba_210 a1 _).1 b36
                    have e37 : jw32 ((jw32 (6 * a1)) + v35) = (jw32 (6 * a1)) + v35 := jzj32 (by omega)
                    refine st_gr jo_176 jr_176_41 ?_
                    refine st_si jo_211 (show 0 ≤ jw32 ((jw32 (6 * a1)) + v35) by omega) (show jw32 ((jw32 (6 * a1)) + v35) < ((18 : Nat) : Int) by omega) (fun hx => (jba_211 _ _).2 (show 0 ≤ a2 ∧ a2 ≤ 2 by omega)) (fun g38 eg38 => ?_)
                    replace eg38 : g38 = jup h 211 (jw32 ((jw32 (6 * a1)) + v35)) a2 := eg38
                    have fg38 : jfr w_X12_part h g38 := jfr_up f0 eg38 (by unfold w_X12_part; omega)
                    have e39 : g38 211 (jw32 ((jw32 (6 * a1)) + v35)) = a2 := jup_s eg38
                    refine st_gr jo_176 jr_176_42 ?_
                    refine st_si jo_212 (show 0 ≤ jw32 ((jw32 (6 * a1)) + v35) by omega) (show jw32 ((jw32 (6 * a1)) + v35) < ((18 : Nat) : Int) by omega) (fun hx => (jba_212 _ _).2 (show -9 ≤ a3 ∧ a3 ≤ 9 by omega)) (fun g40 eg40 => ?_)
                    replace eg40 : g40 = jup g38 212 (jw32 ((jw32 (6 * a1)) + v35)) a3 := eg40
                    have fg40 : jfr w_X12_part h g40 := jfr_up fg38 eg40 (by unfold w_X12_part; omega)
                    have e41 : g40 212 (jw32 ((jw32 (6 * a1)) + v35)) = a3 := jup_s eg40
                    refine st_gr jo_176 jr_176_43 ?_
                    refine st_si jo_213 (show 0 ≤ jw32 ((jw32 (6 * a1)) + v35) by omega) (show jw32 ((jw32 (6 * a1)) + v35) < ((18 : Nat) : Int) by omega) (fun hx => (jba_213 _ _).2 (show 0 ≤ a4 ∧ a4 ≤ 9 by omega)) (fun g42 eg42 => ?_)
                    replace eg42 : g42 = jup g40 213 (jw32 ((jw32 (6 * a1)) + v35)) a4 := eg42
                    have fg42 : jfr w_X12_part h g42 := jfr_up fg40 eg42 (by unfold w_X12_part; omega)
                    have e43 : g42 213 (jw32 ((jw32 (6 * a1)) + v35)) = a4 := jup_s eg42
                    refine st_gr jo_176 jr_176_44 ?_
                    refine st_si jo_214 (show 0 ≤ jw32 ((jw32 (6 * a1)) + v35) by omega) (show jw32 ((jw32 (6 * a1)) + v35) < ((18 : Nat) : Int) by omega) (fun hx => (jba_214 _ _).2 (show 0 ≤ a5 ∧ a5 ≤ 500 by omega)) (fun g44 eg44 => ?_)
                    replace eg44 : g44 = jup g42 214 (jw32 ((jw32 (6 * a1)) + v35)) a5 := eg44
                    have fg44 : jfr w_X12_part h g44 := jfr_up fg42 eg44 (by unfold w_X12_part; omega)
                    have e45 : g44 214 (jw32 ((jw32 (6 * a1)) + v35)) = a5 := jup_s eg44
                    refine st_gr jo_176 jr_176_40 ?_
                    refine st_ai jo_210 (show 0 ≤ a1 by omega) (show a1 < ((3 : Nat) : Int) by omega) (fun v46 ev46 b47 => ?_)
                    replace ev46 : v46 = g44 210 a1 := ev46
                    replace b47 := (jba_210 a1 _).1 b47
                    have e48 : g44 210 a1 = g42 210 a1 := jup_o eg44 (by first | exact fun q => absurd q.1 (by decide) | exact fun q => absurd q.2 (by decide) | omega)
                    have e49 : g42 210 a1 = g40 210 a1 := jup_o eg42 (by first | exact fun q => absurd q.1 (by decide) | exact fun q => absurd q.2 (by decide) | omega)
                    have e50 : g40 210 a1 = g38 210 a1 := jup_o eg40 (by first | exact fun q => absurd q.1 (by decide) | exact fun q => absurd q.2 (by decide) | omega)
                    have e51 : g38 210 a1 = h 210 a1 := jup_o eg38 (by first | exact fun q => absurd q.1 (by decide) | exact fun q => absurd q.2 (by decide) | omega)
                    have e52 : jw32 (v46 + 1) = v46 + 1 := jzj32 (by omega)
                    refine st_si jo_210 (show 0 ≤ a1 by omega) (show a1 < ((3 : Nat) : Int) by omega) (fun hx => (jba_210 _ _).2 (show 0 ≤ jw32 (v46 + 1) ∧ jw32 (v46 + 1) ≤ 6 by omega)) (fun g53 eg53 => ?_)
                    replace eg53 : g53 = jup g44 210 a1 (jw32 (v46 + 1)) := eg53
                    have fg53 : jfr w_X12_part h g53 := jfr_up fg44 eg53 (by unfold w_X12_part; omega)
                    have e54 : g53 210 a1 = jw32 (v46 + 1) := jup_s eg53
                    refine st_gr jo_176 jr_176_40 ?_
                    refine st_ai jo_210 (show 0 ≤ a1 by omega) (show a1 < ((3 : Nat) : Int) by omega) (fun v55 ev55 b56 => ?_)
                    replace ev55 : v55 = g53 210 a1 := ev55
                    replace b56 := (jba_210 a1 _).1 b56
                    have e57 : jw32 (v55 - 1) = v55 - 1 := jzj32 (by omega)
                    have e58 : g44 210 a1 = h 210 a1 := ((jup_o eg44 (by first | exact fun q => absurd q.1 (by decide) | exact fun q => absurd q.2 (by decide) | omega)).trans ((jup_o eg42 (by first | exact fun q => absurd q.1 (by decide) | exact fun q => absurd q.2 (by decide) | omega)).trans ((jup_o eg40 (by first | exact fun q => absurd q.1 (by decide) | exact fun q => absurd q.2 (by decide) | omega)).trans (jup_o eg38 (by first | exact fun q => absurd q.1 (by decide) | exact fun q => absurd q.2 (by decide) | omega)))))
                    have rv59 : v31 = h 210 a1 := by omega
                    subst rv59
                    have rv60 : v35 = h 210 a1 := by omega
                    subst rv60
                    have rv61 : v46 = h 210 a1 := by omega
                    subst rv61
                    have hq62 : ∀ i k : Int, ¬ i = 219 → g53 i k = (jup (jup (jup (jup (jup h 211 (6 * a1 + h 210 a1) a2) 212 (6 * a1 + h 210 a1) a3) 213 (6 * a1 + h 210 a1) a4) 214 (6 * a1 + h 210 a1) a5) 210 a1 (h 210 a1 + 1)) i k := fun i k p1 => ((congrFun (congrFun eg53 i) k).trans (jup_cc (by omega) (by omega) (by first | rfl | omega | exact congrArg jw32 (by omega)) ((congrFun (congrFun eg44 i) k).trans (jup_cc (by omega) (by omega) (by first | rfl | omega | exact congrArg jw32 (by omega)) ((congrFun (congrFun eg42 i) k).trans (jup_cc (by omega) (by omega) (by first | rfl | omega | exact congrArg jw32 (by omega)) ((congrFun (congrFun eg40 i) k).trans (jup_cc (by omega) (by omega) (by first | rfl | omega | exact congrArg jw32 (by omega)) ((congrFun (congrFun eg38 i) k).trans (jup_cc (by omega) (by omega) (by first | rfl | omega | exact congrArg jw32 (by omega)) rfl))))))))))
                    exact st_r0 (ls := []) ⟨rfl, rfl, fg53, jw32 (v55 - 1), rfl, (by omega), (by unfold P_X12_part; exact Or.inr (Or.inr (Or.inr ⟨by omega, by omega, hq62⟩)))⟩
                  · replace c33 : v31 = 6 := by first | exact c33 | exact Int.not_le.mp c33 | exact Int.not_lt.mp c33 | exact Decidable.not_not.mp c33
                    show jGo E l 105 229 229 _ 80 [.inr (.inr (.inl 176)), .inl a1, .inl a2, .inl a3, .inl a4, .inl a5, .inr (.inr (.inr ()))] [] 229 jr0 h
                    refine jGo_blk qX12_part_80 ?_
                    refine st_cv (na := 1) (st := [.inl (-6), .inr (.inr (.inl 176))]) jo_176 rfl rfl rfl (c_X12_refuse (-6) h (by omega)) rfl ?_
                    rintro _ _ g64 ⟨rfl, ft63, t63, rfl, ht63, zt63⟩ kt63
                    replace kt63 : -2147483648 ≤ t63 ∧ t63 ≤ 2147483647 := kt63
                    replace ht63 : -7 ≤ t63 ∧ t63 ≤ -1 := ht63
                    have fg64 : jfr w_X12_part h g64 := jfr_tr f0 ft63 ws_X12_refuse__X12_part
                    replace zt63 : t63 = (-6 : Int) := zt63
                    have rv65 : v31 = h 210 a1 := by omega
                    subst rv65
                    have hs66 : ∀ i k : Int, ¬ i = 219 → g64 i k = h i k := fun i k p1 => (ft63 i k (by first | exact p1 | (unfold w_X12_refuse; omega)))
                    exact st_r0 (ls := []) ⟨rfl, rfl, fg64, t63, rfl, (by omega), (by unfold P_X12_part; by_cases zz : t63 = -4 <;> first | exact Or.inl ⟨by omega, hs66⟩ | exact Or.inr (Or.inl ⟨by omega, hs66⟩) | exact Or.inr (Or.inr (Or.inl ⟨by omega, hs66⟩)))⟩
          · replace c18 : a5 < 1 := by first | exact c18 | exact Int.not_le.mp c18 | exact Int.not_lt.mp c18 | exact Decidable.not_not.mp c18
            show jGo E l 105 229 229 _ 41 [.inr (.inr (.inl 176)), .inl a1, .inl a2, .inl a3, .inl a4, .inl a5, .inr (.inr (.inr ()))] [] 229 jr0 h
            refine jGo_blk qX12_part_41 ?_
            refine st_cv (na := 1) (st := [.inl (-4), .inr (.inr (.inl 176))]) jo_176 rfl rfl rfl (c_X12_refuse (-4) h (by omega)) rfl ?_
            rintro _ _ g68 ⟨rfl, ft67, t67, rfl, ht67, zt67⟩ kt67
            replace kt67 : -2147483648 ≤ t67 ∧ t67 ≤ 2147483647 := kt67
            replace ht67 : -7 ≤ t67 ∧ t67 ≤ -1 := ht67
            have fg68 : jfr w_X12_part h g68 := jfr_tr f0 ft67 ws_X12_refuse__X12_part
            replace zt67 : t67 = (-4 : Int) := zt67
            have hs69 : ∀ i k : Int, ¬ i = 219 → g68 i k = h i k := fun i k p1 => (ft67 i k (by first | exact p1 | (unfold w_X12_refuse; omega)))
            exact st_r0 (ls := []) ⟨rfl, rfl, fg68, t67, rfl, (by omega), (by unfold P_X12_part; by_cases zz : t67 = -4 <;> first | exact Or.inl ⟨by omega, hs69⟩ | exact Or.inr (Or.inl ⟨by omega, hs69⟩) | exact Or.inr (Or.inr (Or.inl ⟨by omega, hs69⟩)))⟩
    · replace c9 : t7 = 0 := by first | exact c9 | exact Int.not_le.mp c9 | exact Int.not_lt.mp c9 | exact Decidable.not_not.mp c9
      show jGo E l 105 229 229 _ 18 [.inr (.inr (.inl 176)), .inl a1, .inl a2, .inl a3, .inl a4, .inl a5, .inr (.inr (.inr ()))] [] 229 jr0 h
      refine jGo_blk qX12_part_18 ?_
      refine st_cv (na := 1) (st := [.inl (-1), .inr (.inr (.inl 176))]) jo_176 rfl rfl rfl (c_X12_refuse (-1) h (by omega)) rfl ?_
      rintro _ _ g71 ⟨rfl, ft70, t70, rfl, ht70, zt70⟩ kt70
      replace kt70 : -2147483648 ≤ t70 ∧ t70 ≤ 2147483647 := kt70
      replace ht70 : -7 ≤ t70 ∧ t70 ≤ -1 := ht70
      have fg71 : jfr w_X12_part h g71 := jfr_tr f0 ft70 ws_X12_refuse__X12_part
      replace zt70 : t70 = (-1 : Int) := zt70
      have hs72 : ∀ i k : Int, ¬ i = 219 → g71 i k = h i k := fun i k p1 => (ft70 i k (by first | exact p1 | (unfold w_X12_refuse; omega)))
      exact st_r0 (ls := []) ⟨rfl, rfl, fg71, t70, rfl, (by omega), (by unfold P_X12_part; by_cases zz : t70 = -4 <;> first | exact Or.inl ⟨by omega, hs72⟩ | exact Or.inr (Or.inl ⟨by omega, hs72⟩) | exact Or.inr (Or.inr (Or.inl ⟨by omega, hs72⟩)))⟩
