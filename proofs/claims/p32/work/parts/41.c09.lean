def w_X12_hull (i k : Int) : Prop := (189 ≤ i ∧ i ≤ 193) ∨ (i = 198) ∨ (i = 219) ∨ (i = 176 ∧ k = 14)
def k_X12_hull (a1 : Int) (a2 : Int) (a3 : Int) (h : JH) (v : Option JV) (r' g : JH) : Prop := r' = jr0 ∧ jfr w_X12_hull h g ∧ ∃ x : Int, v = some (.inl x) ∧ (-7 ≤ x ∧ x ≤ 15) ∧ ((P_X12_hull a1 a2 a3 x h g) ∧ jRx (x < 0) h g)
set_option maxHeartbeats 4000000 in
theorem c_X12_hull {E : JE} {l : Launch} (a1 : Int) (a2 : Int) (a3 : Int) (h : JH) : jMt E l 59 [.inr (.inr (.inl 176)), .inl a1, .inl a2, .inl a3] 229 jr0 h (k_X12_hull a1 a2 a3 h) := by
  refine jMt0 (nL := 4) (ls := [.inr (.inr (.inl 176)), .inl a1, .inl a2, .inl a3]) (by decide +kernel) (by decide +kernel) (by decide +kernel) rfl rfl ?_
  have f0 : jfr w_X12_hull h h := jfr_rf _ _
  refine jGo_blk qX12_hull_0 ?_
  refine st_cs (na := 3) (st := [.inl 2, .inl 0, .inl a1]) rfl rfl rfl (c_X12_in a1 0 2 h) rfl ?_
  rintro _ _ _ ⟨rfl, rfl, t1, rfl, ht1, zt1⟩ kt1
  replace kt1 : -2147483648 ≤ t1 ∧ t1 ≤ 2147483647 := kt1
  replace ht1 : 0 ≤ t1 ∧ t1 ≤ 1 := ht1
  replace zt1 : (t1 = 1 ∧ (0 : Int) ≤ a1 ∧ a1 ≤ (2 : Int)) ∨ (t1 = 0 ∧ ¬ ((0 : Int) ≤ a1 ∧ a1 ≤ (2 : Int))) := zt1
  refine And.intro (fun c3 => ?_) (fun c3 => ?_)
  · replace c3 : ¬ t1 = 0 := c3
    show jGo E l 59 229 229 _ 15 [.inr (.inr (.inl 176)), .inl a1, .inl a2, .inl a3] [] 229 jr0 h
    refine jGo_blk qX12_hull_15 ?_
    refine And.intro (fun c4 => ?_) (fun c4 => ?_)
    · replace c4 : a2 < 0 := c4
      show jGo E l 59 229 229 _ 23 [.inr (.inr (.inl 176)), .inl a1, .inl a2, .inl a3] [] 229 jr0 h
      refine jGo_blk qX12_hull_23 ?_
      refine st_cv (na := 1) (st := [.inl (-4), .inr (.inr (.inl 176))]) jo_176 rfl rfl rfl (c_X12_refuse (-4) h (by omega)) rfl ?_
      rintro _ _ g6 ⟨rfl, ft5, t5, rfl, ht5, zt5⟩ kt5
      replace kt5 : -2147483648 ≤ t5 ∧ t5 ≤ 2147483647 := kt5
      replace ht5 : -7 ≤ t5 ∧ t5 ≤ -1 := ht5
      have fg6 : jfr w_X12_hull h g6 := jfr_tr f0 ft5 (fun i k q => by unfold w_X12_refuse at q; unfold w_X12_hull; omega)
      replace zt5 : t5 = (-4 : Int) := zt5
      have e7 : g6 176 14 = h 176 14 := ft5 176 14 (by unfold w_X12_refuse; omega)
      have hs8 : ∀ i k : Int, ¬ i = 219 → g6 i k = h i k := fun i k p1 => (ft5 i k (by unfold w_X12_refuse; omega))
      exact st_r0 (ls := []) ⟨rfl, rfl, fg6, t5, rfl, (by omega), (by refine ⟨by unfold P_X12_hull; by_cases zz : t5 = -4 <;> first | exact Or.inl ⟨by omega, hs8⟩ | exact Or.inr (Or.inl ⟨by omega, hs8⟩) | exact Or.inr (Or.inr (Or.inl ⟨by omega, hs8⟩)), fun _ i k q9 => ?_⟩; unfold jma at q9; exact (ft5 i k (by unfold w_X12_refuse; omega)))⟩
    · replace c4 : 0 ≤ a2 := by first | exact c4 | exact Int.not_le.mp c4 | exact Int.not_lt.mp c4 | exact Decidable.not_not.mp c4
      refine And.intro (fun c9 => ?_) (fun c9 => ?_)
      · replace c9 : 0 ≤ a3 := c9
        show jGo E l 59 229 229 _ 30 [.inr (.inr (.inl 176)), .inl a1, .inl a2, .inl a3] [] 229 jr0 h
        refine jGo_blk qX12_hull_30 ?_
        refine And.intro (fun c10 => ?_) (fun c10 => ?_)
        · replace c10 : 99 < a2 := c10
          show jGo E l 59 229 229 _ 52 [.inr (.inr (.inl 176)), .inl a1, .inl a2, .inl a3] [] 229 jr0 h
          refine jGo_blk qX12_hull_52 ?_
          refine st_cv (na := 1) (st := [.inl (-6), .inr (.inr (.inl 176))]) jo_176 rfl rfl rfl (c_X12_refuse (-6) h (by omega)) rfl ?_
          rintro _ _ g12 ⟨rfl, ft11, t11, rfl, ht11, zt11⟩ kt11
          replace kt11 : -2147483648 ≤ t11 ∧ t11 ≤ 2147483647 := kt11
          replace ht11 : -7 ≤ t11 ∧ t11 ≤ -1 := ht11
          have fg12 : jfr w_X12_hull h g12 := jfr_tr f0 ft11 (fun i k q => by unfold w_X12_refuse at q; unfold w_X12_hull; omega)
          replace zt11 : t11 = (-6 : Int) := zt11
          have e13 : g12 176 14 = h 176 14 := ft11 176 14 (by unfold w_X12_refuse; omega)
          have hs14 : ∀ i k : Int, ¬ i = 219 → g12 i k = h i k := fun i k p1 => (ft11 i k (by unfold w_X12_refuse; omega))
          exact st_r0 (ls := []) ⟨rfl, rfl, fg12, t11, rfl, (by omega), (by refine ⟨by unfold P_X12_hull; by_cases zz : t11 = -4 <;> first | exact Or.inl ⟨by omega, hs14⟩ | exact Or.inr (Or.inl ⟨by omega, hs14⟩) | exact Or.inr (Or.inr (Or.inl ⟨by omega, hs14⟩)), fun _ i k q9 => ?_⟩; unfold jma at q9; exact (ft11 i k (by unfold w_X12_refuse; omega)))⟩
        · replace c10 : a2 ≤ 99 := by first | exact c10 | exact Int.not_le.mp c10 | exact Int.not_lt.mp c10 | exact Decidable.not_not.mp c10
          refine And.intro (fun c15 => ?_) (fun c15 => ?_)
          · replace c15 : 2000 < a3 := c15
            show jGo E l 59 229 229 _ 52 [.inr (.inr (.inl 176)), .inl a1, .inl a2, .inl a3] [] 229 jr0 h
            refine jGo_blk qX12_hull_52 ?_
            refine st_cv (na := 1) (st := [.inl (-6), .inr (.inr (.inl 176))]) jo_176 rfl rfl rfl (c_X12_refuse (-6) h (by omega)) rfl ?_
            rintro _ _ g17 ⟨rfl, ft16, t16, rfl, ht16, zt16⟩ kt16
            replace kt16 : -2147483648 ≤ t16 ∧ t16 ≤ 2147483647 := kt16
            replace ht16 : -7 ≤ t16 ∧ t16 ≤ -1 := ht16
            have fg17 : jfr w_X12_hull h g17 := jfr_tr f0 ft16 (fun i k q => by unfold w_X12_refuse at q; unfold w_X12_hull; omega)
            replace zt16 : t16 = (-6 : Int) := zt16
            have e18 : g17 176 14 = h 176 14 := ft16 176 14 (by unfold w_X12_refuse; omega)
            have hs19 : ∀ i k : Int, ¬ i = 219 → g17 i k = h i k := fun i k p1 => (ft16 i k (by unfold w_X12_refuse; omega))
            exact st_r0 (ls := []) ⟨rfl, rfl, fg17, t16, rfl, (by omega), (by refine ⟨by unfold P_X12_hull; by_cases zz : t16 = -4 <;> first | exact Or.inl ⟨by omega, hs19⟩ | exact Or.inr (Or.inl ⟨by omega, hs19⟩) | exact Or.inr (Or.inr (Or.inl ⟨by omega, hs19⟩)), fun _ i k q9 => ?_⟩; unfold jma at q9; exact (ft16 i k (by unfold w_X12_refuse; omega)))⟩
          · replace c15 : a3 ≤ 2000 := by first | exact c15 | exact Int.not_le.mp c15 | exact Int.not_lt.mp c15 | exact Decidable.not_not.mp c15
            refine st_gi jo_176 (fun v20 ev20 b21 => ?_)
            replace ev20 : v20 = h 176 14 := ev20
            replace b21 := (jbf_12_14 jo_176 _).1 b21
            refine And.intro (fun c22 => ?_) (fun c22 => ?_)
            · replace c22 : ¬ v20 = 16 := c22
              show jGo E l 59 229 229 _ 59 [.inr (.inr (.inl 176)), .inl a1, .inl a2, .inl a3] [] 229 jr0 h
              refine jGo_blk qX12_hull_59 ?_
              refine st_gr jo_176 jr_176_15 ?_
              refine st_gi jo_176 (fun v23 ev23 b24 => ?_)
              replace ev23 : v23 = h 176 14 := ev23
              replace b24 := (jbf_12_14 jo_176 _).1 b24
              refine st_si jo_189 (show 0 ≤ v23 by omega) (show v23 < ((16 : Nat) : Int) by omega) (fun hx => (jba_189 _ _).2 (show 0 ≤ a1 ∧ a1 ≤ 2 by omega)) (fun g25 eg25 => ?_)
              replace eg25 : g25 = jup h 189 v23 a1 := eg25
              have fg25 : jfr w_X12_hull h g25 := jfr_up f0 eg25 (by unfold w_X12_hull; omega)
              have e26 : g25 189 v23 = a1 := jup_s eg25
              refine st_gr jo_176 jr_176_16 ?_
              refine st_gi jo_176 (fun v27 ev27 b28 => ?_)
              replace ev27 : v27 = g25 176 14 := ev27
              replace b28 := (jbf_12_14 jo_176 _).1 b28
              have e29 : g25 176 14 = h 176 14 := jup_o eg25 (by omega)
              refine st_si jo_190 (show 0 ≤ v27 by omega) (show v27 < ((16 : Nat) : Int) by omega) (fun hx => (jba_190 _ _).2 (show 0 ≤ a2 ∧ a2 ≤ 99 by omega)) (fun g30 eg30 => ?_)
              replace eg30 : g30 = jup g25 190 v27 a2 := eg30
              have fg30 : jfr w_X12_hull h g30 := jfr_up fg25 eg30 (by unfold w_X12_hull; omega)
              have e31 : g30 190 v27 = a2 := jup_s eg30
              refine st_gr jo_176 jr_176_17 ?_
              refine st_gi jo_176 (fun v32 ev32 b33 => ?_)
              replace ev32 : v32 = g30 176 14 := ev32
              replace b33 := (jbf_12_14 jo_176 _).1 b33
              have e34 : g30 176 14 = g25 176 14 := jup_o eg30 (by omega)
              refine st_si jo_191 (show 0 ≤ v32 by omega) (show v32 < ((16 : Nat) : Int) by omega) (fun hx => (jba_191 _ _).2 (show 0 ≤ a3 ∧ a3 ≤ 2000 by omega)) (fun g35 eg35 => ?_)
              replace eg35 : g35 = jup g30 191 v32 a3 := eg35
              have fg35 : jfr w_X12_hull h g35 := jfr_up fg30 eg35 (by unfold w_X12_hull; omega)
              have e36 : g35 191 v32 = a3 := jup_s eg35
              refine st_gr jo_176 jr_176_18 ?_
              refine st_gi jo_176 (fun v37 ev37 b38 => ?_)
              replace ev37 : v37 = g35 176 14 := ev37
              replace b38 := (jbf_12_14 jo_176 _).1 b38
              have e39 : g35 176 14 = g30 176 14 := jup_o eg35 (by omega)
              refine st_si jo_192 (show 0 ≤ v37 by omega) (show v37 < ((16 : Nat) : Int) by omega) (fun hx => (jba_192 _ _).2 (show 0 ≤ 0 ∧ 0 ≤ 3 by omega)) (fun g40 eg40 => ?_)
              replace eg40 : g40 = jup g35 192 v37 0 := eg40
              have fg40 : jfr w_X12_hull h g40 := jfr_up fg35 eg40 (by unfold w_X12_hull; omega)
              have e41 : g40 192 v37 = 0 := jup_s eg40
              refine st_gr jo_176 jr_176_19 ?_
              refine st_gi jo_176 (fun v42 ev42 b43 => ?_)
              replace ev42 : v42 = g40 176 14 := ev42
              replace b43 := (jbf_12_14 jo_176 _).1 b43
              have e44 : g40 176 14 = g35 176 14 := jup_o eg40 (by omega)
              refine st_si jo_193 (show 0 ≤ v42 by omega) (show v42 < ((16 : Nat) : Int) by omega) (fun hx => (jba_193 _ _).2 (show -9 ≤ (-9) ∧ (-9) ≤ 5 by omega)) (fun g45 eg45 => ?_)
              replace eg45 : g45 = jup g40 193 v42 (-9) := eg45
              have fg45 : jfr w_X12_hull h g45 := jfr_up fg40 eg45 (by unfold w_X12_hull; omega)
              have e46 : g45 193 v42 = (-9) := jup_s eg45
              refine st_gr jo_176 jr_176_24 ?_
              refine st_gi jo_176 (fun v47 ev47 b48 => ?_)
              replace ev47 : v47 = g45 176 14 := ev47
              replace b48 := (jbf_12_14 jo_176 _).1 b48
              have e49 : g45 176 14 = g40 176 14 := jup_o eg45 (by omega)
              refine st_si jo_198 (show 0 ≤ v47 by omega) (show v47 < ((16 : Nat) : Int) by omega) (fun hx => (jba_198 _ _).2 hx) (fun g50 eg50 => ?_)
              replace eg50 : g50 = jup g45 198 v47 (-9) := eg50
              have fg50 : jfr w_X12_hull h g50 := jfr_up fg45 eg50 (by unfold w_X12_hull; omega)
              have e51 : g50 198 v47 = (-9) := jup_s eg50
              refine st_gi jo_176 (fun v52 ev52 b53 => ?_)
              replace ev52 : v52 = g50 176 14 := ev52
              replace b53 := (jbf_12_14 jo_176 _).1 b53
              have e54 : g50 176 14 = g45 176 14 := jup_o eg50 (by omega)
              have e55 : jw32 (v52 + 1) = v52 + 1 := j32e (by omega) (by omega)
              refine st_pi jo_176 (fun hx => (jbf_12_14 jo_176 _).2 (show 0 ≤ jw32 (v52 + 1) ∧ jw32 (v52 + 1) ≤ 16 by omega)) (fun g56 eg56 => ?_)
              replace eg56 : g56 = jup g50 176 14 (jw32 (v52 + 1)) := eg56
              have fg56 : jfr w_X12_hull h g56 := jfr_up fg50 eg56 (by unfold w_X12_hull; omega)
              have e57 : g56 176 14 = jw32 (v52 + 1) := jup_s eg56
              refine st_gi jo_176 (fun v58 ev58 b59 => ?_)
              replace ev58 : v58 = g56 176 14 := ev58
              replace b59 := (jbf_12_14 jo_176 _).1 b59
              have e60 : jw32 (v58 - 1) = v58 - 1 := j32e (by omega) (by omega)
              have e61 : g25 176 14 = h 176 14 := (jup_o eg25 (by omega))
              have e62 : g30 176 14 = h 176 14 := ((jup_o eg30 (by omega)).trans (jup_o eg25 (by omega)))
              have e63 : g35 176 14 = h 176 14 := ((jup_o eg35 (by omega)).trans ((jup_o eg30 (by omega)).trans (jup_o eg25 (by omega))))
              have e64 : g40 176 14 = h 176 14 := ((jup_o eg40 (by omega)).trans ((jup_o eg35 (by omega)).trans ((jup_o eg30 (by omega)).trans (jup_o eg25 (by omega)))))
              have e65 : g45 176 14 = h 176 14 := ((jup_o eg45 (by omega)).trans ((jup_o eg40 (by omega)).trans ((jup_o eg35 (by omega)).trans ((jup_o eg30 (by omega)).trans (jup_o eg25 (by omega))))))
              have e66 : g50 176 14 = h 176 14 := ((jup_o eg50 (by omega)).trans ((jup_o eg45 (by omega)).trans ((jup_o eg40 (by omega)).trans ((jup_o eg35 (by omega)).trans ((jup_o eg30 (by omega)).trans (jup_o eg25 (by omega)))))))
              have rv67 : v20 = h 176 14 := by omega
              subst rv67
              have rv68 : v23 = h 176 14 := by omega
              subst rv68
              have rv69 : v27 = h 176 14 := by omega
              subst rv69
              have rv70 : v32 = h 176 14 := by omega
              subst rv70
              have rv71 : v37 = h 176 14 := by omega
              subst rv71
              have rv72 : v42 = h 176 14 := by omega
              subst rv72
              have rv73 : v47 = h 176 14 := by omega
              subst rv73
              have rv74 : v52 = h 176 14 := by omega
              subst rv74
              have hq75 : ∀ i k : Int, ¬ i = 219 → g56 i k = (jup (jup (jup (jup (jup (jup (jup h 189 (h 176 14) a1) 190 (h 176 14) a2) 191 (h 176 14) a3) 192 (h 176 14) 0) 193 (h 176 14) (-9)) 198 (h 176 14) (-9)) 176 14 (h 176 14 + 1)) i k := fun i k p1 => ((congrFun (congrFun eg56 i) k).trans (jup_cc (by omega) (by omega) (by first | rfl | omega | exact congrArg jw32 (by omega)) ((congrFun (congrFun eg50 i) k).trans (jup_cc (by omega) (by omega) (by first | rfl | omega | exact congrArg jw32 (by omega)) ((congrFun (congrFun eg45 i) k).trans (jup_cc (by omega) (by omega) (by first | rfl | omega | exact congrArg jw32 (by omega)) ((congrFun (congrFun eg40 i) k).trans (jup_cc (by omega) (by omega) (by first | rfl | omega | exact congrArg jw32 (by omega)) ((congrFun (congrFun eg35 i) k).trans (jup_cc (by omega) (by omega) (by first | rfl | omega | exact congrArg jw32 (by omega)) ((congrFun (congrFun eg30 i) k).trans (jup_cc (by omega) (by omega) (by first | rfl | omega | exact congrArg jw32 (by omega)) ((congrFun (congrFun eg25 i) k).trans (jup_cc (by omega) (by omega) (by first | rfl | omega | exact congrArg jw32 (by omega)) rfl))))))))))))))
              exact st_r0 (ls := []) ⟨rfl, rfl, fg56, jw32 (v58 - 1), rfl, (by omega), (by refine ⟨by unfold P_X12_hull; exact Or.inr (Or.inr (Or.inr ⟨by omega, by omega, hq75⟩)), fun b9 => absurd b9 (by omega)⟩)⟩
            · replace c22 : v20 = 16 := by first | exact c22 | exact Int.not_le.mp c22 | exact Int.not_lt.mp c22 | exact Decidable.not_not.mp c22
              show jGo E l 59 229 229 _ 52 [.inr (.inr (.inl 176)), .inl a1, .inl a2, .inl a3] [] 229 jr0 h
              refine jGo_blk qX12_hull_52 ?_
              refine st_cv (na := 1) (st := [.inl (-6), .inr (.inr (.inl 176))]) jo_176 rfl rfl rfl (c_X12_refuse (-6) h (by omega)) rfl ?_
              rintro _ _ g77 ⟨rfl, ft76, t76, rfl, ht76, zt76⟩ kt76
              replace kt76 : -2147483648 ≤ t76 ∧ t76 ≤ 2147483647 := kt76
              replace ht76 : -7 ≤ t76 ∧ t76 ≤ -1 := ht76
              have fg77 : jfr w_X12_hull h g77 := jfr_tr f0 ft76 (fun i k q => by unfold w_X12_refuse at q; unfold w_X12_hull; omega)
              replace zt76 : t76 = (-6 : Int) := zt76
              have e78 : g77 176 14 = h 176 14 := ft76 176 14 (by unfold w_X12_refuse; omega)
              have rv79 : v20 = h 176 14 := by omega
              subst rv79
              have hs80 : ∀ i k : Int, ¬ i = 219 → g77 i k = h i k := fun i k p1 => (ft76 i k (by unfold w_X12_refuse; omega))
              exact st_r0 (ls := []) ⟨rfl, rfl, fg77, t76, rfl, (by omega), (by refine ⟨by unfold P_X12_hull; by_cases zz : t76 = -4 <;> first | exact Or.inl ⟨by omega, hs80⟩ | exact Or.inr (Or.inl ⟨by omega, hs80⟩) | exact Or.inr (Or.inr (Or.inl ⟨by omega, hs80⟩)), fun _ i k q9 => ?_⟩; unfold jma at q9; exact (ft76 i k (by unfold w_X12_refuse; omega)))⟩
      · replace c9 : a3 < 0 := by first | exact c9 | exact Int.not_le.mp c9 | exact Int.not_lt.mp c9 | exact Decidable.not_not.mp c9
        show jGo E l 59 229 229 _ 23 [.inr (.inr (.inl 176)), .inl a1, .inl a2, .inl a3] [] 229 jr0 h
        refine jGo_blk qX12_hull_23 ?_
        refine st_cv (na := 1) (st := [.inl (-4), .inr (.inr (.inl 176))]) jo_176 rfl rfl rfl (c_X12_refuse (-4) h (by omega)) rfl ?_
        rintro _ _ g82 ⟨rfl, ft81, t81, rfl, ht81, zt81⟩ kt81
        replace kt81 : -2147483648 ≤ t81 ∧ t81 ≤ 2147483647 := kt81
        replace ht81 : -7 ≤ t81 ∧ t81 ≤ -1 := ht81
        have fg82 : jfr w_X12_hull h g82 := jfr_tr f0 ft81 (fun i k q => by unfold w_X12_refuse at q; unfold w_X12_hull; omega)
        replace zt81 : t81 = (-4 : Int) := zt81
        have e83 : g82 176 14 = h 176 14 := ft81 176 14 (by unfold w_X12_refuse; omega)
        have hs84 : ∀ i k : Int, ¬ i = 219 → g82 i k = h i k := fun i k p1 => (ft81 i k (by unfold w_X12_refuse; omega))
        exact st_r0 (ls := []) ⟨rfl, rfl, fg82, t81, rfl, (by omega), (by refine ⟨by unfold P_X12_hull; by_cases zz : t81 = -4 <;> first | exact Or.inl ⟨by omega, hs84⟩ | exact Or.inr (Or.inl ⟨by omega, hs84⟩) | exact Or.inr (Or.inr (Or.inl ⟨by omega, hs84⟩)), fun _ i k q9 => ?_⟩; unfold jma at q9; exact (ft81 i k (by unfold w_X12_refuse; omega)))⟩
  · replace c3 : t1 = 0 := by first | exact c3 | exact Int.not_le.mp c3 | exact Int.not_lt.mp c3 | exact Decidable.not_not.mp c3
    refine st_cv (na := 1) (st := [.inl (-1), .inr (.inr (.inl 176))]) jo_176 rfl rfl rfl (c_X12_refuse (-1) h (by omega)) rfl ?_
    rintro _ _ g86 ⟨rfl, ft85, t85, rfl, ht85, zt85⟩ kt85
    replace kt85 : -2147483648 ≤ t85 ∧ t85 ≤ 2147483647 := kt85
    replace ht85 : -7 ≤ t85 ∧ t85 ≤ -1 := ht85
    have fg86 : jfr w_X12_hull h g86 := jfr_tr f0 ft85 (fun i k q => by unfold w_X12_refuse at q; unfold w_X12_hull; omega)
    replace zt85 : t85 = (-1 : Int) := zt85
    have e87 : g86 176 14 = h 176 14 := ft85 176 14 (by unfold w_X12_refuse; omega)
    have hs88 : ∀ i k : Int, ¬ i = 219 → g86 i k = h i k := fun i k p1 => (ft85 i k (by unfold w_X12_refuse; omega))
    exact st_r0 (ls := []) ⟨rfl, rfl, fg86, t85, rfl, (by omega), (by refine ⟨by unfold P_X12_hull; by_cases zz : t85 = -4 <;> first | exact Or.inl ⟨by omega, hs88⟩ | exact Or.inr (Or.inl ⟨by omega, hs88⟩) | exact Or.inr (Or.inr (Or.inl ⟨by omega, hs88⟩)), fun _ i k q9 => ?_⟩; unfold jma at q9; exact (ft85 i k (by unfold w_X12_refuse; omega)))⟩

def k_X11_isHull (a1 : Int) (h : JH) (v : Option JV) (r' g : JH) : Prop := r' = jr0 ∧ h = g ∧ ∃ x : Int, v = some (.inl x) ∧ (0 ≤ x ∧ x ≤ 1) ∧ ((x = 1 ∧ 0 ≤ a1 ∧ a1 < h 29 4 ∧ h 29 4 ≤ 16) ∨ (x = 0 ∧ ¬ (0 ≤ a1 ∧ a1 < h 29 4)))
set_option maxHeartbeats 4000000 in
theorem c_X11_isHull {E : JE} {l : Launch} (a1 : Int) (h : JH) : jMt E l 60 [.inr (.inr (.inl 0)), .inl a1] 229 jr0 h (k_X11_isHull a1 h) := by
  refine jMt0 (nL := 2) (ls := [.inr (.inr (.inl 0)), .inl a1]) (by decide +kernel) (by decide +kernel) (by decide +kernel) rfl rfl ?_
  refine jGo_blk qX11_isHull_0 ?_
  refine st_gr jo_0 jr_0_5 ?_
  refine st_gi jo_29 (fun v1 ev1 b2 => ?_)
  replace ev1 : v1 = h 29 4 := ev1
  replace b2 := (jbf_10_4 jo_29 _).1 b2
  refine st_cs (na := 2) (st := [.inl v1, .inl a1]) rfl rfl rfl (c_X11_within a1 v1 h) rfl ?_
  rintro _ _ _ ⟨rfl, rfl, t3, rfl, ht3, zt3⟩ kt3
  replace kt3 : -2147483648 ≤ t3 ∧ t3 ≤ 2147483647 := kt3
  replace ht3 : 0 ≤ t3 ∧ t3 ≤ 1 := ht3
  replace zt3 : (t3 = 1 ∧ 0 ≤ a1 ∧ a1 < v1) ∨ (t3 = 0 ∧ ¬ (0 ≤ a1 ∧ a1 < v1)) := zt3
  exact st_r1 (ls := []) (show (t3 : Int) = 0 ∨ (t3 : Int) = 1 by omega) ⟨rfl, rfl, rfl, t3, rfl, (by omega), (by omega)⟩

def k_X4_isUnderWay (a0 : Int) (h : JH) (v : Option JV) (r' g : JH) : Prop := r' = jr0 ∧ h = g ∧ ∃ x : Int, v = some (.inl x) ∧ (0 ≤ x ∧ x ≤ 1) ∧ ((x = 1 ∧ (h a0 3 = 0 ∨ h a0 3 = 1)) ∨ (x = 0 ∧ ¬ (h a0 3 = 0 ∨ h a0 3 = 1)))
set_option maxHeartbeats 4000000 in
theorem c_X4_isUnderWay {E : JE} {l : Launch} (a0 : Int) (h : JH) (ha0 : jHl a0) : jMt E l 61 [.inr (.inr (.inl a0))] 229 jr0 h (k_X4_isUnderWay a0 h) := by
  refine jMt0 (nL := 1) (ls := [.inr (.inr (.inl a0))]) (by decide +kernel) (by decide +kernel) (by decide +kernel) rfl rfl ?_
  refine jGo_blk qX4_isUnderWay_0 ?_
  refine st_gi ha0.1 (fun v1 ev1 b2 => ?_)
  replace ev1 : v1 = h a0 3 := ev1
  replace b2 := (jbf_4_3 ha0.1 _).1 b2
  refine And.intro (fun c3 => ?_) (fun c3 => ?_)
  · replace c3 : v1 = 0 := c3
    show jGo E l 61 229 229 _ 15 [.inr (.inr (.inl a0))] [] 229 jr0 h
    refine jGo_blk qX4_isUnderWay_15 ?_
    show jGo E l 61 229 229 _ 20 [.inr (.inr (.inl a0))] [.inl 1] 229 jr0 h
    refine jGo_blk qX4_isUnderWay_20 ?_
    exact st_r1 (ls := []) (show (1 : Int) = 0 ∨ (1 : Int) = 1 by omega) ⟨rfl, rfl, rfl, 1, rfl, (by omega), (by omega)⟩
  · replace c3 : ¬ v1 = 0 := by first | exact c3 | exact Int.not_le.mp c3 | exact Int.not_lt.mp c3 | exact Decidable.not_not.mp c3
    refine st_gi ha0.1 (fun v4 ev4 b5 => ?_)
    replace ev4 : v4 = h a0 3 := ev4
    replace b5 := (jbf_4_3 ha0.1 _).1 b5
    refine And.intro (fun c6 => ?_) (fun c6 => ?_)
    · replace c6 : ¬ v4 = 1 := c6
      show jGo E l 61 229 229 _ 19 [.inr (.inr (.inl a0))] [] 229 jr0 h
      refine jGo_blk qX4_isUnderWay_19 ?_
      show jGo E l 61 229 229 _ 20 [.inr (.inr (.inl a0))] [.inl 0] 229 jr0 h
      refine jGo_blk qX4_isUnderWay_20 ?_
      exact st_r1 (ls := []) (show (0 : Int) = 0 ∨ (0 : Int) = 1 by omega) ⟨rfl, rfl, rfl, 0, rfl, (by omega), (by omega)⟩
    · replace c6 : v4 = 1 := by first | exact c6 | exact Int.not_le.mp c6 | exact Int.not_lt.mp c6 | exact Decidable.not_not.mp c6
      show jGo E l 61 229 229 _ 15 [.inr (.inr (.inl a0))] [] 229 jr0 h
      refine jGo_blk qX4_isUnderWay_15 ?_
      show jGo E l 61 229 229 _ 20 [.inr (.inr (.inl a0))] [.inl 1] 229 jr0 h
      refine jGo_blk qX4_isUnderWay_20 ?_
      exact st_r1 (ls := []) (show (1 : Int) = 0 ∨ (1 : Int) = 1 by omega) ⟨rfl, rfl, rfl, 1, rfl, (by omega), (by omega)⟩

def w_X11_priority (i k : Int) : Prop := (i = 1) ∨ (36 ≤ i ∧ i ≤ 83) ∨ (i = 111 ∧ 9 ≤ k ∧ k ≤ 11)
def k_X11_priority (a1 : Int) (a2 : Int) (h : JH) (v : Option JV) (r' g : JH) : Prop := r' = jr0 ∧ jfr w_X11_priority h g ∧ ∃ x : Int, v = some (.inl x) ∧ (-7 ≤ x ∧ x ≤ 99) ∧ ((P_X11_priority a1 a2 x h g) ∧ jFg (x < 0) h g)
set_option maxHeartbeats 4000000 in
theorem c_X11_priority {E : JE} {l : Launch} (a1 : Int) (a2 : Int) (h : JH) : jMt E l 62 [.inr (.inr (.inl 0)), .inl a1, .inl a2] 229 jr0 h (k_X11_priority a1 a2 h) := by
  refine jMt0 (nL := 5) (ls := [.inr (.inr (.inl 0)), .inl a1, .inl a2, .inr (.inr (.inr ())), .inr (.inr (.inr ()))]) (by decide +kernel) (by decide +kernel) (by decide +kernel) rfl rfl ?_
  have f0 : jfr w_X11_priority h h := jfr_rf _ _
  refine jGo_blk qX11_priority_0 ?_
  refine st_cv (na := 1) (st := [.inl a1, .inr (.inr (.inl 0))]) jo_0 rfl rfl rfl (c_X11_isHull a1 h) rfl ?_
  rintro _ _ _ ⟨rfl, rfl, t1, rfl, ht1, zt1⟩ kt1
  replace kt1 : -2147483648 ≤ t1 ∧ t1 ≤ 2147483647 := kt1
  replace ht1 : 0 ≤ t1 ∧ t1 ≤ 1 := ht1
  replace zt1 : (t1 = 1 ∧ 0 ≤ a1 ∧ a1 < h 29 4 ∧ h 29 4 ≤ 16) ∨ (t1 = 0 ∧ ¬ (0 ≤ a1 ∧ a1 < h 29 4)) := zt1
  refine And.intro (fun c3 => ?_) (fun c3 => ?_)
  · replace c3 : ¬ t1 = 0 := c3
    show jGo E l 62 229 229 _ 12 [.inr (.inr (.inl 0)), .inl a1, .inl a2, .inr (.inr (.inr ())), .inr (.inr (.inr ()))] [] 229 jr0 h
    refine jGo_blk qX11_priority_12 ?_
    refine st_gr jo_0 jr_0_5 ?_
    refine st_gr jo_29 jr_29_3 ?_
    refine st_ar jo_33 (by decide) (show 0 ≤ a1 by omega) (show a1 < ((16 : Nat) : Int) by omega) (fun u4 eu4 => ?_)
    replace eu4 : u4 = jr0 33 a1 := eu4
    have qu4 : u4 = 36 + 3 * a1 := eu4.trans (jhul_33 a1 (by omega) (by omega)).1
    have hu4 : jHl u4 := by rw [eu4]; exact (jhul_33 a1 (by omega) (by omega)).2
    refine st_cv (na := 0) (st := [.inr (.inr (.inl u4))]) hu4.1 rfl rfl rfl (c_X4_isUnderWay u4 h hu4) rfl ?_
    rintro _ _ _ ⟨rfl, rfl, t5, rfl, ht5, zt5⟩ kt5
    replace kt5 : -2147483648 ≤ t5 ∧ t5 ≤ 2147483647 := kt5
    replace ht5 : 0 ≤ t5 ∧ t5 ≤ 1 := ht5
    replace zt5 : (t5 = 1 ∧ (h u4 3 = 0 ∨ h u4 3 = 1)) ∨ (t5 = 0 ∧ ¬ (h u4 3 = 0 ∨ h u4 3 = 1)) := zt5
    refine And.intro (fun c7 => ?_) (fun c7 => ?_)
    · replace c7 : ¬ t5 = 0 := c7
      show jGo E l 62 229 229 _ 32 [.inr (.inr (.inl 0)), .inl a1, .inl a2, .inr (.inr (.inr ())), .inr (.inr (.inr ()))] [] 229 jr0 h
      refine jGo_blk qX11_priority_32 ?_
      refine st_cs (na := 3) (st := [.inl 99, .inl 0, .inl a2]) rfl rfl rfl (c_X11_outside a2 0 99 h) rfl ?_
      rintro _ _ _ ⟨rfl, rfl, t8, rfl, ht8, zt8⟩ kt8
      replace kt8 : -2147483648 ≤ t8 ∧ t8 ≤ 2147483647 := kt8
      replace ht8 : -6 ≤ t8 ∧ t8 ≤ 0 := ht8
      replace zt8 : (t8 = -4 ∧ a2 < (0 : Int)) ∨ (t8 = -6 ∧ (0 : Int) ≤ a2 ∧ (99 : Int) < a2) ∨ (t8 = 0 ∧ (0 : Int) ≤ a2 ∧ a2 ≤ (99 : Int)) := zt8
      show jGo E l 62 229 229 _ 39 [.inr (.inr (.inl 0)), .inl a1, .inl a2, .inr (.inr (.inr ())), .inr (.inr (.inr ()))] [.inl t8] 229 jr0 h
      refine jGo_blk qX11_priority_39 ?_
      refine And.intro (fun c10 => ?_) (fun c10 => ?_)
      · replace c10 : t8 = 0 := c10
        show jGo E l 62 229 229 _ 50 [.inr (.inr (.inl 0)), .inl a1, .inl a2, .inl t8, .inr (.inr (.inr ()))] [] 229 jr0 h
        refine jGo_blk qX11_priority_50 ?_
        refine st_gr jo_0 jr_0_11 ?_
        refine st_cv (na := 0) (st := [.inr (.inr (.inl 111))]) jo_111 rfl rfl rfl (c_X7_forget h) rfl ?_
        rintro _ _ g12 ⟨rfl, ft11, rfl, zt11⟩ kt11
        have fg12 : jfr w_X11_priority h g12 := jfr_tr f0 ft11 (fun i k q => by unfold w_X7_forget at q; unfold w_X11_priority; omega)
        replace zt11 : g12 111 9 = 0 ∧ g12 111 10 = 0 ∧ g12 111 11 = 0 := zt11
        refine st_gr jo_0 jr_0_5 ?_
        refine st_gr jo_29 jr_29_3 ?_
        refine st_ar jo_33 (by decide) (show 0 ≤ a1 by omega) (show a1 < ((16 : Nat) : Int) by omega) (fun u13 eu13 => ?_)
        replace eu13 : u13 = jr0 33 a1 := eu13
        have qu13 : u13 = 36 + 3 * a1 := eu13.trans (jhul_33 a1 (by omega) (by omega)).1
        have hu13 : jHl u13 := by rw [eu13]; exact (jhul_33 a1 (by omega) (by omega)).2
        refine st_gi hu13.1 (fun v14 ev14 b15 => ?_)
        replace ev14 : v14 = g12 u13 1 := ev14
        replace b15 := (jbf_4_1 hu13.1 _).1 b15
        refine st_gr jo_0 jr_0_5 ?_
        refine st_gr jo_29 jr_29_3 ?_
        refine st_ar jo_33 (by decide) (show 0 ≤ a1 by omega) (show a1 < ((16 : Nat) : Int) by omega) (fun u16 eu16 => ?_)
        replace eu16 : u16 = jr0 33 a1 := eu16
        have qu16 : u16 = 36 + 3 * a1 := eu16.trans (jhul_33 a1 (by omega) (by omega)).1
        have hu16 : jHl u16 := by rw [eu16]; exact (jhul_33 a1 (by omega) (by omega)).2
        refine st_pi hu16.1 (fun hx => (jbf_4_1 hu16.1 _).2 (show 0 ≤ a2 ∧ a2 ≤ 99 by omega)) (fun g17 eg17 => ?_)
        replace eg17 : g17 = jup g12 u16 1 a2 := eg17
        have fg17 : jfr w_X11_priority h g17 := jfr_up fg12 eg17 (by unfold w_X11_priority; omega)
        have e18 : g17 u16 1 = a2 := jup_s eg17
        have e19 : g12 u13 1 = h u13 1 := (ft11 u13 1 (by unfold w_X7_forget; omega))
        have e20 : h u13 1 = h (36 + 3 * a1) 1 := by rw [qu13]
        have e21 : h u4 3 = h (36 + 3 * a1) 3 := by rw [qu4]
        have e22 : h u13 3 = h (36 + 3 * a1) 3 := by rw [qu13]
        have e23 : h u16 3 = h (36 + 3 * a1) 3 := by rw [qu16]
        have rv24 : v14 = h (36 + 3 * a1) 1 := by omega
        subst rv24
        have hq25 : ∀ i k : Int, ¬ i = 1 → ¬ i = 111 → g17 i k = (jup h (36 + 3 * a1) 1 a2) i k := fun i k p1 p2 => ((congrFun (congrFun eg17 i) k).trans (jup_cc (by omega) (by omega) (by first | rfl | omega | exact congrArg jw32 (by omega)) (ft11 i k (by unfold w_X7_forget; omega))))
        exact st_r0 (ls := []) ⟨rfl, rfl, fg17, (h (36 + 3 * a1) 1), rfl, (by omega), (by refine ⟨by unfold P_X11_priority; exact Or.inr (Or.inr (Or.inr (Or.inr ⟨by omega, by omega, hq25⟩))), Or.inl ?_⟩; exact ⟨((jup_o eg17 (by omega))).trans zt11.1, ((jup_o eg17 (by omega))).trans zt11.2.1, ((jup_o eg17 (by omega))).trans zt11.2.2⟩)⟩
      · replace c10 : ¬ t8 = 0 := by first | exact c10 | exact Int.not_le.mp c10 | exact Int.not_lt.mp c10 | exact Decidable.not_not.mp c10
        refine st_cv (na := 1) (st := [.inl t8, .inr (.inr (.inl 0))]) jo_0 rfl rfl rfl (c_X11_refused t8 h (by omega)) rfl ?_
        rintro _ _ g27 ⟨rfl, ft26, t26, rfl, ht26, zt26⟩ kt26
        replace kt26 : -2147483648 ≤ t26 ∧ t26 ≤ 2147483647 := kt26
        replace ht26 : -7 ≤ t26 ∧ t26 ≤ -1 := ht26
        have fg27 : jfr w_X11_priority h g27 := jfr_tr f0 ft26 (fun i k q => by unfold w_X11_refused at q; unfold w_X11_priority; omega)
        replace zt26 : t26 = t8 := zt26
        have e28 : h u4 3 = h (36 + 3 * a1) 3 := by rw [qu4]
        have hs29 : ∀ i k : Int, ¬ i = 1 → ¬ i = 111 → g27 i k = h i k := fun i k p1 p2 => (ft26 i k (by unfold w_X11_refused; omega))
        exact st_r0 (ls := []) ⟨rfl, rfl, fg27, t26, rfl, (by omega), (by refine ⟨by unfold P_X11_priority; by_cases zz : t26 = -4 <;> first | exact Or.inl ⟨by omega, hs29⟩ | exact Or.inr (Or.inl ⟨by omega, hs29⟩) | exact Or.inr (Or.inr (Or.inl ⟨by omega, hs29⟩)) | exact Or.inr (Or.inr (Or.inr (Or.inl ⟨by omega, hs29⟩))), Or.inr ⟨by omega, fun i k p1 => (ft26 i k (by unfold w_X11_refused; omega))⟩⟩)⟩
    · replace c7 : t5 = 0 := by first | exact c7 | exact Int.not_le.mp c7 | exact Int.not_lt.mp c7 | exact Decidable.not_not.mp c7
      show jGo E l 62 229 229 _ 39 [.inr (.inr (.inl 0)), .inl a1, .inl a2, .inr (.inr (.inr ())), .inr (.inr (.inr ()))] [.inl (-3)] 229 jr0 h
      refine jGo_blk qX11_priority_39 ?_
      refine And.intro (fun c30 => ?_) (fun c30 => ?_)
      · replace c30 : (-3 : Int) = 0 := c30
        exfalso; omega
      · replace c30 : ¬ (-3 : Int) = 0 := by first | exact c30 | exact Int.not_le.mp c30 | exact Int.not_lt.mp c30 | exact Decidable.not_not.mp c30
        refine st_cv (na := 1) (st := [.inl (-3), .inr (.inr (.inl 0))]) jo_0 rfl rfl rfl (c_X11_refused (-3) h (by omega)) rfl ?_
        rintro _ _ g32 ⟨rfl, ft31, t31, rfl, ht31, zt31⟩ kt31
        replace kt31 : -2147483648 ≤ t31 ∧ t31 ≤ 2147483647 := kt31
        replace ht31 : -7 ≤ t31 ∧ t31 ≤ -1 := ht31
        have fg32 : jfr w_X11_priority h g32 := jfr_tr f0 ft31 (fun i k q => by unfold w_X11_refused at q; unfold w_X11_priority; omega)
        replace zt31 : t31 = (-3 : Int) := zt31
        have e33 : h u4 3 = h (36 + 3 * a1) 3 := by rw [qu4]
        have hs34 : ∀ i k : Int, ¬ i = 1 → ¬ i = 111 → g32 i k = h i k := fun i k p1 p2 => (ft31 i k (by unfold w_X11_refused; omega))
        exact st_r0 (ls := []) ⟨rfl, rfl, fg32, t31, rfl, (by omega), (by refine ⟨by unfold P_X11_priority; by_cases zz : t31 = -4 <;> first | exact Or.inl ⟨by omega, hs34⟩ | exact Or.inr (Or.inl ⟨by omega, hs34⟩) | exact Or.inr (Or.inr (Or.inl ⟨by omega, hs34⟩)) | exact Or.inr (Or.inr (Or.inr (Or.inl ⟨by omega, hs34⟩))), Or.inr ⟨by omega, fun i k p1 => (ft31 i k (by unfold w_X11_refused; omega))⟩⟩)⟩
  · replace c3 : t1 = 0 := by first | exact c3 | exact Int.not_le.mp c3 | exact Int.not_lt.mp c3 | exact Decidable.not_not.mp c3
    show jGo E l 62 229 229 _ 39 [.inr (.inr (.inl 0)), .inl a1, .inl a2, .inr (.inr (.inr ())), .inr (.inr (.inr ()))] [.inl (-1)] 229 jr0 h
    refine jGo_blk qX11_priority_39 ?_
    refine And.intro (fun c35 => ?_) (fun c35 => ?_)
    · replace c35 : (-1 : Int) = 0 := c35
      exfalso; omega
    · replace c35 : ¬ (-1 : Int) = 0 := by first | exact c35 | exact Int.not_le.mp c35 | exact Int.not_lt.mp c35 | exact Decidable.not_not.mp c35
      refine st_cv (na := 1) (st := [.inl (-1), .inr (.inr (.inl 0))]) jo_0 rfl rfl rfl (c_X11_refused (-1) h (by omega)) rfl ?_
      rintro _ _ g37 ⟨rfl, ft36, t36, rfl, ht36, zt36⟩ kt36
      replace kt36 : -2147483648 ≤ t36 ∧ t36 ≤ 2147483647 := kt36
      replace ht36 : -7 ≤ t36 ∧ t36 ≤ -1 := ht36
      have fg37 : jfr w_X11_priority h g37 := jfr_tr f0 ft36 (fun i k q => by unfold w_X11_refused at q; unfold w_X11_priority; omega)
      replace zt36 : t36 = (-1 : Int) := zt36
      have hs38 : ∀ i k : Int, ¬ i = 1 → ¬ i = 111 → g37 i k = h i k := fun i k p1 p2 => (ft36 i k (by unfold w_X11_refused; omega))
      exact st_r0 (ls := []) ⟨rfl, rfl, fg37, t36, rfl, (by omega), (by refine ⟨by unfold P_X11_priority; by_cases zz : t36 = -4 <;> first | exact Or.inl ⟨by omega, hs38⟩ | exact Or.inr (Or.inl ⟨by omega, hs38⟩) | exact Or.inr (Or.inr (Or.inl ⟨by omega, hs38⟩)) | exact Or.inr (Or.inr (Or.inr (Or.inl ⟨by omega, hs38⟩))), Or.inr ⟨by omega, fun i k p1 => (ft36 i k (by unfold w_X11_refused; omega))⟩⟩)⟩

def k_X12_isHull (a1 : Int) (h : JH) (v : Option JV) (r' g : JH) : Prop := r' = jr0 ∧ h = g ∧ ∃ x : Int, v = some (.inl x) ∧ (0 ≤ x ∧ x ≤ 1) ∧ ((x = 1 ∧ 0 ≤ a1 ∧ a1 < h 176 14 ∧ h 176 14 ≤ 16) ∨ (x = 0 ∧ ¬ (0 ≤ a1 ∧ a1 < h 176 14)))
set_option maxHeartbeats 4000000 in
theorem c_X12_isHull {E : JE} {l : Launch} (a1 : Int) (h : JH) : jMt E l 63 [.inr (.inr (.inl 176)), .inl a1] 229 jr0 h (k_X12_isHull a1 h) := by
  refine jMt0 (nL := 2) (ls := [.inr (.inr (.inl 176)), .inl a1]) (by decide +kernel) (by decide +kernel) (by decide +kernel) rfl rfl ?_
  refine jGo_blk qX12_isHull_0 ?_
  refine st_gi jo_176 (fun v1 ev1 b2 => ?_)
  replace ev1 : v1 = h 176 14 := ev1
  replace b2 := (jbf_12_14 jo_176 _).1 b2
  have e3 : jw32 (v1 - 1) = v1 - 1 := j32e (by omega) (by omega)
  refine st_cs (na := 3) (st := [.inl (jw32 (v1 - 1)), .inl 0, .inl a1]) rfl rfl rfl (c_X12_in a1 0 (jw32 (v1 - 1)) h) rfl ?_
  rintro _ _ _ ⟨rfl, rfl, t4, rfl, ht4, zt4⟩ kt4
  replace kt4 : -2147483648 ≤ t4 ∧ t4 ≤ 2147483647 := kt4
  replace ht4 : 0 ≤ t4 ∧ t4 ≤ 1 := ht4
  replace zt4 : (t4 = 1 ∧ (0 : Int) ≤ a1 ∧ a1 ≤ (jw32 (v1 - 1))) ∨ (t4 = 0 ∧ ¬ ((0 : Int) ≤ a1 ∧ a1 ≤ (jw32 (v1 - 1)))) := zt4
  exact st_r1 (ls := []) (show (t4 : Int) = 0 ∨ (t4 : Int) = 1 by omega) ⟨rfl, rfl, rfl, t4, rfl, (by omega), (by omega)⟩

def w_X12_priority (i k : Int) : Prop := (i = 190) ∨ (i = 219)
def k_X12_priority (a1 : Int) (a2 : Int) (h : JH) (v : Option JV) (r' g : JH) : Prop := r' = jr0 ∧ jfr w_X12_priority h g ∧ ∃ x : Int, v = some (.inl x) ∧ (-7 ≤ x ∧ x ≤ 99) ∧ ((P_X12_priority a1 a2 x h g) ∧ jRx (x < 0) h g)
set_option maxHeartbeats 4000000 in
theorem c_X12_priority {E : JE} {l : Launch} (a1 : Int) (a2 : Int) (h : JH) : jMt E l 64 [.inr (.inr (.inl 176)), .inl a1, .inl a2] 229 jr0 h (k_X12_priority a1 a2 h) := by
  refine jMt0 (nL := 4) (ls := [.inr (.inr (.inl 176)), .inl a1, .inl a2, .inr (.inr (.inr ()))]) (by decide +kernel) (by decide +kernel) (by decide +kernel) rfl rfl ?_
  have f0 : jfr w_X12_priority h h := jfr_rf _ _
  refine jGo_blk qX12_priority_0 ?_
  refine st_cv (na := 1) (st := [.inl a1, .inr (.inr (.inl 176))]) jo_176 rfl rfl rfl (c_X12_isHull a1 h) rfl ?_
  rintro _ _ _ ⟨rfl, rfl, t1, rfl, ht1, zt1⟩ kt1
  replace kt1 : -2147483648 ≤ t1 ∧ t1 ≤ 2147483647 := kt1
  replace ht1 : 0 ≤ t1 ∧ t1 ≤ 1 := ht1
  replace zt1 : (t1 = 1 ∧ 0 ≤ a1 ∧ a1 < h 176 14 ∧ h 176 14 ≤ 16) ∨ (t1 = 0 ∧ ¬ (0 ≤ a1 ∧ a1 < h 176 14)) := zt1
  refine And.intro (fun c3 => ?_) (fun c3 => ?_)
  · replace c3 : ¬ t1 = 0 := c3
    show jGo E l 64 229 229 _ 14 [.inr (.inr (.inl 176)), .inl a1, .inl a2, .inr (.inr (.inr ()))] [] 229 jr0 h
    refine jGo_blk qX12_priority_14 ?_
    refine st_gr jo_176 jr_176_18 ?_
    refine st_ai jo_192 (show 0 ≤ a1 by omega) (show a1 < ((16 : Nat) : Int) by omega) (fun v4 ev4 b5 => ?_)
    replace ev4 : v4 = h 192 a1 := ev4
    replace b5 := (jba_192 a1 _).1 b5
    refine And.intro (fun c6 => ?_) (fun c6 => ?_)
    · replace c6 : v4 ≤ 1 := c6
      show jGo E l 64 229 229 _ 31 [.inr (.inr (.inl 176)), .inl a1, .inl a2, .inr (.inr (.inr ()))] [] 229 jr0 h
      refine jGo_blk qX12_priority_31 ?_
      refine And.intro (fun c7 => ?_) (fun c7 => ?_)
      · replace c7 : 0 ≤ a2 := c7
        show jGo E l 64 229 229 _ 42 [.inr (.inr (.inl 176)), .inl a1, .inl a2, .inr (.inr (.inr ()))] [] 229 jr0 h
        refine jGo_blk qX12_priority_42 ?_
        refine And.intro (fun c8 => ?_) (fun c8 => ?_)
        · replace c8 : a2 ≤ 99 := c8
          show jGo E l 64 229 229 _ 55 [.inr (.inr (.inl 176)), .inl a1, .inl a2, .inr (.inr (.inr ()))] [] 229 jr0 h
          refine jGo_blk qX12_priority_55 ?_
          refine st_gr jo_176 jr_176_16 ?_
          refine st_ai jo_190 (show 0 ≤ a1 by omega) (show a1 < ((16 : Nat) : Int) by omega) (fun v9 ev9 b10 => ?_)
          replace ev9 : v9 = h 190 a1 := ev9
          replace b10 := (jba_190 a1 _).1 b10
          refine st_gr jo_176 jr_176_16 ?_
          refine st_si jo_190 (show 0 ≤ a1 by omega) (show a1 < ((16 : Nat) : Int) by omega) (fun hx => (jba_190 _ _).2 (show 0 ≤ a2 ∧ a2 ≤ 99 by omega)) (fun g11 eg11 => ?_)
          replace eg11 : g11 = jup h 190 a1 a2 := eg11
          have fg11 : jfr w_X12_priority h g11 := jfr_up f0 eg11 (by unfold w_X12_priority; omega)
          have e12 : g11 190 a1 = a2 := jup_s eg11
          have rv13 : v4 = h 192 a1 := by omega
          subst rv13
          have rv14 : v9 = h 190 a1 := by omega
          subst rv14
          have hq15 : ∀ i k : Int, ¬ i = 219 → g11 i k = (jup h 190 a1 a2) i k := fun i k p1 => ((congrFun (congrFun eg11 i) k).trans (jup_cc (by omega) (by omega) (by first | rfl | omega | exact congrArg jw32 (by omega)) rfl))
          exact st_r0 (ls := []) ⟨rfl, rfl, fg11, (h 190 a1), rfl, (by omega), (by refine ⟨by unfold P_X12_priority; exact Or.inr (Or.inr (Or.inr (Or.inr ⟨by omega, by omega, hq15⟩))), fun b9 => absurd b9 (by omega)⟩)⟩
        · replace c8 : 99 < a2 := by first | exact c8 | exact Int.not_le.mp c8 | exact Int.not_lt.mp c8 | exact Decidable.not_not.mp c8
          refine st_cv (na := 1) (st := [.inl (-6), .inr (.inr (.inl 176))]) jo_176 rfl rfl rfl (c_X12_refuse (-6) h (by omega)) rfl ?_
          rintro _ _ g17 ⟨rfl, ft16, t16, rfl, ht16, zt16⟩ kt16
          replace kt16 : -2147483648 ≤ t16 ∧ t16 ≤ 2147483647 := kt16
          replace ht16 : -7 ≤ t16 ∧ t16 ≤ -1 := ht16
          have fg17 : jfr w_X12_priority h g17 := jfr_tr f0 ft16 (fun i k q => by unfold w_X12_refuse at q; unfold w_X12_priority; omega)
          replace zt16 : t16 = (-6 : Int) := zt16
          have rv18 : v4 = h 192 a1 := by omega
          subst rv18
          have hs19 : ∀ i k : Int, ¬ i = 219 → g17 i k = h i k := fun i k p1 => (ft16 i k (by unfold w_X12_refuse; omega))
          exact st_r0 (ls := []) ⟨rfl, rfl, fg17, t16, rfl, (by omega), (by refine ⟨by unfold P_X12_priority; by_cases zz : t16 = -4 <;> first | exact Or.inl ⟨by omega, hs19⟩ | exact Or.inr (Or.inl ⟨by omega, hs19⟩) | exact Or.inr (Or.inr (Or.inl ⟨by omega, hs19⟩)) | exact Or.inr (Or.inr (Or.inr (Or.inl ⟨by omega, hs19⟩))), fun _ i k q9 => ?_⟩; unfold jma at q9; exact (ft16 i k (by unfold w_X12_refuse; omega)))⟩
      · replace c7 : a2 < 0 := by first | exact c7 | exact Int.not_le.mp c7 | exact Int.not_lt.mp c7 | exact Decidable.not_not.mp c7
        refine st_cv (na := 1) (st := [.inl (-4), .inr (.inr (.inl 176))]) jo_176 rfl rfl rfl (c_X12_refuse (-4) h (by omega)) rfl ?_
        rintro _ _ g21 ⟨rfl, ft20, t20, rfl, ht20, zt20⟩ kt20
        replace kt20 : -2147483648 ≤ t20 ∧ t20 ≤ 2147483647 := kt20
        replace ht20 : -7 ≤ t20 ∧ t20 ≤ -1 := ht20
        have fg21 : jfr w_X12_priority h g21 := jfr_tr f0 ft20 (fun i k q => by unfold w_X12_refuse at q; unfold w_X12_priority; omega)
        replace zt20 : t20 = (-4 : Int) := zt20
        have rv22 : v4 = h 192 a1 := by omega
        subst rv22
        have hs23 : ∀ i k : Int, ¬ i = 219 → g21 i k = h i k := fun i k p1 => (ft20 i k (by unfold w_X12_refuse; omega))
        exact st_r0 (ls := []) ⟨rfl, rfl, fg21, t20, rfl, (by omega), (by refine ⟨by unfold P_X12_priority; by_cases zz : t20 = -4 <;> first | exact Or.inl ⟨by omega, hs23⟩ | exact Or.inr (Or.inl ⟨by omega, hs23⟩) | exact Or.inr (Or.inr (Or.inl ⟨by omega, hs23⟩)) | exact Or.inr (Or.inr (Or.inr (Or.inl ⟨by omega, hs23⟩))), fun _ i k q9 => ?_⟩; unfold jma at q9; exact (ft20 i k (by unfold w_X12_refuse; omega)))⟩
    · replace c6 : 1 < v4 := by first | exact c6 | exact Int.not_le.mp c6 | exact Int.not_lt.mp c6 | exact Decidable.not_not.mp c6
      refine st_cv (na := 1) (st := [.inl (-3), .inr (.inr (.inl 176))]) jo_176 rfl rfl rfl (c_X12_refuse (-3) h (by omega)) rfl ?_
      rintro _ _ g25 ⟨rfl, ft24, t24, rfl, ht24, zt24⟩ kt24
      replace kt24 : -2147483648 ≤ t24 ∧ t24 ≤ 2147483647 := kt24
      replace ht24 : -7 ≤ t24 ∧ t24 ≤ -1 := ht24
      have fg25 : jfr w_X12_priority h g25 := jfr_tr f0 ft24 (fun i k q => by unfold w_X12_refuse at q; unfold w_X12_priority; omega)
      replace zt24 : t24 = (-3 : Int) := zt24
      have rv26 : v4 = h 192 a1 := by omega
      subst rv26
      have hs27 : ∀ i k : Int, ¬ i = 219 → g25 i k = h i k := fun i k p1 => (ft24 i k (by unfold w_X12_refuse; omega))
      exact st_r0 (ls := []) ⟨rfl, rfl, fg25, t24, rfl, (by omega), (by refine ⟨by unfold P_X12_priority; by_cases zz : t24 = -4 <;> first | exact Or.inl ⟨by omega, hs27⟩ | exact Or.inr (Or.inl ⟨by omega, hs27⟩) | exact Or.inr (Or.inr (Or.inl ⟨by omega, hs27⟩)) | exact Or.inr (Or.inr (Or.inr (Or.inl ⟨by omega, hs27⟩))), fun _ i k q9 => ?_⟩; unfold jma at q9; exact (ft24 i k (by unfold w_X12_refuse; omega)))⟩
  · replace c3 : t1 = 0 := by first | exact c3 | exact Int.not_le.mp c3 | exact Int.not_lt.mp c3 | exact Decidable.not_not.mp c3
    refine st_cv (na := 1) (st := [.inl (-1), .inr (.inr (.inl 176))]) jo_176 rfl rfl rfl (c_X12_refuse (-1) h (by omega)) rfl ?_
    rintro _ _ g29 ⟨rfl, ft28, t28, rfl, ht28, zt28⟩ kt28
    replace kt28 : -2147483648 ≤ t28 ∧ t28 ≤ 2147483647 := kt28
    replace ht28 : -7 ≤ t28 ∧ t28 ≤ -1 := ht28
    have fg29 : jfr w_X12_priority h g29 := jfr_tr f0 ft28 (fun i k q => by unfold w_X12_refuse at q; unfold w_X12_priority; omega)
    replace zt28 : t28 = (-1 : Int) := zt28
    have hs30 : ∀ i k : Int, ¬ i = 219 → g29 i k = h i k := fun i k p1 => (ft28 i k (by unfold w_X12_refuse; omega))
    exact st_r0 (ls := []) ⟨rfl, rfl, fg29, t28, rfl, (by omega), (by refine ⟨by unfold P_X12_priority; by_cases zz : t28 = -4 <;> first | exact Or.inl ⟨by omega, hs30⟩ | exact Or.inr (Or.inl ⟨by omega, hs30⟩) | exact Or.inr (Or.inr (Or.inl ⟨by omega, hs30⟩)) | exact Or.inr (Or.inr (Or.inr (Or.inl ⟨by omega, hs30⟩))), fun _ i k q9 => ?_⟩; unfold jma at q9; exact (ft28 i k (by unfold w_X12_refuse; omega)))⟩

def w_X11_raft (i k : Int) : Prop := (i = 1) ∨ (30 ≤ i ∧ i ≤ 32) ∨ (i = 111 ∧ 9 ≤ k ∧ k ≤ 11)
def k_X11_raft (a1 : Int) (a2 : Int) (h : JH) (v : Option JV) (r' g : JH) : Prop := r' = jr0 ∧ jfr w_X11_raft h g ∧ ∃ x : Int, v = some (.inl x) ∧ (-7 ≤ x ∧ x ≤ 1) ∧ ((P_X11_raft a1 a2 x h g) ∧ jFg (x < 0) h g)
set_option maxHeartbeats 4000000 in
theorem c_X11_raft {E : JE} {l : Launch} (a1 : Int) (a2 : Int) (h : JH) : jMt E l 65 [.inr (.inr (.inl 0)), .inl a1, .inl a2] 229 jr0 h (k_X11_raft a1 a2 h) := by
  refine jMt0 (nL := 4) (ls := [.inr (.inr (.inl 0)), .inl a1, .inl a2, .inr (.inr (.inr ()))]) (by decide +kernel) (by decide +kernel) (by decide +kernel) rfl rfl ?_
  have f0 : jfr w_X11_raft h h := jfr_rf _ _
  refine jGo_blk qX11_raft_0 ?_
  refine st_cs (na := 2) (st := [.inl 6, .inl a1]) rfl rfl rfl (c_X11_within a1 6 h) rfl ?_
  rintro _ _ _ ⟨rfl, rfl, t1, rfl, ht1, zt1⟩ kt1
  replace kt1 : -2147483648 ≤ t1 ∧ t1 ≤ 2147483647 := kt1
  replace ht1 : 0 ≤ t1 ∧ t1 ≤ 1 := ht1
  replace zt1 : (t1 = 1 ∧ 0 ≤ a1 ∧ a1 < (6 : Int)) ∨ (t1 = 0 ∧ ¬ (0 ≤ a1 ∧ a1 < (6 : Int))) := zt1
  refine And.intro (fun c3 => ?_) (fun c3 => ?_)
  · replace c3 : ¬ t1 = 0 := c3
    show jGo E l 65 229 229 _ 13 [.inr (.inr (.inl 0)), .inl a1, .inl a2, .inr (.inr (.inr ()))] [] 229 jr0 h
    refine jGo_blk qX11_raft_13 ?_
    refine st_gr jo_0 jr_0_5 ?_
    refine st_gr jo_29 jr_29_1 ?_
    refine st_ai jo_31 (show 0 ≤ a1 by omega) (show a1 < ((6 : Nat) : Int) by omega) (fun v4 ev4 b5 => ?_)
    replace ev4 : v4 = h 31 a1 := ev4
    replace b5 := (jba_31 a1 _).1 b5
    refine And.intro (fun c6 => ?_) (fun c6 => ?_)
    · replace c6 : v4 = (-1) := c6
      show jGo E l 65 229 229 _ 31 [.inr (.inr (.inl 0)), .inl a1, .inl a2, .inr (.inr (.inr ()))] [] 229 jr0 h
      refine jGo_blk qX11_raft_31 ?_
      refine st_cs (na := 3) (st := [.inl 1000, .inl 1, .inl a2]) rfl rfl rfl (c_X11_outside a2 1 1000 h) rfl ?_
      rintro _ _ _ ⟨rfl, rfl, t7, rfl, ht7, zt7⟩ kt7
      replace kt7 : -2147483648 ≤ t7 ∧ t7 ≤ 2147483647 := kt7
      replace ht7 : -6 ≤ t7 ∧ t7 ≤ 0 := ht7
      replace zt7 : (t7 = -4 ∧ a2 < (1 : Int)) ∨ (t7 = -6 ∧ (1 : Int) ≤ a2 ∧ (1000 : Int) < a2) ∨ (t7 = 0 ∧ (1 : Int) ≤ a2 ∧ a2 ≤ (1000 : Int)) := zt7
      show jGo E l 65 229 229 _ 39 [.inr (.inr (.inl 0)), .inl a1, .inl a2, .inr (.inr (.inr ()))] [.inl t7] 229 jr0 h
      refine jGo_blk qX11_raft_39 ?_
      refine And.intro (fun c9 => ?_) (fun c9 => ?_)
      · replace c9 : ¬ t7 = 0 := c9
        show jGo E l 65 229 229 _ 60 [.inr (.inr (.inl 0)), .inl a1, .inl a2, .inl t7] [] 229 jr0 h
        refine jGo_blk qX11_raft_60 ?_
        refine And.intro (fun c10 => ?_) (fun c10 => ?_)
        · replace c10 : t7 = 0 := c10
          exfalso; omega
        · replace c10 : ¬ t7 = 0 := by first | exact c10 | exact Int.not_le.mp c10 | exact Int.not_lt.mp c10 | exact Decidable.not_not.mp c10
          refine st_cv (na := 1) (st := [.inl t7, .inr (.inr (.inl 0))]) jo_0 rfl rfl rfl (c_X11_refused t7 h (by omega)) rfl ?_
          rintro _ _ g12 ⟨rfl, ft11, t11, rfl, ht11, zt11⟩ kt11
          replace kt11 : -2147483648 ≤ t11 ∧ t11 ≤ 2147483647 := kt11
          replace ht11 : -7 ≤ t11 ∧ t11 ≤ -1 := ht11
          have fg12 : jfr w_X11_raft h g12 := jfr_tr f0 ft11 (fun i k q => by unfold w_X11_refused at q; unfold w_X11_raft; omega)
          replace zt11 : t11 = t7 := zt11
          have rv13 : v4 = h 31 a1 := by omega
          subst rv13
          have hs14 : ∀ i k : Int, ¬ i = 1 → ¬ i = 111 → g12 i k = h i k := fun i k p1 p2 => (ft11 i k (by unfold w_X11_refused; omega))
          exact st_r0 (ls := []) ⟨rfl, rfl, fg12, t11, rfl, (by omega), (by refine ⟨by unfold P_X11_raft; by_cases zz : t11 = -4 <;> first | exact Or.inl ⟨by omega, hs14⟩ | exact Or.inr (Or.inl ⟨by omega, hs14⟩) | exact Or.inr (Or.inr (Or.inl ⟨by omega, hs14⟩)) | exact Or.inr (Or.inr (Or.inr (Or.inl ⟨by omega, hs14⟩))) | exact Or.inr (Or.inr (Or.inr (Or.inr (Or.inl ⟨by omega, hs14⟩)))), Or.inr ⟨by omega, fun i k p1 => (ft11 i k (by unfold w_X11_refused; omega))⟩⟩)⟩
      · replace c9 : t7 = 0 := by first | exact c9 | exact Int.not_le.mp c9 | exact Int.not_lt.mp c9 | exact Decidable.not_not.mp c9
        refine st_gr jo_0 jr_0_5 ?_
        refine st_gr jo_29 jr_29_0 ?_
        refine st_ai jo_30 (show 0 ≤ 0 by omega) (show 0 < ((6 : Nat) : Int) by omega) (fun v15 ev15 b16 => ?_)
        replace ev15 : v15 = h 30 0 := ev15
        replace b16 := (jba_30 0 _).1 b16
        refine And.intro (fun c17 => ?_) (fun c17 => ?_)
        · replace c17 : a2 ≤ v15 := c17
          show jGo E l 65 229 229 _ 60 [.inr (.inr (.inl 0)), .inl a1, .inl a2, .inl t7] [] 229 jr0 h
          refine jGo_blk qX11_raft_60 ?_
          refine And.intro (fun c18 => ?_) (fun c18 => ?_)
          · replace c18 : t7 = 0 := c18
            show jGo E l 65 229 229 _ 70 [.inr (.inr (.inl 0)), .inl a1, .inl a2, .inl t7] [] 229 jr0 h
            refine jGo_blk qX11_raft_70 ?_
            refine st_gr jo_0 jr_0_11 ?_
            refine st_cv (na := 0) (st := [.inr (.inr (.inl 111))]) jo_111 rfl rfl rfl (c_X7_forget h) rfl ?_
            rintro _ _ g20 ⟨rfl, ft19, rfl, zt19⟩ kt19
            have fg20 : jfr w_X11_raft h g20 := jfr_tr f0 ft19 (fun i k q => by unfold w_X7_forget at q; unfold w_X11_raft; omega)
            replace zt19 : g20 111 9 = 0 ∧ g20 111 10 = 0 ∧ g20 111 11 = 0 := zt19
            refine st_gr jo_0 jr_0_5 ?_
            refine st_gr jo_29 jr_29_0 ?_
            refine st_ai jo_30 (show 0 ≤ 0 by omega) (show 0 < ((6 : Nat) : Int) by omega) (fun v21 ev21 b22 => ?_)
            replace ev21 : v21 = g20 30 0 := ev21
            replace b22 := (jba_30 0 _).1 b22
            refine st_si jo_30 (show 0 ≤ 0 by omega) (show 0 < ((6 : Nat) : Int) by omega) (fun hx => (jba_30 _ _).2 hx) (fun g23 eg23 => ?_)
            replace eg23 : g23 = jup g20 30 0 (jw32 (v21 - a2)) := eg23
            have fg23 : jfr w_X11_raft h g23 := jfr_up fg20 eg23 (by unfold w_X11_raft; omega)
            have e24 : g23 30 0 = jw32 (v21 - a2) := jup_s eg23
            refine st_gr jo_0 jr_0_5 ?_
            refine st_gr jo_29 jr_29_1 ?_
            refine st_si jo_31 (show 0 ≤ a1 by omega) (show a1 < ((6 : Nat) : Int) by omega) (fun hx => (jba_31 _ _).2 (show -2 ≤ (-2) ∧ (-2) ≤ 15 by omega)) (fun g25 eg25 => ?_)
            replace eg25 : g25 = jup g23 31 a1 (-2) := eg25
            have fg25 : jfr w_X11_raft h g25 := jfr_up fg23 eg25 (by unfold w_X11_raft; omega)
            have e26 : g25 31 a1 = (-2) := jup_s eg25
            refine st_gr jo_0 jr_0_5 ?_
            refine st_gr jo_29 jr_29_2 ?_
            refine st_si jo_32 (show 0 ≤ a1 by omega) (show a1 < ((6 : Nat) : Int) by omega) (fun hx => (jba_32 _ _).2 hx) (fun g27 eg27 => ?_)
            replace eg27 : g27 = jup g25 32 a1 a2 := eg27
            have fg27 : jfr w_X11_raft h g27 := jfr_up fg25 eg27 (by unfold w_X11_raft; omega)
            have e28 : g27 32 a1 = a2 := jup_s eg27
            have e29 : g20 30 0 = h 30 0 := (ft19 30 0 (by unfold w_X7_forget; omega))
            have rv30 : v4 = h 31 a1 := by omega
            subst rv30
            have rv31 : v15 = h 30 0 := by omega
            subst rv31
            have rv32 : v21 = h 30 0 := by omega
            subst rv32
            have hq33 : ∀ i k : Int, ¬ i = 1 → ¬ i = 111 → g27 i k = (jup (jup (jup h 30 0 (jw32 (h 30 0 - a2))) 31 a1 (-2)) 32 a1 a2) i k := fun i k p1 p2 => ((congrFun (congrFun eg27 i) k).trans (jup_cc (by omega) (by omega) (by first | rfl | omega | exact congrArg jw32 (by omega)) ((congrFun (congrFun eg25 i) k).trans (jup_cc (by omega) (by omega) (by first | rfl | omega | exact congrArg jw32 (by omega)) ((congrFun (congrFun eg23 i) k).trans (jup_cc (by omega) (by omega) (by first | rfl | omega | exact congrArg jw32 (by omega)) (ft19 i k (by unfold w_X7_forget; omega))))))))
            exact st_r0 (ls := []) ⟨rfl, rfl, fg27, 1, rfl, (by omega), (by refine ⟨by unfold P_X11_raft; exact Or.inr (Or.inr (Or.inr (Or.inr (Or.inr ⟨by omega, by omega, hq33⟩)))), Or.inl ?_⟩; exact ⟨(((jup_o eg27 (by omega)).trans ((jup_o eg25 (by omega)).trans (jup_o eg23 (by omega))))).trans zt19.1, (((jup_o eg27 (by omega)).trans ((jup_o eg25 (by omega)).trans (jup_o eg23 (by omega))))).trans zt19.2.1, (((jup_o eg27 (by omega)).trans ((jup_o eg25 (by omega)).trans (jup_o eg23 (by omega))))).trans zt19.2.2⟩)⟩
          · replace c18 : ¬ t7 = 0 := by first | exact c18 | exact Int.not_le.mp c18 | exact Int.not_lt.mp c18 | exact Decidable.not_not.mp c18
            exfalso; omega
        · replace c17 : v15 < a2 := by first | exact c17 | exact Int.not_le.mp c17 | exact Int.not_lt.mp c17 | exact Decidable.not_not.mp c17
          show jGo E l 65 229 229 _ 60 [.inr (.inr (.inl 0)), .inl a1, .inl a2, .inl (-3)] [] 229 jr0 h
          refine jGo_blk qX11_raft_60 ?_
          refine And.intro (fun c34 => ?_) (fun c34 => ?_)
          · replace c34 : (-3 : Int) = 0 := c34
            exfalso; omega
          · replace c34 : ¬ (-3 : Int) = 0 := by first | exact c34 | exact Int.not_le.mp c34 | exact Int.not_lt.mp c34 | exact Decidable.not_not.mp c34
            refine st_cv (na := 1) (st := [.inl (-3), .inr (.inr (.inl 0))]) jo_0 rfl rfl rfl (c_X11_refused (-3) h (by omega)) rfl ?_
            rintro _ _ g36 ⟨rfl, ft35, t35, rfl, ht35, zt35⟩ kt35
            replace kt35 : -2147483648 ≤ t35 ∧ t35 ≤ 2147483647 := kt35
            replace ht35 : -7 ≤ t35 ∧ t35 ≤ -1 := ht35
            have fg36 : jfr w_X11_raft h g36 := jfr_tr f0 ft35 (fun i k q => by unfold w_X11_refused at q; unfold w_X11_raft; omega)
            replace zt35 : t35 = (-3 : Int) := zt35
            have rv37 : v4 = h 31 a1 := by omega
            subst rv37
            have rv38 : v15 = h 30 0 := by omega
            subst rv38
            have hs39 : ∀ i k : Int, ¬ i = 1 → ¬ i = 111 → g36 i k = h i k := fun i k p1 p2 => (ft35 i k (by unfold w_X11_refused; omega))
            exact st_r0 (ls := []) ⟨rfl, rfl, fg36, t35, rfl, (by omega), (by refine ⟨by unfold P_X11_raft; by_cases zz : t35 = -4 <;> first | exact Or.inl ⟨by omega, hs39⟩ | exact Or.inr (Or.inl ⟨by omega, hs39⟩) | exact Or.inr (Or.inr (Or.inl ⟨by omega, hs39⟩)) | exact Or.inr (Or.inr (Or.inr (Or.inl ⟨by omega, hs39⟩))) | exact Or.inr (Or.inr (Or.inr (Or.inr (Or.inl ⟨by omega, hs39⟩)))), Or.inr ⟨by omega, fun i k p1 => (ft35 i k (by unfold w_X11_refused; omega))⟩⟩)⟩
    · replace c6 : ¬ v4 = (-1) := by first | exact c6 | exact Int.not_le.mp c6 | exact Int.not_lt.mp c6 | exact Decidable.not_not.mp c6
      show jGo E l 65 229 229 _ 39 [.inr (.inr (.inl 0)), .inl a1, .inl a2, .inr (.inr (.inr ()))] [.inl (-3)] 229 jr0 h
      refine jGo_blk qX11_raft_39 ?_
      refine And.intro (fun c40 => ?_) (fun c40 => ?_)
      · replace c40 : ¬ (-3 : Int) = 0 := c40
        show jGo E l 65 229 229 _ 60 [.inr (.inr (.inl 0)), .inl a1, .inl a2, .inl (-3)] [] 229 jr0 h
        refine jGo_blk qX11_raft_60 ?_
        refine And.intro (fun c41 => ?_) (fun c41 => ?_)
        · replace c41 : (-3 : Int) = 0 := c41
          exfalso; omega
        · replace c41 : ¬ (-3 : Int) = 0 := by first | exact c41 | exact Int.not_le.mp c41 | exact Int.not_lt.mp c41 | exact Decidable.not_not.mp c41
          refine st_cv (na := 1) (st := [.inl (-3), .inr (.inr (.inl 0))]) jo_0 rfl rfl rfl (c_X11_refused (-3) h (by omega)) rfl ?_
          rintro _ _ g43 ⟨rfl, ft42, t42, rfl, ht42, zt42⟩ kt42
          replace kt42 : -2147483648 ≤ t42 ∧ t42 ≤ 2147483647 := kt42
          replace ht42 : -7 ≤ t42 ∧ t42 ≤ -1 := ht42
          have fg43 : jfr w_X11_raft h g43 := jfr_tr f0 ft42 (fun i k q => by unfold w_X11_refused at q; unfold w_X11_raft; omega)
          replace zt42 : t42 = (-3 : Int) := zt42
          have rv44 : v4 = h 31 a1 := by omega
          subst rv44
          have hs45 : ∀ i k : Int, ¬ i = 1 → ¬ i = 111 → g43 i k = h i k := fun i k p1 p2 => (ft42 i k (by unfold w_X11_refused; omega))
          exact st_r0 (ls := []) ⟨rfl, rfl, fg43, t42, rfl, (by omega), (by refine ⟨by unfold P_X11_raft; by_cases zz : t42 = -4 <;> first | exact Or.inl ⟨by omega, hs45⟩ | exact Or.inr (Or.inl ⟨by omega, hs45⟩) | exact Or.inr (Or.inr (Or.inl ⟨by omega, hs45⟩)) | exact Or.inr (Or.inr (Or.inr (Or.inl ⟨by omega, hs45⟩))) | exact Or.inr (Or.inr (Or.inr (Or.inr (Or.inl ⟨by omega, hs45⟩)))), Or.inr ⟨by omega, fun i k p1 => (ft42 i k (by unfold w_X11_refused; omega))⟩⟩)⟩
      · replace c40 : (-3 : Int) = 0 := by first | exact c40 | exact Int.not_le.mp c40 | exact Int.not_lt.mp c40 | exact Decidable.not_not.mp c40
        exfalso; omega
  · replace c3 : t1 = 0 := by first | exact c3 | exact Int.not_le.mp c3 | exact Int.not_lt.mp c3 | exact Decidable.not_not.mp c3
    show jGo E l 65 229 229 _ 39 [.inr (.inr (.inl 0)), .inl a1, .inl a2, .inr (.inr (.inr ()))] [.inl (-1)] 229 jr0 h
    refine jGo_blk qX11_raft_39 ?_
    refine And.intro (fun c46 => ?_) (fun c46 => ?_)
    · replace c46 : ¬ (-1 : Int) = 0 := c46
      show jGo E l 65 229 229 _ 60 [.inr (.inr (.inl 0)), .inl a1, .inl a2, .inl (-1)] [] 229 jr0 h
      refine jGo_blk qX11_raft_60 ?_
      refine And.intro (fun c47 => ?_) (fun c47 => ?_)
      · replace c47 : (-1 : Int) = 0 := c47
        exfalso; omega
      · replace c47 : ¬ (-1 : Int) = 0 := by first | exact c47 | exact Int.not_le.mp c47 | exact Int.not_lt.mp c47 | exact Decidable.not_not.mp c47
        refine st_cv (na := 1) (st := [.inl (-1), .inr (.inr (.inl 0))]) jo_0 rfl rfl rfl (c_X11_refused (-1) h (by omega)) rfl ?_
        rintro _ _ g49 ⟨rfl, ft48, t48, rfl, ht48, zt48⟩ kt48
        replace kt48 : -2147483648 ≤ t48 ∧ t48 ≤ 2147483647 := kt48
        replace ht48 : -7 ≤ t48 ∧ t48 ≤ -1 := ht48
        have fg49 : jfr w_X11_raft h g49 := jfr_tr f0 ft48 (fun i k q => by unfold w_X11_refused at q; unfold w_X11_raft; omega)
        replace zt48 : t48 = (-1 : Int) := zt48
        have hs50 : ∀ i k : Int, ¬ i = 1 → ¬ i = 111 → g49 i k = h i k := fun i k p1 p2 => (ft48 i k (by unfold w_X11_refused; omega))
        exact st_r0 (ls := []) ⟨rfl, rfl, fg49, t48, rfl, (by omega), (by refine ⟨by unfold P_X11_raft; by_cases zz : t48 = -4 <;> first | exact Or.inl ⟨by omega, hs50⟩ | exact Or.inr (Or.inl ⟨by omega, hs50⟩) | exact Or.inr (Or.inr (Or.inl ⟨by omega, hs50⟩)) | exact Or.inr (Or.inr (Or.inr (Or.inl ⟨by omega, hs50⟩))) | exact Or.inr (Or.inr (Or.inr (Or.inr (Or.inl ⟨by omega, hs50⟩)))), Or.inr ⟨by omega, fun i k p1 => (ft48 i k (by unfold w_X11_refused; omega))⟩⟩)⟩
    · replace c46 : (-1 : Int) = 0 := by first | exact c46 | exact Int.not_le.mp c46 | exact Int.not_lt.mp c46 | exact Decidable.not_not.mp c46
      exfalso; omega
