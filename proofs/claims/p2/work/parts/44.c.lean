def w_X12_decree (i k : Int) : Prop := (182 ≤ i ∧ i ≤ 185) ∨ (i = 219) ∨ (i = 176 ∧ k = 6)
def k_X12_decree (a1 : Int) (a2 : Int) (a3 : Int) (a4 : Int) (h : JH) (v : Option JV) (r' g : JH) : Prop := r' = jr0 ∧ jfr w_X12_decree h g ∧ ∃ x : Int, v = some (.inl x) ∧ (-7 ≤ x ∧ x ≤ 39) ∧ (True)
set_option maxHeartbeats 4000000 in
theorem c_X12_decree {E : JE} {l : Launch} (a1 : Int) (a2 : Int) (a3 : Int) (a4 : Int) (h : JH) : jMt E l 45 [.inr (.inr (.inl 176)), .inl a1, .inl a2, .inl a3, .inl a4] 229 jr0 h (k_X12_decree a1 a2 a3 a4 h) := by
  refine jMt0 (nL := 5) (ls := [.inr (.inr (.inl 176)), .inl a1, .inl a2, .inl a3, .inl a4]) (by decide +kernel) (by decide +kernel) (by decide +kernel) rfl rfl ?_
  have f0 : jfr w_X12_decree h h := jfr_rf _ _
  refine jGo_blk qX12_decree_0 ?_
  refine st_cs (na := 3) (st := [.inl 3, .inl 0, .inl a1]) rfl rfl rfl (c_X12_in a1 0 3 h) rfl ?_
  rintro _ _ _ ⟨rfl, rfl, t1, rfl, ht1, zt1⟩ kt1
  replace kt1 : -2147483648 ≤ t1 ∧ t1 ≤ 2147483647 := kt1
  replace ht1 : 0 ≤ t1 ∧ t1 ≤ 1 := ht1
  replace zt1 : (t1 = 1 ∧ (0 : Int) ≤ a1 ∧ a1 ≤ (3 : Int)) ∨ (t1 = 0 ∧ ¬ ((0 : Int) ≤ a1 ∧ a1 ≤ (3 : Int))) := zt1
  refine And.intro (fun c3 => ?_) (fun c3 => ?_)
  · replace c3 : t1 = 0 := c3
    show jGo E l 45 229 229 _ 18 [.inr (.inr (.inl 176)), .inl a1, .inl a2, .inl a3, .inl a4] [] 229 jr0 h
    refine jGo_blk qX12_decree_18 ?_
    refine st_cv (na := 1) (st := [.inl (-1), .inr (.inr (.inl 176))]) jo_176 rfl rfl rfl (c_X12_refuse (-1) h (by omega)) rfl ?_
    rintro _ _ g5 ⟨rfl, ft4, t4, rfl, ht4, zt4⟩ kt4
    replace kt4 : -2147483648 ≤ t4 ∧ t4 ≤ 2147483647 := kt4
    replace ht4 : -7 ≤ t4 ∧ t4 ≤ -1 := ht4
    have fg5 : jfr w_X12_decree h g5 := jfr_tr f0 ft4 (fun i k q => by unfold w_X12_refuse at q; unfold w_X12_decree; omega)
    replace zt4 : t4 = (-1 : Int) := zt4
    exact st_r0 (ls := []) ⟨rfl, rfl, fg5, t4, rfl, (by omega), trivial⟩
  · replace c3 : ¬ t1 = 0 := by first | exact c3 | exact Int.not_le.mp c3 | exact Int.not_lt.mp c3 | exact Decidable.not_not.mp c3
    refine st_cs (na := 3) (st := [.inl 3, .inl 0, .inl a2]) rfl rfl rfl (c_X12_in a2 0 3 h) rfl ?_
    rintro _ _ _ ⟨rfl, rfl, t6, rfl, ht6, zt6⟩ kt6
    replace kt6 : -2147483648 ≤ t6 ∧ t6 ≤ 2147483647 := kt6
    replace ht6 : 0 ≤ t6 ∧ t6 ≤ 1 := ht6
    replace zt6 : (t6 = 1 ∧ (0 : Int) ≤ a2 ∧ a2 ≤ (3 : Int)) ∨ (t6 = 0 ∧ ¬ ((0 : Int) ≤ a2 ∧ a2 ≤ (3 : Int))) := zt6
    refine And.intro (fun c8 => ?_) (fun c8 => ?_)
    · replace c8 : ¬ t6 = 0 := c8
      show jGo E l 45 229 229 _ 24 [.inr (.inr (.inl 176)), .inl a1, .inl a2, .inl a3, .inl a4] [] 229 jr0 h
      refine jGo_blk qX12_decree_24 ?_
      refine And.intro (fun c9 => ?_) (fun c9 => ?_)
      · replace c9 : ¬ a1 = 3 := c9
        show jGo E l 45 229 229 _ 34 [.inr (.inr (.inl 176)), .inl a1, .inl a2, .inl a3, .inl a4] [.inl a3] 229 jr0 h
        refine jGo_blk qX12_decree_34 ?_
        show jGo E l 45 229 229 _ 35 [.inr (.inr (.inl 176)), .inl a1, .inl a2, .inl a3, .inl a4] [.inl 0, .inl a3] 229 jr0 h
        refine jGo_blk qX12_decree_35 ?_
        refine And.intro (fun c10 => ?_) (fun c10 => ?_)
        · replace c10 : a3 < 0 := c10
          show jGo E l 45 229 229 _ 47 [.inr (.inr (.inl 176)), .inl a1, .inl a2, .inl a3, .inl a4] [] 229 jr0 h
          refine jGo_blk qX12_decree_47 ?_
          refine st_cv (na := 1) (st := [.inl (-4), .inr (.inr (.inl 176))]) jo_176 rfl rfl rfl (c_X12_refuse (-4) h (by omega)) rfl ?_
          rintro _ _ g12 ⟨rfl, ft11, t11, rfl, ht11, zt11⟩ kt11
          replace kt11 : -2147483648 ≤ t11 ∧ t11 ≤ 2147483647 := kt11
          replace ht11 : -7 ≤ t11 ∧ t11 ≤ -1 := ht11
          have fg12 : jfr w_X12_decree h g12 := jfr_tr f0 ft11 (fun i k q => by unfold w_X12_refuse at q; unfold w_X12_decree; omega)
          replace zt11 : t11 = (-4 : Int) := zt11
          exact st_r0 (ls := []) ⟨rfl, rfl, fg12, t11, rfl, (by omega), trivial⟩
        · replace c10 : 0 ≤ a3 := by first | exact c10 | exact Int.not_le.mp c10 | exact Int.not_lt.mp c10 | exact Decidable.not_not.mp c10
          refine st_gi jo_176 (fun v13 ev13 b14 => ?_)
          replace ev13 : v13 = h 176 0 := ev13
          replace b14 := (jbf_12_0 jo_176 _).1 b14
          refine And.intro (fun c15 => ?_) (fun c15 => ?_)
          · replace c15 : v13 ≤ a4 := c15
            show jGo E l 45 229 229 _ 54 [.inr (.inr (.inl 176)), .inl a1, .inl a2, .inl a3, .inl a4] [] 229 jr0 h
            refine jGo_blk qX12_decree_54 ?_
            refine And.intro (fun c16 => ?_) (fun c16 => ?_)
            · replace c16 : ¬ a1 = 0 := c16
              show jGo E l 45 229 229 _ 64 [.inr (.inr (.inl 176)), .inl a1, .inl a2, .inl a3, .inl a4] [.inl a3] 229 jr0 h
              refine jGo_blk qX12_decree_64 ?_
              refine And.intro (fun c17 => ?_) (fun c17 => ?_)
              · replace c17 : ¬ a1 = 1 := c17
                show jGo E l 45 229 229 _ 74 [.inr (.inr (.inl 176)), .inl a1, .inl a2, .inl a3, .inl a4] [.inl a3] 229 jr0 h
                refine jGo_blk qX12_decree_74 ?_
                refine And.intro (fun c18 => ?_) (fun c18 => ?_)
                · replace c18 : ¬ a1 = 2 := c18
                  exfalso; omega
                · replace c18 : a1 = 2 := by first | exact c18 | exact Int.not_le.mp c18 | exact Int.not_lt.mp c18 | exact Decidable.not_not.mp c18
                  show jGo E l 45 229 229 _ 87 [.inr (.inr (.inl 176)), .inl a1, .inl a2, .inl a3, .inl a4] [.inl 60, .inl a3] 229 jr0 h
                  refine jGo_blk qX12_decree_87 ?_
                  refine And.intro (fun c19 => ?_) (fun c19 => ?_)
                  · replace c19 : 60 < a3 := c19
                    show jGo E l 45 229 229 _ 107 [.inr (.inr (.inl 176)), .inl a1, .inl a2, .inl a3, .inl a4] [] 229 jr0 h
                    refine jGo_blk qX12_decree_107 ?_
                    refine st_cv (na := 1) (st := [.inl (-6), .inr (.inr (.inl 176))]) jo_176 rfl rfl rfl (c_X12_refuse (-6) h (by omega)) rfl ?_
                    rintro _ _ g21 ⟨rfl, ft20, t20, rfl, ht20, zt20⟩ kt20
                    replace kt20 : -2147483648 ≤ t20 ∧ t20 ≤ 2147483647 := kt20
                    replace ht20 : -7 ≤ t20 ∧ t20 ≤ -1 := ht20
                    have fg21 : jfr w_X12_decree h g21 := jfr_tr f0 ft20 (fun i k q => by unfold w_X12_refuse at q; unfold w_X12_decree; omega)
                    replace zt20 : t20 = (-6 : Int) := zt20
                    exact st_r0 (ls := []) ⟨rfl, rfl, fg21, t20, rfl, (by omega), trivial⟩
                  · replace c19 : a3 ≤ 60 := by first | exact c19 | exact Int.not_le.mp c19 | exact Int.not_lt.mp c19 | exact Decidable.not_not.mp c19
                    refine And.intro (fun c22 => ?_) (fun c22 => ?_)
                    · replace c22 : 2000 < a4 := c22
                      show jGo E l 45 229 229 _ 107 [.inr (.inr (.inl 176)), .inl a1, .inl a2, .inl a3, .inl a4] [] 229 jr0 h
                      refine jGo_blk qX12_decree_107 ?_
                      refine st_cv (na := 1) (st := [.inl (-6), .inr (.inr (.inl 176))]) jo_176 rfl rfl rfl (c_X12_refuse (-6) h (by omega)) rfl ?_
                      rintro _ _ g24 ⟨rfl, ft23, t23, rfl, ht23, zt23⟩ kt23
                      replace kt23 : -2147483648 ≤ t23 ∧ t23 ≤ 2147483647 := kt23
                      replace ht23 : -7 ≤ t23 ∧ t23 ≤ -1 := ht23
                      have fg24 : jfr w_X12_decree h g24 := jfr_tr f0 ft23 (fun i k q => by unfold w_X12_refuse at q; unfold w_X12_decree; omega)
                      replace zt23 : t23 = (-6 : Int) := zt23
                      exact st_r0 (ls := []) ⟨rfl, rfl, fg24, t23, rfl, (by omega), trivial⟩
                    · replace c22 : a4 ≤ 2000 := by first | exact c22 | exact Int.not_le.mp c22 | exact Int.not_lt.mp c22 | exact Decidable.not_not.mp c22
                      refine st_gi jo_176 (fun v25 ev25 b26 => ?_)
                      replace ev25 : v25 = h 176 6 := ev25
                      replace b26 := (jbf_12_6 jo_176 _).1 b26
                      refine And.intro (fun c27 => ?_) (fun c27 => ?_)
                      · replace c27 : ¬ v25 = 40 := c27
                        show jGo E l 45 229 229 _ 114 [.inr (.inr (.inl 176)), .inl a1, .inl a2, .inl a3, .inl a4] [] 229 jr0 h
                        refine jGo_blk qX12_decree_114 ?_
                        refine st_gr jo_176 jr_176_7 ?_
                        refine st_gi jo_176 (fun v28 ev28 b29 => ?_)
                        replace ev28 : v28 = h 176 6 := ev28
                        replace b29 := (jbf_12_6 jo_176 _).1 b29
                        refine st_si jo_182 (show 0 ≤ v28 by omega) (show v28 < ((40 : Nat) : Int) by omega) (fun hx => (jba_182 _ _).2 (show 0 ≤ a1 ∧ a1 ≤ 3 by omega)) (fun g30 eg30 => ?_)
                        replace eg30 : g30 = jup h 182 v28 a1 := eg30
                        have fg30 : jfr w_X12_decree h g30 := jfr_up f0 eg30 (by unfold w_X12_decree; omega)
                        have e31 : g30 182 v28 = a1 := jup_s eg30
                        refine st_gr jo_176 jr_176_8 ?_
                        refine st_gi jo_176 (fun v32 ev32 b33 => ?_)
                        replace ev32 : v32 = g30 176 6 := ev32
                        replace b33 := (jbf_12_6 jo_176 _).1 b33
                        have e34 : g30 176 6 = h 176 6 := jup_o eg30 (by omega)
                        refine st_si jo_183 (show 0 ≤ v32 by omega) (show v32 < ((40 : Nat) : Int) by omega) (fun hx => (jba_183 _ _).2 (show 0 ≤ a2 ∧ a2 ≤ 3 by omega)) (fun g35 eg35 => ?_)
                        replace eg35 : g35 = jup g30 183 v32 a2 := eg35
                        have fg35 : jfr w_X12_decree h g35 := jfr_up fg30 eg35 (by unfold w_X12_decree; omega)
                        have e36 : g35 183 v32 = a2 := jup_s eg35
                        refine st_gr jo_176 jr_176_9 ?_
                        refine st_gi jo_176 (fun v37 ev37 b38 => ?_)
                        replace ev37 : v37 = g35 176 6 := ev37
                        replace b38 := (jbf_12_6 jo_176 _).1 b38
                        have e39 : g35 176 6 = g30 176 6 := jup_o eg35 (by omega)
                        refine st_si jo_184 (show 0 ≤ v37 by omega) (show v37 < ((40 : Nat) : Int) by omega) (fun hx => (jba_184 _ _).2 (show 0 ≤ a3 ∧ a3 ≤ 200 by omega)) (fun g40 eg40 => ?_)
                        replace eg40 : g40 = jup g35 184 v37 a3 := eg40
                        have fg40 : jfr w_X12_decree h g40 := jfr_up fg35 eg40 (by unfold w_X12_decree; omega)
                        have e41 : g40 184 v37 = a3 := jup_s eg40
                        refine st_gr jo_176 jr_176_10 ?_
                        refine st_gi jo_176 (fun v42 ev42 b43 => ?_)
                        replace ev42 : v42 = g40 176 6 := ev42
                        replace b43 := (jbf_12_6 jo_176 _).1 b43
                        have e44 : g40 176 6 = g35 176 6 := jup_o eg40 (by omega)
                        refine st_si jo_185 (show 0 ≤ v42 by omega) (show v42 < ((40 : Nat) : Int) by omega) (fun hx => (jba_185 _ _).2 (show 0 ≤ a4 ∧ a4 ≤ 2000 by omega)) (fun g45 eg45 => ?_)
                        replace eg45 : g45 = jup g40 185 v42 a4 := eg45
                        have fg45 : jfr w_X12_decree h g45 := jfr_up fg40 eg45 (by unfold w_X12_decree; omega)
                        have e46 : g45 185 v42 = a4 := jup_s eg45
                        refine st_gi jo_176 (fun v47 ev47 b48 => ?_)
                        replace ev47 : v47 = g45 176 6 := ev47
                        replace b48 := (jbf_12_6 jo_176 _).1 b48
                        have e49 : g45 176 6 = g40 176 6 := jup_o eg45 (by omega)
                        have e50 : jw32 (v47 + 1) = v47 + 1 := j32e (by omega) (by omega)
                        refine st_pi jo_176 (fun hx => (jbf_12_6 jo_176 _).2 (show 0 ≤ jw32 (v47 + 1) ∧ jw32 (v47 + 1) ≤ 40 by omega)) (fun g51 eg51 => ?_)
                        replace eg51 : g51 = jup g45 176 6 (jw32 (v47 + 1)) := eg51
                        have fg51 : jfr w_X12_decree h g51 := jfr_up fg45 eg51 (by unfold w_X12_decree; omega)
                        have e52 : g51 176 6 = jw32 (v47 + 1) := jup_s eg51
                        refine st_gi jo_176 (fun v53 ev53 b54 => ?_)
                        replace ev53 : v53 = g51 176 6 := ev53
                        replace b54 := (jbf_12_6 jo_176 _).1 b54
                        have e55 : jw32 (v53 - 1) = v53 - 1 := j32e (by omega) (by omega)
                        exact st_r0 (ls := []) ⟨rfl, rfl, fg51, jw32 (v53 - 1), rfl, (by omega), trivial⟩
                      · replace c27 : v25 = 40 := by first | exact c27 | exact Int.not_le.mp c27 | exact Int.not_lt.mp c27 | exact Decidable.not_not.mp c27
                        show jGo E l 45 229 229 _ 107 [.inr (.inr (.inl 176)), .inl a1, .inl a2, .inl a3, .inl a4] [] 229 jr0 h
                        refine jGo_blk qX12_decree_107 ?_
                        refine st_cv (na := 1) (st := [.inl (-6), .inr (.inr (.inl 176))]) jo_176 rfl rfl rfl (c_X12_refuse (-6) h (by omega)) rfl ?_
                        rintro _ _ g57 ⟨rfl, ft56, t56, rfl, ht56, zt56⟩ kt56
                        replace kt56 : -2147483648 ≤ t56 ∧ t56 ≤ 2147483647 := kt56
                        replace ht56 : -7 ≤ t56 ∧ t56 ≤ -1 := ht56
                        have fg57 : jfr w_X12_decree h g57 := jfr_tr f0 ft56 (fun i k q => by unfold w_X12_refuse at q; unfold w_X12_decree; omega)
                        replace zt56 : t56 = (-6 : Int) := zt56
                        exact st_r0 (ls := []) ⟨rfl, rfl, fg57, t56, rfl, (by omega), trivial⟩
              · replace c17 : a1 = 1 := by first | exact c17 | exact Int.not_le.mp c17 | exact Int.not_lt.mp c17 | exact Decidable.not_not.mp c17
                show jGo E l 45 229 229 _ 87 [.inr (.inr (.inl 176)), .inl a1, .inl a2, .inl a3, .inl a4] [.inl 9, .inl a3] 229 jr0 h
                refine jGo_blk qX12_decree_87 ?_
                refine And.intro (fun c58 => ?_) (fun c58 => ?_)
                · replace c58 : 9 < a3 := c58
                  show jGo E l 45 229 229 _ 107 [.inr (.inr (.inl 176)), .inl a1, .inl a2, .inl a3, .inl a4] [] 229 jr0 h
                  refine jGo_blk qX12_decree_107 ?_
                  refine st_cv (na := 1) (st := [.inl (-6), .inr (.inr (.inl 176))]) jo_176 rfl rfl rfl (c_X12_refuse (-6) h (by omega)) rfl ?_
                  rintro _ _ g60 ⟨rfl, ft59, t59, rfl, ht59, zt59⟩ kt59
                  replace kt59 : -2147483648 ≤ t59 ∧ t59 ≤ 2147483647 := kt59
                  replace ht59 : -7 ≤ t59 ∧ t59 ≤ -1 := ht59
                  have fg60 : jfr w_X12_decree h g60 := jfr_tr f0 ft59 (fun i k q => by unfold w_X12_refuse at q; unfold w_X12_decree; omega)
                  replace zt59 : t59 = (-6 : Int) := zt59
                  exact st_r0 (ls := []) ⟨rfl, rfl, fg60, t59, rfl, (by omega), trivial⟩
                · replace c58 : a3 ≤ 9 := by first | exact c58 | exact Int.not_le.mp c58 | exact Int.not_lt.mp c58 | exact Decidable.not_not.mp c58
                  refine And.intro (fun c61 => ?_) (fun c61 => ?_)
                  · replace c61 : 2000 < a4 := c61
                    show jGo E l 45 229 229 _ 107 [.inr (.inr (.inl 176)), .inl a1, .inl a2, .inl a3, .inl a4] [] 229 jr0 h
                    refine jGo_blk qX12_decree_107 ?_
                    refine st_cv (na := 1) (st := [.inl (-6), .inr (.inr (.inl 176))]) jo_176 rfl rfl rfl (c_X12_refuse (-6) h (by omega)) rfl ?_
                    rintro _ _ g63 ⟨rfl, ft62, t62, rfl, ht62, zt62⟩ kt62
                    replace kt62 : -2147483648 ≤ t62 ∧ t62 ≤ 2147483647 := kt62
                    replace ht62 : -7 ≤ t62 ∧ t62 ≤ -1 := ht62
                    have fg63 : jfr w_X12_decree h g63 := jfr_tr f0 ft62 (fun i k q => by unfold w_X12_refuse at q; unfold w_X12_decree; omega)
                    replace zt62 : t62 = (-6 : Int) := zt62
                    exact st_r0 (ls := []) ⟨rfl, rfl, fg63, t62, rfl, (by omega), trivial⟩
                  · replace c61 : a4 ≤ 2000 := by first | exact c61 | exact Int.not_le.mp c61 | exact Int.not_lt.mp c61 | exact Decidable.not_not.mp c61
                    refine st_gi jo_176 (fun v64 ev64 b65 => ?_)
                    replace ev64 : v64 = h 176 6 := ev64
                    replace b65 := (jbf_12_6 jo_176 _).1 b65
                    refine And.intro (fun c66 => ?_) (fun c66 => ?_)
                    · replace c66 : ¬ v64 = 40 := c66
                      show jGo E l 45 229 229 _ 114 [.inr (.inr (.inl 176)), .inl a1, .inl a2, .inl a3, .inl a4] [] 229 jr0 h
                      refine jGo_blk qX12_decree_114 ?_
                      refine st_gr jo_176 jr_176_7 ?_
                      refine st_gi jo_176 (fun v67 ev67 b68 => ?_)
                      replace ev67 : v67 = h 176 6 := ev67
                      replace b68 := (jbf_12_6 jo_176 _).1 b68
                      refine st_si jo_182 (show 0 ≤ v67 by omega) (show v67 < ((40 : Nat) : Int) by omega) (fun hx => (jba_182 _ _).2 (show 0 ≤ a1 ∧ a1 ≤ 3 by omega)) (fun g69 eg69 => ?_)
                      replace eg69 : g69 = jup h 182 v67 a1 := eg69
                      have fg69 : jfr w_X12_decree h g69 := jfr_up f0 eg69 (by unfold w_X12_decree; omega)
                      have e70 : g69 182 v67 = a1 := jup_s eg69
                      refine st_gr jo_176 jr_176_8 ?_
                      refine st_gi jo_176 (fun v71 ev71 b72 => ?_)
                      replace ev71 : v71 = g69 176 6 := ev71
                      replace b72 := (jbf_12_6 jo_176 _).1 b72
                      have e73 : g69 176 6 = h 176 6 := jup_o eg69 (by omega)
                      refine st_si jo_183 (show 0 ≤ v71 by omega) (show v71 < ((40 : Nat) : Int) by omega) (fun hx => (jba_183 _ _).2 (show 0 ≤ a2 ∧ a2 ≤ 3 by omega)) (fun g74 eg74 => ?_)
                      replace eg74 : g74 = jup g69 183 v71 a2 := eg74
                      have fg74 : jfr w_X12_decree h g74 := jfr_up fg69 eg74 (by unfold w_X12_decree; omega)
                      have e75 : g74 183 v71 = a2 := jup_s eg74
                      refine st_gr jo_176 jr_176_9 ?_
                      refine st_gi jo_176 (fun v76 ev76 b77 => ?_)
                      replace ev76 : v76 = g74 176 6 := ev76
                      replace b77 := (jbf_12_6 jo_176 _).1 b77
                      have e78 : g74 176 6 = g69 176 6 := jup_o eg74 (by omega)
                      refine st_si jo_184 (show 0 ≤ v76 by omega) (show v76 < ((40 : Nat) : Int) by omega) (fun hx => (jba_184 _ _).2 (show 0 ≤ a3 ∧ a3 ≤ 200 by omega)) (fun g79 eg79 => ?_)
                      replace eg79 : g79 = jup g74 184 v76 a3 := eg79
                      have fg79 : jfr w_X12_decree h g79 := jfr_up fg74 eg79 (by unfold w_X12_decree; omega)
                      have e80 : g79 184 v76 = a3 := jup_s eg79
                      refine st_gr jo_176 jr_176_10 ?_
                      refine st_gi jo_176 (fun v81 ev81 b82 => ?_)
                      replace ev81 : v81 = g79 176 6 := ev81
                      replace b82 := (jbf_12_6 jo_176 _).1 b82
                      have e83 : g79 176 6 = g74 176 6 := jup_o eg79 (by omega)
                      refine st_si jo_185 (show 0 ≤ v81 by omega) (show v81 < ((40 : Nat) : Int) by omega) (fun hx => (jba_185 _ _).2 (show 0 ≤ a4 ∧ a4 ≤ 2000 by omega)) (fun g84 eg84 => ?_)
                      replace eg84 : g84 = jup g79 185 v81 a4 := eg84
                      have fg84 : jfr w_X12_decree h g84 := jfr_up fg79 eg84 (by unfold w_X12_decree; omega)
                      have e85 : g84 185 v81 = a4 := jup_s eg84
                      refine st_gi jo_176 (fun v86 ev86 b87 => ?_)
                      replace ev86 : v86 = g84 176 6 := ev86
                      replace b87 := (jbf_12_6 jo_176 _).1 b87
                      have e88 : g84 176 6 = g79 176 6 := jup_o eg84 (by omega)
                      have e89 : jw32 (v86 + 1) = v86 + 1 := j32e (by omega) (by omega)
                      refine st_pi jo_176 (fun hx => (jbf_12_6 jo_176 _).2 (show 0 ≤ jw32 (v86 + 1) ∧ jw32 (v86 + 1) ≤ 40 by omega)) (fun g90 eg90 => ?_)
                      replace eg90 : g90 = jup g84 176 6 (jw32 (v86 + 1)) := eg90
                      have fg90 : jfr w_X12_decree h g90 := jfr_up fg84 eg90 (by unfold w_X12_decree; omega)
                      have e91 : g90 176 6 = jw32 (v86 + 1) := jup_s eg90
                      refine st_gi jo_176 (fun v92 ev92 b93 => ?_)
                      replace ev92 : v92 = g90 176 6 := ev92
                      replace b93 := (jbf_12_6 jo_176 _).1 b93
                      have e94 : jw32 (v92 - 1) = v92 - 1 := j32e (by omega) (by omega)
                      exact st_r0 (ls := []) ⟨rfl, rfl, fg90, jw32 (v92 - 1), rfl, (by omega), trivial⟩
                    · replace c66 : v64 = 40 := by first | exact c66 | exact Int.not_le.mp c66 | exact Int.not_lt.mp c66 | exact Decidable.not_not.mp c66
                      show jGo E l 45 229 229 _ 107 [.inr (.inr (.inl 176)), .inl a1, .inl a2, .inl a3, .inl a4] [] 229 jr0 h
                      refine jGo_blk qX12_decree_107 ?_
                      refine st_cv (na := 1) (st := [.inl (-6), .inr (.inr (.inl 176))]) jo_176 rfl rfl rfl (c_X12_refuse (-6) h (by omega)) rfl ?_
                      rintro _ _ g96 ⟨rfl, ft95, t95, rfl, ht95, zt95⟩ kt95
                      replace kt95 : -2147483648 ≤ t95 ∧ t95 ≤ 2147483647 := kt95
                      replace ht95 : -7 ≤ t95 ∧ t95 ≤ -1 := ht95
                      have fg96 : jfr w_X12_decree h g96 := jfr_tr f0 ft95 (fun i k q => by unfold w_X12_refuse at q; unfold w_X12_decree; omega)
                      replace zt95 : t95 = (-6 : Int) := zt95
                      exact st_r0 (ls := []) ⟨rfl, rfl, fg96, t95, rfl, (by omega), trivial⟩
            · replace c16 : a1 = 0 := by first | exact c16 | exact Int.not_le.mp c16 | exact Int.not_lt.mp c16 | exact Decidable.not_not.mp c16
              show jGo E l 45 229 229 _ 87 [.inr (.inr (.inl 176)), .inl a1, .inl a2, .inl a3, .inl a4] [.inl 100, .inl a3] 229 jr0 h
              refine jGo_blk qX12_decree_87 ?_
              refine And.intro (fun c97 => ?_) (fun c97 => ?_)
              · replace c97 : 100 < a3 := c97
                show jGo E l 45 229 229 _ 107 [.inr (.inr (.inl 176)), .inl a1, .inl a2, .inl a3, .inl a4] [] 229 jr0 h
                refine jGo_blk qX12_decree_107 ?_
                refine st_cv (na := 1) (st := [.inl (-6), .inr (.inr (.inl 176))]) jo_176 rfl rfl rfl (c_X12_refuse (-6) h (by omega)) rfl ?_
                rintro _ _ g99 ⟨rfl, ft98, t98, rfl, ht98, zt98⟩ kt98
                replace kt98 : -2147483648 ≤ t98 ∧ t98 ≤ 2147483647 := kt98
                replace ht98 : -7 ≤ t98 ∧ t98 ≤ -1 := ht98
                have fg99 : jfr w_X12_decree h g99 := jfr_tr f0 ft98 (fun i k q => by unfold w_X12_refuse at q; unfold w_X12_decree; omega)
                replace zt98 : t98 = (-6 : Int) := zt98
                exact st_r0 (ls := []) ⟨rfl, rfl, fg99, t98, rfl, (by omega), trivial⟩
              · replace c97 : a3 ≤ 100 := by first | exact c97 | exact Int.not_le.mp c97 | exact Int.not_lt.mp c97 | exact Decidable.not_not.mp c97
                refine And.intro (fun c100 => ?_) (fun c100 => ?_)
                · replace c100 : 2000 < a4 := c100
                  show jGo E l 45 229 229 _ 107 [.inr (.inr (.inl 176)), .inl a1, .inl a2, .inl a3, .inl a4] [] 229 jr0 h
                  refine jGo_blk qX12_decree_107 ?_
                  refine st_cv (na := 1) (st := [.inl (-6), .inr (.inr (.inl 176))]) jo_176 rfl rfl rfl (c_X12_refuse (-6) h (by omega)) rfl ?_
                  rintro _ _ g102 ⟨rfl, ft101, t101, rfl, ht101, zt101⟩ kt101
                  replace kt101 : -2147483648 ≤ t101 ∧ t101 ≤ 2147483647 := kt101
                  replace ht101 : -7 ≤ t101 ∧ t101 ≤ -1 := ht101
                  have fg102 : jfr w_X12_decree h g102 := jfr_tr f0 ft101 (fun i k q => by unfold w_X12_refuse at q; unfold w_X12_decree; omega)
                  replace zt101 : t101 = (-6 : Int) := zt101
                  exact st_r0 (ls := []) ⟨rfl, rfl, fg102, t101, rfl, (by omega), trivial⟩
                · replace c100 : a4 ≤ 2000 := by first | exact c100 | exact Int.not_le.mp c100 | exact Int.not_lt.mp c100 | exact Decidable.not_not.mp c100
                  refine st_gi jo_176 (fun v103 ev103 b104 => ?_)
                  replace ev103 : v103 = h 176 6 := ev103
                  replace b104 := (jbf_12_6 jo_176 _).1 b104
                  refine And.intro (fun c105 => ?_) (fun c105 => ?_)
                  · replace c105 : ¬ v103 = 40 := c105
                    show jGo E l 45 229 229 _ 114 [.inr (.inr (.inl 176)), .inl a1, .inl a2, .inl a3, .inl a4] [] 229 jr0 h
                    refine jGo_blk qX12_decree_114 ?_
                    refine st_gr jo_176 jr_176_7 ?_
                    refine st_gi jo_176 (fun v106 ev106 b107 => ?_)
                    replace ev106 : v106 = h 176 6 := ev106
                    replace b107 := (jbf_12_6 jo_176 _).1 b107
                    refine st_si jo_182 (show 0 ≤ v106 by omega) (show v106 < ((40 : Nat) : Int) by omega) (fun hx => (jba_182 _ _).2 (show 0 ≤ a1 ∧ a1 ≤ 3 by omega)) (fun g108 eg108 => ?_)
                    replace eg108 : g108 = jup h 182 v106 a1 := eg108
                    have fg108 : jfr w_X12_decree h g108 := jfr_up f0 eg108 (by unfold w_X12_decree; omega)
                    have e109 : g108 182 v106 = a1 := jup_s eg108
                    refine st_gr jo_176 jr_176_8 ?_
                    refine st_gi jo_176 (fun v110 ev110 b111 => ?_)
                    replace ev110 : v110 = g108 176 6 := ev110
                    replace b111 := (jbf_12_6 jo_176 _).1 b111
                    have e112 : g108 176 6 = h 176 6 := jup_o eg108 (by omega)
                    refine st_si jo_183 (show 0 ≤ v110 by omega) (show v110 < ((40 : Nat) : Int) by omega) (fun hx => (jba_183 _ _).2 (show 0 ≤ a2 ∧ a2 ≤ 3 by omega)) (fun g113 eg113 => ?_)
                    replace eg113 : g113 = jup g108 183 v110 a2 := eg113
                    have fg113 : jfr w_X12_decree h g113 := jfr_up fg108 eg113 (by unfold w_X12_decree; omega)
                    have e114 : g113 183 v110 = a2 := jup_s eg113
                    refine st_gr jo_176 jr_176_9 ?_
                    refine st_gi jo_176 (fun v115 ev115 b116 => ?_)
                    replace ev115 : v115 = g113 176 6 := ev115
                    replace b116 := (jbf_12_6 jo_176 _).1 b116
                    have e117 : g113 176 6 = g108 176 6 := jup_o eg113 (by omega)
                    refine st_si jo_184 (show 0 ≤ v115 by omega) (show v115 < ((40 : Nat) : Int) by omega) (fun hx => (jba_184 _ _).2 (show 0 ≤ a3 ∧ a3 ≤ 200 by omega)) (fun g118 eg118 => ?_)
                    replace eg118 : g118 = jup g113 184 v115 a3 := eg118
                    have fg118 : jfr w_X12_decree h g118 := jfr_up fg113 eg118 (by unfold w_X12_decree; omega)
                    have e119 : g118 184 v115 = a3 := jup_s eg118
                    refine st_gr jo_176 jr_176_10 ?_
                    refine st_gi jo_176 (fun v120 ev120 b121 => ?_)
                    replace ev120 : v120 = g118 176 6 := ev120
                    replace b121 := (jbf_12_6 jo_176 _).1 b121
                    have e122 : g118 176 6 = g113 176 6 := jup_o eg118 (by omega)
                    refine st_si jo_185 (show 0 ≤ v120 by omega) (show v120 < ((40 : Nat) : Int) by omega) (fun hx => (jba_185 _ _).2 (show 0 ≤ a4 ∧ a4 ≤ 2000 by omega)) (fun g123 eg123 => ?_)
                    replace eg123 : g123 = jup g118 185 v120 a4 := eg123
                    have fg123 : jfr w_X12_decree h g123 := jfr_up fg118 eg123 (by unfold w_X12_decree; omega)
                    have e124 : g123 185 v120 = a4 := jup_s eg123
                    refine st_gi jo_176 (fun v125 ev125 b126 => ?_)
                    replace ev125 : v125 = g123 176 6 := ev125
                    replace b126 := (jbf_12_6 jo_176 _).1 b126
                    have e127 : g123 176 6 = g118 176 6 := jup_o eg123 (by omega)
                    have e128 : jw32 (v125 + 1) = v125 + 1 := j32e (by omega) (by omega)
                    refine st_pi jo_176 (fun hx => (jbf_12_6 jo_176 _).2 (show 0 ≤ jw32 (v125 + 1) ∧ jw32 (v125 + 1) ≤ 40 by omega)) (fun g129 eg129 => ?_)
                    replace eg129 : g129 = jup g123 176 6 (jw32 (v125 + 1)) := eg129
                    have fg129 : jfr w_X12_decree h g129 := jfr_up fg123 eg129 (by unfold w_X12_decree; omega)
                    have e130 : g129 176 6 = jw32 (v125 + 1) := jup_s eg129
                    refine st_gi jo_176 (fun v131 ev131 b132 => ?_)
                    replace ev131 : v131 = g129 176 6 := ev131
                    replace b132 := (jbf_12_6 jo_176 _).1 b132
                    have e133 : jw32 (v131 - 1) = v131 - 1 := j32e (by omega) (by omega)
                    exact st_r0 (ls := []) ⟨rfl, rfl, fg129, jw32 (v131 - 1), rfl, (by omega), trivial⟩
                  · replace c105 : v103 = 40 := by first | exact c105 | exact Int.not_le.mp c105 | exact Int.not_lt.mp c105 | exact Decidable.not_not.mp c105
                    show jGo E l 45 229 229 _ 107 [.inr (.inr (.inl 176)), .inl a1, .inl a2, .inl a3, .inl a4] [] 229 jr0 h
                    refine jGo_blk qX12_decree_107 ?_
                    refine st_cv (na := 1) (st := [.inl (-6), .inr (.inr (.inl 176))]) jo_176 rfl rfl rfl (c_X12_refuse (-6) h (by omega)) rfl ?_
                    rintro _ _ g135 ⟨rfl, ft134, t134, rfl, ht134, zt134⟩ kt134
                    replace kt134 : -2147483648 ≤ t134 ∧ t134 ≤ 2147483647 := kt134
                    replace ht134 : -7 ≤ t134 ∧ t134 ≤ -1 := ht134
                    have fg135 : jfr w_X12_decree h g135 := jfr_tr f0 ft134 (fun i k q => by unfold w_X12_refuse at q; unfold w_X12_decree; omega)
                    replace zt134 : t134 = (-6 : Int) := zt134
                    exact st_r0 (ls := []) ⟨rfl, rfl, fg135, t134, rfl, (by omega), trivial⟩
          · replace c15 : a4 < v13 := by first | exact c15 | exact Int.not_le.mp c15 | exact Int.not_lt.mp c15 | exact Decidable.not_not.mp c15
            show jGo E l 45 229 229 _ 47 [.inr (.inr (.inl 176)), .inl a1, .inl a2, .inl a3, .inl a4] [] 229 jr0 h
            refine jGo_blk qX12_decree_47 ?_
            refine st_cv (na := 1) (st := [.inl (-4), .inr (.inr (.inl 176))]) jo_176 rfl rfl rfl (c_X12_refuse (-4) h (by omega)) rfl ?_
            rintro _ _ g137 ⟨rfl, ft136, t136, rfl, ht136, zt136⟩ kt136
            replace kt136 : -2147483648 ≤ t136 ∧ t136 ≤ 2147483647 := kt136
            replace ht136 : -7 ≤ t136 ∧ t136 ≤ -1 := ht136
            have fg137 : jfr w_X12_decree h g137 := jfr_tr f0 ft136 (fun i k q => by unfold w_X12_refuse at q; unfold w_X12_decree; omega)
            replace zt136 : t136 = (-4 : Int) := zt136
            exact st_r0 (ls := []) ⟨rfl, rfl, fg137, t136, rfl, (by omega), trivial⟩
      · replace c9 : a1 = 3 := by first | exact c9 | exact Int.not_le.mp c9 | exact Int.not_lt.mp c9 | exact Decidable.not_not.mp c9
        show jGo E l 45 229 229 _ 35 [.inr (.inr (.inl 176)), .inl a1, .inl a2, .inl a3, .inl a4] [.inl 1, .inl a3] 229 jr0 h
        refine jGo_blk qX12_decree_35 ?_
        refine And.intro (fun c138 => ?_) (fun c138 => ?_)
        · replace c138 : a3 < 1 := c138
          show jGo E l 45 229 229 _ 47 [.inr (.inr (.inl 176)), .inl a1, .inl a2, .inl a3, .inl a4] [] 229 jr0 h
          refine jGo_blk qX12_decree_47 ?_
          refine st_cv (na := 1) (st := [.inl (-4), .inr (.inr (.inl 176))]) jo_176 rfl rfl rfl (c_X12_refuse (-4) h (by omega)) rfl ?_
          rintro _ _ g140 ⟨rfl, ft139, t139, rfl, ht139, zt139⟩ kt139
          replace kt139 : -2147483648 ≤ t139 ∧ t139 ≤ 2147483647 := kt139
          replace ht139 : -7 ≤ t139 ∧ t139 ≤ -1 := ht139
          have fg140 : jfr w_X12_decree h g140 := jfr_tr f0 ft139 (fun i k q => by unfold w_X12_refuse at q; unfold w_X12_decree; omega)
          replace zt139 : t139 = (-4 : Int) := zt139
          exact st_r0 (ls := []) ⟨rfl, rfl, fg140, t139, rfl, (by omega), trivial⟩
        · replace c138 : 1 ≤ a3 := by first | exact c138 | exact Int.not_le.mp c138 | exact Int.not_lt.mp c138 | exact Decidable.not_not.mp c138
          refine st_gi jo_176 (fun v141 ev141 b142 => ?_)
          replace ev141 : v141 = h 176 0 := ev141
          replace b142 := (jbf_12_0 jo_176 _).1 b142
          refine And.intro (fun c143 => ?_) (fun c143 => ?_)
          · replace c143 : v141 ≤ a4 := c143
            show jGo E l 45 229 229 _ 54 [.inr (.inr (.inl 176)), .inl a1, .inl a2, .inl a3, .inl a4] [] 229 jr0 h
            refine jGo_blk qX12_decree_54 ?_
            refine And.intro (fun c144 => ?_) (fun c144 => ?_)
            · replace c144 : ¬ a1 = 0 := c144
              show jGo E l 45 229 229 _ 64 [.inr (.inr (.inl 176)), .inl a1, .inl a2, .inl a3, .inl a4] [.inl a3] 229 jr0 h
              refine jGo_blk qX12_decree_64 ?_
              refine And.intro (fun c145 => ?_) (fun c145 => ?_)
              · replace c145 : ¬ a1 = 1 := c145
                show jGo E l 45 229 229 _ 74 [.inr (.inr (.inl 176)), .inl a1, .inl a2, .inl a3, .inl a4] [.inl a3] 229 jr0 h
                refine jGo_blk qX12_decree_74 ?_
                refine And.intro (fun c146 => ?_) (fun c146 => ?_)
                · replace c146 : ¬ a1 = 2 := c146
                  show jGo E l 45 229 229 _ 84 [.inr (.inr (.inl 176)), .inl a1, .inl a2, .inl a3, .inl a4] [.inl a3] 229 jr0 h
                  refine jGo_blk qX12_decree_84 ?_
                  show jGo E l 45 229 229 _ 87 [.inr (.inr (.inl 176)), .inl a1, .inl a2, .inl a3, .inl a4] [.inl 200, .inl a3] 229 jr0 h
                  refine jGo_blk qX12_decree_87 ?_
                  refine And.intro (fun c147 => ?_) (fun c147 => ?_)
                  · replace c147 : 200 < a3 := c147
                    show jGo E l 45 229 229 _ 107 [.inr (.inr (.inl 176)), .inl a1, .inl a2, .inl a3, .inl a4] [] 229 jr0 h
                    refine jGo_blk qX12_decree_107 ?_
                    refine st_cv (na := 1) (st := [.inl (-6), .inr (.inr (.inl 176))]) jo_176 rfl rfl rfl (c_X12_refuse (-6) h (by omega)) rfl ?_
                    rintro _ _ g149 ⟨rfl, ft148, t148, rfl, ht148, zt148⟩ kt148
                    replace kt148 : -2147483648 ≤ t148 ∧ t148 ≤ 2147483647 := kt148
                    replace ht148 : -7 ≤ t148 ∧ t148 ≤ -1 := ht148
                    have fg149 : jfr w_X12_decree h g149 := jfr_tr f0 ft148 (fun i k q => by unfold w_X12_refuse at q; unfold w_X12_decree; omega)
                    replace zt148 : t148 = (-6 : Int) := zt148
                    exact st_r0 (ls := []) ⟨rfl, rfl, fg149, t148, rfl, (by omega), trivial⟩
                  · replace c147 : a3 ≤ 200 := by first | exact c147 | exact Int.not_le.mp c147 | exact Int.not_lt.mp c147 | exact Decidable.not_not.mp c147
                    refine And.intro (fun c150 => ?_) (fun c150 => ?_)
                    · replace c150 : 2000 < a4 := c150
                      show jGo E l 45 229 229 _ 107 [.inr (.inr (.inl 176)), .inl a1, .inl a2, .inl a3, .inl a4] [] 229 jr0 h
                      refine jGo_blk qX12_decree_107 ?_
                      refine st_cv (na := 1) (st := [.inl (-6), .inr (.inr (.inl 176))]) jo_176 rfl rfl rfl (c_X12_refuse (-6) h (by omega)) rfl ?_
                      rintro _ _ g152 ⟨rfl, ft151, t151, rfl, ht151, zt151⟩ kt151
                      replace kt151 : -2147483648 ≤ t151 ∧ t151 ≤ 2147483647 := kt151
                      replace ht151 : -7 ≤ t151 ∧ t151 ≤ -1 := ht151
                      have fg152 : jfr w_X12_decree h g152 := jfr_tr f0 ft151 (fun i k q => by unfold w_X12_refuse at q; unfold w_X12_decree; omega)
                      replace zt151 : t151 = (-6 : Int) := zt151
                      exact st_r0 (ls := []) ⟨rfl, rfl, fg152, t151, rfl, (by omega), trivial⟩
                    · replace c150 : a4 ≤ 2000 := by first | exact c150 | exact Int.not_le.mp c150 | exact Int.not_lt.mp c150 | exact Decidable.not_not.mp c150
                      refine st_gi jo_176 (fun v153 ev153 b154 => ?_)
                      replace ev153 : v153 = h 176 6 := ev153
                      replace b154 := (jbf_12_6 jo_176 _).1 b154
                      refine And.intro (fun c155 => ?_) (fun c155 => ?_)
                      · replace c155 : ¬ v153 = 40 := c155
                        show jGo E l 45 229 229 _ 114 [.inr (.inr (.inl 176)), .inl a1, .inl a2, .inl a3, .inl a4] [] 229 jr0 h
                        refine jGo_blk qX12_decree_114 ?_
                        refine st_gr jo_176 jr_176_7 ?_
                        refine st_gi jo_176 (fun v156 ev156 b157 => ?_)
                        replace ev156 : v156 = h 176 6 := ev156
                        replace b157 := (jbf_12_6 jo_176 _).1 b157
                        refine st_si jo_182 (show 0 ≤ v156 by omega) (show v156 < ((40 : Nat) : Int) by omega) (fun hx => (jba_182 _ _).2 (show 0 ≤ a1 ∧ a1 ≤ 3 by omega)) (fun g158 eg158 => ?_)
                        replace eg158 : g158 = jup h 182 v156 a1 := eg158
                        have fg158 : jfr w_X12_decree h g158 := jfr_up f0 eg158 (by unfold w_X12_decree; omega)
                        have e159 : g158 182 v156 = a1 := jup_s eg158
                        refine st_gr jo_176 jr_176_8 ?_
                        refine st_gi jo_176 (fun v160 ev160 b161 => ?_)
                        replace ev160 : v160 = g158 176 6 := ev160
                        replace b161 := (jbf_12_6 jo_176 _).1 b161
                        have e162 : g158 176 6 = h 176 6 := jup_o eg158 (by omega)
                        refine st_si jo_183 (show 0 ≤ v160 by omega) (show v160 < ((40 : Nat) : Int) by omega) (fun hx => (jba_183 _ _).2 (show 0 ≤ a2 ∧ a2 ≤ 3 by omega)) (fun g163 eg163 => ?_)
                        replace eg163 : g163 = jup g158 183 v160 a2 := eg163
                        have fg163 : jfr w_X12_decree h g163 := jfr_up fg158 eg163 (by unfold w_X12_decree; omega)
                        have e164 : g163 183 v160 = a2 := jup_s eg163
                        refine st_gr jo_176 jr_176_9 ?_
                        refine st_gi jo_176 (fun v165 ev165 b166 => ?_)
                        replace ev165 : v165 = g163 176 6 := ev165
                        replace b166 := (jbf_12_6 jo_176 _).1 b166
                        have e167 : g163 176 6 = g158 176 6 := jup_o eg163 (by omega)
                        refine st_si jo_184 (show 0 ≤ v165 by omega) (show v165 < ((40 : Nat) : Int) by omega) (fun hx => (jba_184 _ _).2 (show 0 ≤ a3 ∧ a3 ≤ 200 by omega)) (fun g168 eg168 => ?_)
                        replace eg168 : g168 = jup g163 184 v165 a3 := eg168
                        have fg168 : jfr w_X12_decree h g168 := jfr_up fg163 eg168 (by unfold w_X12_decree; omega)
                        have e169 : g168 184 v165 = a3 := jup_s eg168
                        refine st_gr jo_176 jr_176_10 ?_
                        refine st_gi jo_176 (fun v170 ev170 b171 => ?_)
                        replace ev170 : v170 = g168 176 6 := ev170
                        replace b171 := (jbf_12_6 jo_176 _).1 b171
                        have e172 : g168 176 6 = g163 176 6 := jup_o eg168 (by omega)
                        refine st_si jo_185 (show 0 ≤ v170 by omega) (show v170 < ((40 : Nat) : Int) by omega) (fun hx => (jba_185 _ _).2 (show 0 ≤ a4 ∧ a4 ≤ 2000 by omega)) (fun g173 eg173 => ?_)
                        replace eg173 : g173 = jup g168 185 v170 a4 := eg173
                        have fg173 : jfr w_X12_decree h g173 := jfr_up fg168 eg173 (by unfold w_X12_decree; omega)
                        have e174 : g173 185 v170 = a4 := jup_s eg173
                        refine st_gi jo_176 (fun v175 ev175 b176 => ?_)
                        replace ev175 : v175 = g173 176 6 := ev175
                        replace b176 := (jbf_12_6 jo_176 _).1 b176
                        have e177 : g173 176 6 = g168 176 6 := jup_o eg173 (by omega)
                        have e178 : jw32 (v175 + 1) = v175 + 1 := j32e (by omega) (by omega)
                        refine st_pi jo_176 (fun hx => (jbf_12_6 jo_176 _).2 (show 0 ≤ jw32 (v175 + 1) ∧ jw32 (v175 + 1) ≤ 40 by omega)) (fun g179 eg179 => ?_)
                        replace eg179 : g179 = jup g173 176 6 (jw32 (v175 + 1)) := eg179
                        have fg179 : jfr w_X12_decree h g179 := jfr_up fg173 eg179 (by unfold w_X12_decree; omega)
                        have e180 : g179 176 6 = jw32 (v175 + 1) := jup_s eg179
                        refine st_gi jo_176 (fun v181 ev181 b182 => ?_)
                        replace ev181 : v181 = g179 176 6 := ev181
                        replace b182 := (jbf_12_6 jo_176 _).1 b182
                        have e183 : jw32 (v181 - 1) = v181 - 1 := j32e (by omega) (by omega)
                        exact st_r0 (ls := []) ⟨rfl, rfl, fg179, jw32 (v181 - 1), rfl, (by omega), trivial⟩
                      · replace c155 : v153 = 40 := by first | exact c155 | exact Int.not_le.mp c155 | exact Int.not_lt.mp c155 | exact Decidable.not_not.mp c155
                        show jGo E l 45 229 229 _ 107 [.inr (.inr (.inl 176)), .inl a1, .inl a2, .inl a3, .inl a4] [] 229 jr0 h
                        refine jGo_blk qX12_decree_107 ?_
                        refine st_cv (na := 1) (st := [.inl (-6), .inr (.inr (.inl 176))]) jo_176 rfl rfl rfl (c_X12_refuse (-6) h (by omega)) rfl ?_
                        rintro _ _ g185 ⟨rfl, ft184, t184, rfl, ht184, zt184⟩ kt184
                        replace kt184 : -2147483648 ≤ t184 ∧ t184 ≤ 2147483647 := kt184
                        replace ht184 : -7 ≤ t184 ∧ t184 ≤ -1 := ht184
                        have fg185 : jfr w_X12_decree h g185 := jfr_tr f0 ft184 (fun i k q => by unfold w_X12_refuse at q; unfold w_X12_decree; omega)
                        replace zt184 : t184 = (-6 : Int) := zt184
                        exact st_r0 (ls := []) ⟨rfl, rfl, fg185, t184, rfl, (by omega), trivial⟩
                · replace c146 : a1 = 2 := by first | exact c146 | exact Int.not_le.mp c146 | exact Int.not_lt.mp c146 | exact Decidable.not_not.mp c146
                  exfalso; omega
              · replace c145 : a1 = 1 := by first | exact c145 | exact Int.not_le.mp c145 | exact Int.not_lt.mp c145 | exact Decidable.not_not.mp c145
                exfalso; omega
            · replace c144 : a1 = 0 := by first | exact c144 | exact Int.not_le.mp c144 | exact Int.not_lt.mp c144 | exact Decidable.not_not.mp c144
              exfalso; omega
          · replace c143 : a4 < v141 := by first | exact c143 | exact Int.not_le.mp c143 | exact Int.not_lt.mp c143 | exact Decidable.not_not.mp c143
            show jGo E l 45 229 229 _ 47 [.inr (.inr (.inl 176)), .inl a1, .inl a2, .inl a3, .inl a4] [] 229 jr0 h
            refine jGo_blk qX12_decree_47 ?_
            refine st_cv (na := 1) (st := [.inl (-4), .inr (.inr (.inl 176))]) jo_176 rfl rfl rfl (c_X12_refuse (-4) h (by omega)) rfl ?_
            rintro _ _ g187 ⟨rfl, ft186, t186, rfl, ht186, zt186⟩ kt186
            replace kt186 : -2147483648 ≤ t186 ∧ t186 ≤ 2147483647 := kt186
            replace ht186 : -7 ≤ t186 ∧ t186 ≤ -1 := ht186
            have fg187 : jfr w_X12_decree h g187 := jfr_tr f0 ft186 (fun i k q => by unfold w_X12_refuse at q; unfold w_X12_decree; omega)
            replace zt186 : t186 = (-4 : Int) := zt186
            exact st_r0 (ls := []) ⟨rfl, rfl, fg187, t186, rfl, (by omega), trivial⟩
    · replace c8 : t6 = 0 := by first | exact c8 | exact Int.not_le.mp c8 | exact Int.not_lt.mp c8 | exact Decidable.not_not.mp c8
      show jGo E l 45 229 229 _ 18 [.inr (.inr (.inl 176)), .inl a1, .inl a2, .inl a3, .inl a4] [] 229 jr0 h
      refine jGo_blk qX12_decree_18 ?_
      refine st_cv (na := 1) (st := [.inl (-1), .inr (.inr (.inl 176))]) jo_176 rfl rfl rfl (c_X12_refuse (-1) h (by omega)) rfl ?_
      rintro _ _ g189 ⟨rfl, ft188, t188, rfl, ht188, zt188⟩ kt188
      replace kt188 : -2147483648 ≤ t188 ∧ t188 ≤ 2147483647 := kt188
      replace ht188 : -7 ≤ t188 ∧ t188 ≤ -1 := ht188
      have fg189 : jfr w_X12_decree h g189 := jfr_tr f0 ft188 (fun i k q => by unfold w_X12_refuse at q; unfold w_X12_decree; omega)
      replace zt188 : t188 = (-1 : Int) := zt188
      exact st_r0 (ls := []) ⟨rfl, rfl, fg189, t188, rfl, (by omega), trivial⟩
