def w_X12_decree (i k : Int) : Prop := (182 ≤ i ∧ i ≤ 185) ∨ (i = 219) ∨ (i = 176 ∧ k = 6)
def k_X12_decree (a1 : Int) (a2 : Int) (a3 : Int) (a4 : Int) (h : JH) (v : Option JV) (r' g : JH) : Prop := r' = jr0 ∧ jfr w_X12_decree h g ∧ ∃ x : Int, v = some (.inl x) ∧ (-7 ≤ x ∧ x ≤ 39) ∧ (P_X12_decree a1 a2 a3 a4 x h g)
set_option maxHeartbeats 4000000 in
theorem c_X12_decree {E : JE} {l : Launch} (a1 : Int) (a2 : Int) (a3 : Int) (a4 : Int) (h : JH) : jMt E l 45 [.inr (.inr (.inl 176)), .inl a1, .inl a2, .inl a3, .inl a4] 229 jr0 h (k_X12_decree a1 a2 a3 a4 h) := by
  refine jMt0 (nL := 5) (ls := [.inr (.inr (.inl 176)), .inl a1, .inl a2, .inl a3, .inl a4]) (by decide +kernel) (by decide +kernel) (by decide +kernel) rfl rfl ?_
  have f0 : jfr w_X12_decree h h := jfr_rf _ _
  refine jGo_blk qX12_decree_0 ?_
  refine st_cs (na := 3) (st := [.inl 3, .inl 0, .inl a1]) rfl rfl rfl (c_X12_in a1 0 3 h) rfl ?_
  rintro _ _ _ ⟨rfl, rfl, t1, rfl, ht1, zt1⟩ kt1
  replace kt1 : -2147483648 ≤ t1 ∧ t1 ≤ 2147483647 := kt1
  replace ht1 : 0 ≤ t1 ∧ t1 ≤ 1 := ht1
  replace zt1 : (t1 = 1 ∧ (0 : Int) ≤ a1 ∧ a1 ≤ (3 : Int)) ∨ (t1 = 0 ∧ ¬ ((0 : Int) ≤ a1 ∧ a1 ≤ (3 : Int))) := zt1
  refine And.intro (fun c3 => ?_) (fun c3 => ?_)
  · replace c3 : t1 = 0 := c3
    show jGo E l 45 229 229 _ 18 [.inr (.inr (.inl 176)), .inl a1, .inl a2, .inl a3, .inl a4] [] 229 jr0 h
    refine jGo_blk qX12_decree_18 ?_
    refine st_cv (na := 1) (st := [.inl (-1), .inr (.inr (.inl 176))]) jo_176 rfl rfl rfl (c_X12_refuse (-1) h (by omega)) rfl ?_
    rintro _ _ g5 ⟨rfl, ft4, t4, rfl, ht4, zt4⟩ kt4
    replace kt4 : -2147483648 ≤ t4 ∧ t4 ≤ 2147483647 := kt4
    replace ht4 : -7 ≤ t4 ∧ t4 ≤ -1 := ht4
    have fg5 : jfr w_X12_decree h g5 := jfr_tr f0 ft4 (fun i k q => by unfold w_X12_refuse at q; unfold w_X12_decree; omega)
    replace zt4 : t4 = (-1 : Int) := zt4
    have e6 : g5 176 6 = h 176 6 := ft4 176 6 (by unfold w_X12_refuse; omega)
    exact st_r0 (ls := []) ⟨rfl, rfl, fg5, t4, rfl, (by omega), (by unfold P_X12_decree; first | exact Or.inl ⟨by omega, by omega⟩ | exact Or.inr (Or.inl ⟨by omega, by omega⟩) | exact Or.inr (Or.inr (Or.inl ⟨by omega, by omega⟩)) | exact Or.inr (Or.inr (Or.inr ⟨by omega, by omega, by omega⟩)))⟩
  · replace c3 : ¬ t1 = 0 := by first | exact c3 | exact Int.not_le.mp c3 | exact Int.not_lt.mp c3 | exact Decidable.not_not.mp c3
    refine st_cs (na := 3) (st := [.inl 3, .inl 0, .inl a2]) rfl rfl rfl (c_X12_in a2 0 3 h) rfl ?_
    rintro _ _ _ ⟨rfl, rfl, t7, rfl, ht7, zt7⟩ kt7
    replace kt7 : -2147483648 ≤ t7 ∧ t7 ≤ 2147483647 := kt7
    replace ht7 : 0 ≤ t7 ∧ t7 ≤ 1 := ht7
    replace zt7 : (t7 = 1 ∧ (0 : Int) ≤ a2 ∧ a2 ≤ (3 : Int)) ∨ (t7 = 0 ∧ ¬ ((0 : Int) ≤ a2 ∧ a2 ≤ (3 : Int))) := zt7
    refine And.intro (fun c9 => ?_) (fun c9 => ?_)
    · replace c9 : ¬ t7 = 0 := c9
      show jGo E l 45 229 229 _ 24 [.inr (.inr (.inl 176)), .inl a1, .inl a2, .inl a3, .inl a4] [] 229 jr0 h
      refine jGo_blk qX12_decree_24 ?_
      refine And.intro (fun c10 => ?_) (fun c10 => ?_)
      · replace c10 : ¬ a1 = 3 := c10
        show jGo E l 45 229 229 _ 34 [.inr (.inr (.inl 176)), .inl a1, .inl a2, .inl a3, .inl a4] [.inl a3] 229 jr0 h
        refine jGo_blk qX12_decree_34 ?_
        show jGo E l 45 229 229 _ 35 [.inr (.inr (.inl 176)), .inl a1, .inl a2, .inl a3, .inl a4] [.inl 0, .inl a3] 229 jr0 h
        refine jGo_blk qX12_decree_35 ?_
        refine And.intro (fun c11 => ?_) (fun c11 => ?_)
        · replace c11 : a3 < 0 := c11
          show jGo E l 45 229 229 _ 47 [.inr (.inr (.inl 176)), .inl a1, .inl a2, .inl a3, .inl a4] [] 229 jr0 h
          refine jGo_blk qX12_decree_47 ?_
          refine st_cv (na := 1) (st := [.inl (-4), .inr (.inr (.inl 176))]) jo_176 rfl rfl rfl (c_X12_refuse (-4) h (by omega)) rfl ?_
          rintro _ _ g13 ⟨rfl, ft12, t12, rfl, ht12, zt12⟩ kt12
          replace kt12 : -2147483648 ≤ t12 ∧ t12 ≤ 2147483647 := kt12
          replace ht12 : -7 ≤ t12 ∧ t12 ≤ -1 := ht12
          have fg13 : jfr w_X12_decree h g13 := jfr_tr f0 ft12 (fun i k q => by unfold w_X12_refuse at q; unfold w_X12_decree; omega)
          replace zt12 : t12 = (-4 : Int) := zt12
          have e14 : g13 176 6 = h 176 6 := ft12 176 6 (by unfold w_X12_refuse; omega)
          exact st_r0 (ls := []) ⟨rfl, rfl, fg13, t12, rfl, (by omega), (by unfold P_X12_decree; first | exact Or.inl ⟨by omega, by omega⟩ | exact Or.inr (Or.inl ⟨by omega, by omega⟩) | exact Or.inr (Or.inr (Or.inl ⟨by omega, by omega⟩)) | exact Or.inr (Or.inr (Or.inr ⟨by omega, by omega, by omega⟩)))⟩
        · replace c11 : 0 ≤ a3 := by first | exact c11 | exact Int.not_le.mp c11 | exact Int.not_lt.mp c11 | exact Decidable.not_not.mp c11
          refine st_gi jo_176 (fun v15 ev15 b16 => ?_)
          replace ev15 : v15 = h 176 0 := ev15
          replace b16 := (jbf_12_0 jo_176 _).1 b16
          refine And.intro (fun c17 => ?_) (fun c17 => ?_)
          · replace c17 : v15 ≤ a4 := c17
            show jGo E l 45 229 229 _ 54 [.inr (.inr (.inl 176)), .inl a1, .inl a2, .inl a3, .inl a4] [] 229 jr0 h
            refine jGo_blk qX12_decree_54 ?_
            refine And.intro (fun c18 => ?_) (fun c18 => ?_)
            · replace c18 : ¬ a1 = 0 := c18
              show jGo E l 45 229 229 _ 64 [.inr (.inr (.inl 176)), .inl a1, .inl a2, .inl a3, .inl a4] [.inl a3] 229 jr0 h
              refine jGo_blk qX12_decree_64 ?_
              refine And.intro (fun c19 => ?_) (fun c19 => ?_)
              · replace c19 : ¬ a1 = 1 := c19
                show jGo E l 45 229 229 _ 74 [.inr (.inr (.inl 176)), .inl a1, .inl a2, .inl a3, .inl a4] [.inl a3] 229 jr0 h
                refine jGo_blk qX12_decree_74 ?_
                refine And.intro (fun c20 => ?_) (fun c20 => ?_)
                · replace c20 : ¬ a1 = 2 := c20
                  exfalso; omega
                · replace c20 : a1 = 2 := by first | exact c20 | exact Int.not_le.mp c20 | exact Int.not_lt.mp c20 | exact Decidable.not_not.mp c20
                  show jGo E l 45 229 229 _ 87 [.inr (.inr (.inl 176)), .inl a1, .inl a2, .inl a3, .inl a4] [.inl 60, .inl a3] 229 jr0 h
                  refine jGo_blk qX12_decree_87 ?_
                  refine And.intro (fun c21 => ?_) (fun c21 => ?_)
                  · replace c21 : 60 < a3 := c21
                    show jGo E l 45 229 229 _ 107 [.inr (.inr (.inl 176)), .inl a1, .inl a2, .inl a3, .inl a4] [] 229 jr0 h
                    refine jGo_blk qX12_decree_107 ?_
                    refine st_cv (na := 1) (st := [.inl (-6), .inr (.inr (.inl 176))]) jo_176 rfl rfl rfl (c_X12_refuse (-6) h (by omega)) rfl ?_
                    rintro _ _ g23 ⟨rfl, ft22, t22, rfl, ht22, zt22⟩ kt22
                    replace kt22 : -2147483648 ≤ t22 ∧ t22 ≤ 2147483647 := kt22
                    replace ht22 : -7 ≤ t22 ∧ t22 ≤ -1 := ht22
                    have fg23 : jfr w_X12_decree h g23 := jfr_tr f0 ft22 (fun i k q => by unfold w_X12_refuse at q; unfold w_X12_decree; omega)
                    replace zt22 : t22 = (-6 : Int) := zt22
                    have e24 : g23 176 6 = h 176 6 := ft22 176 6 (by unfold w_X12_refuse; omega)
                    exact st_r0 (ls := []) ⟨rfl, rfl, fg23, t22, rfl, (by omega), (by unfold P_X12_decree; first | exact Or.inl ⟨by omega, by omega⟩ | exact Or.inr (Or.inl ⟨by omega, by omega⟩) | exact Or.inr (Or.inr (Or.inl ⟨by omega, by omega⟩)) | exact Or.inr (Or.inr (Or.inr ⟨by omega, by omega, by omega⟩)))⟩
                  · replace c21 : a3 ≤ 60 := by first | exact c21 | exact Int.not_le.mp c21 | exact Int.not_lt.mp c21 | exact Decidable.not_not.mp c21
                    refine And.intro (fun c25 => ?_) (fun c25 => ?_)
                    · replace c25 : 2000 < a4 := c25
                      show jGo E l 45 229 229 _ 107 [.inr (.inr (.inl 176)), .inl a1, .inl a2, .inl a3, .inl a4] [] 229 jr0 h
                      refine jGo_blk qX12_decree_107 ?_
                      refine st_cv (na := 1) (st := [.inl (-6), .inr (.inr (.inl 176))]) jo_176 rfl rfl rfl (c_X12_refuse (-6) h (by omega)) rfl ?_
                      rintro _ _ g27 ⟨rfl, ft26, t26, rfl, ht26, zt26⟩ kt26
                      replace kt26 : -2147483648 ≤ t26 ∧ t26 ≤ 2147483647 := kt26
                      replace ht26 : -7 ≤ t26 ∧ t26 ≤ -1 := ht26
                      have fg27 : jfr w_X12_decree h g27 := jfr_tr f0 ft26 (fun i k q => by unfold w_X12_refuse at q; unfold w_X12_decree; omega)
                      replace zt26 : t26 = (-6 : Int) := zt26
                      have e28 : g27 176 6 = h 176 6 := ft26 176 6 (by unfold w_X12_refuse; omega)
                      exact st_r0 (ls := []) ⟨rfl, rfl, fg27, t26, rfl, (by omega), (by unfold P_X12_decree; first | exact Or.inl ⟨by omega, by omega⟩ | exact Or.inr (Or.inl ⟨by omega, by omega⟩) | exact Or.inr (Or.inr (Or.inl ⟨by omega, by omega⟩)) | exact Or.inr (Or.inr (Or.inr ⟨by omega, by omega, by omega⟩)))⟩
                    · replace c25 : a4 ≤ 2000 := by first | exact c25 | exact Int.not_le.mp c25 | exact Int.not_lt.mp c25 | exact Decidable.not_not.mp c25
                      refine st_gi jo_176 (fun v29 ev29 b30 => ?_)
                      replace ev29 : v29 = h 176 6 := ev29
                      replace b30 := (jbf_12_6 jo_176 _).1 b30
                      refine And.intro (fun c31 => ?_) (fun c31 => ?_)
                      · replace c31 : ¬ v29 = 40 := c31
                        show jGo E l 45 229 229 _ 114 [.inr (.inr (.inl 176)), .inl a1, .inl a2, .inl a3, .inl a4] [] 229 jr0 h
                        refine jGo_blk qX12_decree_114 ?_
                        refine st_gr jo_176 jr_176_7 ?_
                        refine st_gi jo_176 (fun v32 ev32 b33 => ?_)
                        replace ev32 : v32 = h 176 6 := ev32
                        replace b33 := (jbf_12_6 jo_176 _).1 b33
                        refine st_si jo_182 (show 0 ≤ v32 by omega) (show v32 < ((40 : Nat) : Int) by omega) (fun hx => (jba_182 _ _).2 (show 0 ≤ a1 ∧ a1 ≤ 3 by omega)) (fun g34 eg34 => ?_)
                        replace eg34 : g34 = jup h 182 v32 a1 := eg34
                        have fg34 : jfr w_X12_decree h g34 := jfr_up f0 eg34 (by unfold w_X12_decree; omega)
                        have e35 : g34 182 v32 = a1 := jup_s eg34
                        refine st_gr jo_176 jr_176_8 ?_
                        refine st_gi jo_176 (fun v36 ev36 b37 => ?_)
                        replace ev36 : v36 = g34 176 6 := ev36
                        replace b37 := (jbf_12_6 jo_176 _).1 b37
                        have e38 : g34 176 6 = h 176 6 := jup_o eg34 (by omega)
                        refine st_si jo_183 (show 0 ≤ v36 by omega) (show v36 < ((40 : Nat) : Int) by omega) (fun hx => (jba_183 _ _).2 (show 0 ≤ a2 ∧ a2 ≤ 3 by omega)) (fun g39 eg39 => ?_)
                        replace eg39 : g39 = jup g34 183 v36 a2 := eg39
                        have fg39 : jfr w_X12_decree h g39 := jfr_up fg34 eg39 (by unfold w_X12_decree; omega)
                        have e40 : g39 183 v36 = a2 := jup_s eg39
                        refine st_gr jo_176 jr_176_9 ?_
                        refine st_gi jo_176 (fun v41 ev41 b42 => ?_)
                        replace ev41 : v41 = g39 176 6 := ev41
                        replace b42 := (jbf_12_6 jo_176 _).1 b42
                        have e43 : g39 176 6 = g34 176 6 := jup_o eg39 (by omega)
                        refine st_si jo_184 (show 0 ≤ v41 by omega) (show v41 < ((40 : Nat) : Int) by omega) (fun hx => (jba_184 _ _).2 (show 0 ≤ a3 ∧ a3 ≤ 200 by omega)) (fun g44 eg44 => ?_)
                        replace eg44 : g44 = jup g39 184 v41 a3 := eg44
                        have fg44 : jfr w_X12_decree h g44 := jfr_up fg39 eg44 (by unfold w_X12_decree; omega)
                        have e45 : g44 184 v41 = a3 := jup_s eg44
                        refine st_gr jo_176 jr_176_10 ?_
                        refine st_gi jo_176 (fun v46 ev46 b47 => ?_)
                        replace ev46 : v46 = g44 176 6 := ev46
                        replace b47 := (jbf_12_6 jo_176 _).1 b47
                        have e48 : g44 176 6 = g39 176 6 := jup_o eg44 (by omega)
                        refine st_si jo_185 (show 0 ≤ v46 by omega) (show v46 < ((40 : Nat) : Int) by omega) (fun hx => (jba_185 _ _).2 (show 0 ≤ a4 ∧ a4 ≤ 2000 by omega)) (fun g49 eg49 => ?_)
                        replace eg49 : g49 = jup g44 185 v46 a4 := eg49
                        have fg49 : jfr w_X12_decree h g49 := jfr_up fg44 eg49 (by unfold w_X12_decree; omega)
                        have e50 : g49 185 v46 = a4 := jup_s eg49
                        refine st_gi jo_176 (fun v51 ev51 b52 => ?_)
                        replace ev51 : v51 = g49 176 6 := ev51
                        replace b52 := (jbf_12_6 jo_176 _).1 b52
                        have e53 : g49 176 6 = g44 176 6 := jup_o eg49 (by omega)
                        have e54 : jw32 (v51 + 1) = v51 + 1 := j32e (by omega) (by omega)
                        refine st_pi jo_176 (fun hx => (jbf_12_6 jo_176 _).2 (show 0 ≤ jw32 (v51 + 1) ∧ jw32 (v51 + 1) ≤ 40 by omega)) (fun g55 eg55 => ?_)
                        replace eg55 : g55 = jup g49 176 6 (jw32 (v51 + 1)) := eg55
                        have fg55 : jfr w_X12_decree h g55 := jfr_up fg49 eg55 (by unfold w_X12_decree; omega)
                        have e56 : g55 176 6 = jw32 (v51 + 1) := jup_s eg55
                        refine st_gi jo_176 (fun v57 ev57 b58 => ?_)
                        replace ev57 : v57 = g55 176 6 := ev57
                        replace b58 := (jbf_12_6 jo_176 _).1 b58
                        have e59 : jw32 (v57 - 1) = v57 - 1 := j32e (by omega) (by omega)
                        exact st_r0 (ls := []) ⟨rfl, rfl, fg55, jw32 (v57 - 1), rfl, (by omega), (by unfold P_X12_decree; first | exact Or.inl ⟨by omega, by omega⟩ | exact Or.inr (Or.inl ⟨by omega, by omega⟩) | exact Or.inr (Or.inr (Or.inl ⟨by omega, by omega⟩)) | exact Or.inr (Or.inr (Or.inr ⟨by omega, by omega, by omega⟩)))⟩
                      · replace c31 : v29 = 40 := by first | exact c31 | exact Int.not_le.mp c31 | exact Int.not_lt.mp c31 | exact Decidable.not_not.mp c31
                        show jGo E l 45 229 229 _ 107 [.inr (.inr (.inl 176)), .inl a1, .inl a2, .inl a3, .inl a4] [] 229 jr0 h
                        refine jGo_blk qX12_decree_107 ?_
                        refine st_cv (na := 1) (st := [.inl (-6), .inr (.inr (.inl 176))]) jo_176 rfl rfl rfl (c_X12_refuse (-6) h (by omega)) rfl ?_
                        rintro _ _ g61 ⟨rfl, ft60, t60, rfl, ht60, zt60⟩ kt60
                        replace kt60 : -2147483648 ≤ t60 ∧ t60 ≤ 2147483647 := kt60
                        replace ht60 : -7 ≤ t60 ∧ t60 ≤ -1 := ht60
                        have fg61 : jfr w_X12_decree h g61 := jfr_tr f0 ft60 (fun i k q => by unfold w_X12_refuse at q; unfold w_X12_decree; omega)
                        replace zt60 : t60 = (-6 : Int) := zt60
                        have e62 : g61 176 6 = h 176 6 := ft60 176 6 (by unfold w_X12_refuse; omega)
                        exact st_r0 (ls := []) ⟨rfl, rfl, fg61, t60, rfl, (by omega), (by unfold P_X12_decree; first | exact Or.inl ⟨by omega, by omega⟩ | exact Or.inr (Or.inl ⟨by omega, by omega⟩) | exact Or.inr (Or.inr (Or.inl ⟨by omega, by omega⟩)) | exact Or.inr (Or.inr (Or.inr ⟨by omega, by omega, by omega⟩)))⟩
              · replace c19 : a1 = 1 := by first | exact c19 | exact Int.not_le.mp c19 | exact Int.not_lt.mp c19 | exact Decidable.not_not.mp c19
                show jGo E l 45 229 229 _ 87 [.inr (.inr (.inl 176)), .inl a1, .inl a2, .inl a3, .inl a4] [.inl 9, .inl a3] 229 jr0 h
                refine jGo_blk qX12_decree_87 ?_
                refine And.intro (fun c63 => ?_) (fun c63 => ?_)
                · replace c63 : 9 < a3 := c63
                  show jGo E l 45 229 229 _ 107 [.inr (.inr (.inl 176)), .inl a1, .inl a2, .inl a3, .inl a4] [] 229 jr0 h
                  refine jGo_blk qX12_decree_107 ?_
                  refine st_cv (na := 1) (st := [.inl (-6), .inr (.inr (.inl 176))]) jo_176 rfl rfl rfl (c_X12_refuse (-6) h (by omega)) rfl ?_
                  rintro _ _ g65 ⟨rfl, ft64, t64, rfl, ht64, zt64⟩ kt64
                  replace kt64 : -2147483648 ≤ t64 ∧ t64 ≤ 2147483647 := kt64
                  replace ht64 : -7 ≤ t64 ∧ t64 ≤ -1 := ht64
                  have fg65 : jfr w_X12_decree h g65 := jfr_tr f0 ft64 (fun i k q => by unfold w_X12_refuse at q; unfold w_X12_decree; omega)
                  replace zt64 : t64 = (-6 : Int) := zt64
                  have e66 : g65 176 6 = h 176 6 := ft64 176 6 (by unfold w_X12_refuse; omega)
                  exact st_r0 (ls := []) ⟨rfl, rfl, fg65, t64, rfl, (by omega), (by unfold P_X12_decree; first | exact Or.inl ⟨by omega, by omega⟩ | exact Or.inr (Or.inl ⟨by omega, by omega⟩) | exact Or.inr (Or.inr (Or.inl ⟨by omega, by omega⟩)) | exact Or.inr (Or.inr (Or.inr ⟨by omega, by omega, by omega⟩)))⟩
                · replace c63 : a3 ≤ 9 := by first | exact c63 | exact Int.not_le.mp c63 | exact Int.not_lt.mp c63 | exact Decidable.not_not.mp c63
                  refine And.intro (fun c67 => ?_) (fun c67 => ?_)
                  · replace c67 : 2000 < a4 := c67
                    show jGo E l 45 229 229 _ 107 [.inr (.inr (.inl 176)), .inl a1, .inl a2, .inl a3, .inl a4] [] 229 jr0 h
                    refine jGo_blk qX12_decree_107 ?_
                    refine st_cv (na := 1) (st := [.inl (-6), .inr (.inr (.inl 176))]) jo_176 rfl rfl rfl (c_X12_refuse (-6) h (by omega)) rfl ?_
                    rintro _ _ g69 ⟨rfl, ft68, t68, rfl, ht68, zt68⟩ kt68
                    replace kt68 : -2147483648 ≤ t68 ∧ t68 ≤ 2147483647 := kt68
                    replace ht68 : -7 ≤ t68 ∧ t68 ≤ -1 := ht68
                    have fg69 : jfr w_X12_decree h g69 := jfr_tr f0 ft68 (fun i k q => by unfold w_X12_refuse at q; unfold w_X12_decree; omega)
                    replace zt68 : t68 = (-6 : Int) := zt68
                    have e70 : g69 176 6 = h 176 6 := ft68 176 6 (by unfold w_X12_refuse; omega)
                    exact st_r0 (ls := []) ⟨rfl, rfl, fg69, t68, rfl, (by omega), (by unfold P_X12_decree; first | exact Or.inl ⟨by omega, by omega⟩ | exact Or.inr (Or.inl ⟨by omega, by omega⟩) | exact Or.inr (Or.inr (Or.inl ⟨by omega, by omega⟩)) | exact Or.inr (Or.inr (Or.inr ⟨by omega, by omega, by omega⟩)))⟩
                  · replace c67 : a4 ≤ 2000 := by first | exact c67 | exact Int.not_le.mp c67 | exact Int.not_lt.mp c67 | exact Decidable.not_not.mp c67
                    refine st_gi jo_176 (fun v71 ev71 b72 => ?_)
                    replace ev71 : v71 = h 176 6 := ev71
                    replace b72 := (jbf_12_6 jo_176 _).1 b72
                    refine And.intro (fun c73 => ?_) (fun c73 => ?_)
                    · replace c73 : ¬ v71 = 40 := c73
                      show jGo E l 45 229 229 _ 114 [.inr (.inr (.inl 176)), .inl a1, .inl a2, .inl a3, .inl a4] [] 229 jr0 h
                      refine jGo_blk qX12_decree_114 ?_
                      refine st_gr jo_176 jr_176_7 ?_
                      refine st_gi jo_176 (fun v74 ev74 b75 => ?_)
                      replace ev74 : v74 = h 176 6 := ev74
                      replace b75 := (jbf_12_6 jo_176 _).1 b75
                      refine st_si jo_182 (show 0 ≤ v74 by omega) (show v74 < ((40 : Nat) : Int) by omega) (fun hx => (jba_182 _ _).2 (show 0 ≤ a1 ∧ a1 ≤ 3 by omega)) (fun g76 eg76 => ?_)
                      replace eg76 : g76 = jup h 182 v74 a1 := eg76
                      have fg76 : jfr w_X12_decree h g76 := jfr_up f0 eg76 (by unfold w_X12_decree; omega)
                      have e77 : g76 182 v74 = a1 := jup_s eg76
                      refine st_gr jo_176 jr_176_8 ?_
                      refine st_gi jo_176 (fun v78 ev78 b79 => ?_)
                      replace ev78 : v78 = g76 176 6 := ev78
                      replace b79 := (jbf_12_6 jo_176 _).1 b79
                      have e80 : g76 176 6 = h 176 6 := jup_o eg76 (by omega)
                      refine st_si jo_183 (show 0 ≤ v78 by omega) (show v78 < ((40 : Nat) : Int) by omega) (fun hx => (jba_183 _ _).2 (show 0 ≤ a2 ∧ a2 ≤ 3 by omega)) (fun g81 eg81 => ?_)
                      replace eg81 : g81 = jup g76 183 v78 a2 := eg81
                      have fg81 : jfr w_X12_decree h g81 := jfr_up fg76 eg81 (by unfold w_X12_decree; omega)
                      have e82 : g81 183 v78 = a2 := jup_s eg81
                      refine st_gr jo_176 jr_176_9 ?_
                      refine st_gi jo_176 (fun v83 ev83 b84 => ?_)
                      replace ev83 : v83 = g81 176 6 := ev83
                      replace b84 := (jbf_12_6 jo_176 _).1 b84
                      have e85 : g81 176 6 = g76 176 6 := jup_o eg81 (by omega)
                      refine st_si jo_184 (show 0 ≤ v83 by omega) (show v83 < ((40 : Nat) : Int) by omega) (fun hx => (jba_184 _ _).2 (show 0 ≤ a3 ∧ a3 ≤ 200 by omega)) (fun g86 eg86 => ?_)
                      replace eg86 : g86 = jup g81 184 v83 a3 := eg86
                      have fg86 : jfr w_X12_decree h g86 := jfr_up fg81 eg86 (by unfold w_X12_decree; omega)
                      have e87 : g86 184 v83 = a3 := jup_s eg86
                      refine st_gr jo_176 jr_176_10 ?_
                      refine st_gi jo_176 (fun v88 ev88 b89 => ?_)
                      replace ev88 : v88 = g86 176 6 := ev88
                      replace b89 := (jbf_12_6 jo_176 _).1 b89
                      have e90 : g86 176 6 = g81 176 6 := jup_o eg86 (by omega)
                      refine st_si jo_185 (show 0 ≤ v88 by omega) (show v88 < ((40 : Nat) : Int) by omega) (fun hx => (jba_185 _ _).2 (show 0 ≤ a4 ∧ a4 ≤ 2000 by omega)) (fun g91 eg91 => ?_)
                      replace eg91 : g91 = jup g86 185 v88 a4 := eg91
                      have fg91 : jfr w_X12_decree h g91 := jfr_up fg86 eg91 (by unfold w_X12_decree; omega)
                      have e92 : g91 185 v88 = a4 := jup_s eg91
                      refine st_gi jo_176 (fun v93 ev93 b94 => ?_)
                      replace ev93 : v93 = g91 176 6 := ev93
                      replace b94 := (jbf_12_6 jo_176 _).1 b94
                      have e95 : g91 176 6 = g86 176 6 := jup_o eg91 (by omega)
                      have e96 : jw32 (v93 + 1) = v93 + 1 := j32e (by omega) (by omega)
                      refine st_pi jo_176 (fun hx => (jbf_12_6 jo_176 _).2 (show 0 ≤ jw32 (v93 + 1) ∧ jw32 (v93 + 1) ≤ 40 by omega)) (fun g97 eg97 => ?_)
                      replace eg97 : g97 = jup g91 176 6 (jw32 (v93 + 1)) := eg97
                      have fg97 : jfr w_X12_decree h g97 := jfr_up fg91 eg97 (by unfold w_X12_decree; omega)
                      have e98 : g97 176 6 = jw32 (v93 + 1) := jup_s eg97
                      refine st_gi jo_176 (fun v99 ev99 b100 => ?_)
                      replace ev99 : v99 = g97 176 6 := ev99
                      replace b100 := (jbf_12_6 jo_176 _).1 b100
                      have e101 : jw32 (v99 - 1) = v99 - 1 := j32e (by omega) (by omega)
                      exact st_r0 (ls := []) ⟨rfl, rfl, fg97, jw32 (v99 - 1), rfl, (by omega), (by unfold P_X12_decree; first | exact Or.inl ⟨by omega, by omega⟩ | exact Or.inr (Or.inl ⟨by omega, by omega⟩) | exact Or.inr (Or.inr (Or.inl ⟨by omega, by omega⟩)) | exact Or.inr (Or.inr (Or.inr ⟨by omega, by omega, by omega⟩)))⟩
                    · replace c73 : v71 = 40 := by first | exact c73 | exact Int.not_le.mp c73 | exact Int.not_lt.mp c73 | exact Decidable.not_not.mp c73
                      show jGo E l 45 229 229 _ 107 [.inr (.inr (.inl 176)), .inl a1, .inl a2, .inl a3, .inl a4] [] 229 jr0 h
                      refine jGo_blk qX12_decree_107 ?_
                      refine st_cv (na := 1) (st := [.inl (-6), .inr (.inr (.inl 176))]) jo_176 rfl rfl rfl (c_X12_refuse (-6) h (by omega)) rfl ?_
                      rintro _ _ g103 ⟨rfl, ft102, t102, rfl, ht102, zt102⟩ kt102
                      replace kt102 : -2147483648 ≤ t102 ∧ t102 ≤ 2147483647 := kt102
                      replace ht102 : -7 ≤ t102 ∧ t102 ≤ -1 := ht102
                      have fg103 : jfr w_X12_decree h g103 := jfr_tr f0 ft102 (fun i k q => by unfold w_X12_refuse at q; unfold w_X12_decree; omega)
                      replace zt102 : t102 = (-6 : Int) := zt102
                      have e104 : g103 176 6 = h 176 6 := ft102 176 6 (by unfold w_X12_refuse; omega)
                      exact st_r0 (ls := []) ⟨rfl, rfl, fg103, t102, rfl, (by omega), (by unfold P_X12_decree; first | exact Or.inl ⟨by omega, by omega⟩ | exact Or.inr (Or.inl ⟨by omega, by omega⟩) | exact Or.inr (Or.inr (Or.inl ⟨by omega, by omega⟩)) | exact Or.inr (Or.inr (Or.inr ⟨by omega, by omega, by omega⟩)))⟩
            · replace c18 : a1 = 0 := by first | exact c18 | exact Int.not_le.mp c18 | exact Int.not_lt.mp c18 | exact Decidable.not_not.mp c18
              show jGo E l 45 229 229 _ 87 [.inr (.inr (.inl 176)), .inl a1, .inl a2, .inl a3, .inl a4] [.inl 100, .inl a3] 229 jr0 h
              refine jGo_blk qX12_decree_87 ?_
              refine And.intro (fun c105 => ?_) (fun c105 => ?_)
              · replace c105 : 100 < a3 := c105
                show jGo E l 45 229 229 _ 107 [.inr (.inr (.inl 176)), .inl a1, .inl a2, .inl a3, .inl a4] [] 229 jr0 h
                refine jGo_blk qX12_decree_107 ?_
                refine st_cv (na := 1) (st := [.inl (-6), .inr (.inr (.inl 176))]) jo_176 rfl rfl rfl (c_X12_refuse (-6) h (by omega)) rfl ?_
                rintro _ _ g107 ⟨rfl, ft106, t106, rfl, ht106, zt106⟩ kt106
                replace kt106 : -2147483648 ≤ t106 ∧ t106 ≤ 2147483647 := kt106
                replace ht106 : -7 ≤ t106 ∧ t106 ≤ -1 := ht106
                have fg107 : jfr w_X12_decree h g107 := jfr_tr f0 ft106 (fun i k q => by unfold w_X12_refuse at q; unfold w_X12_decree; omega)
                replace zt106 : t106 = (-6 : Int) := zt106
                have e108 : g107 176 6 = h 176 6 := ft106 176 6 (by unfold w_X12_refuse; omega)
                exact st_r0 (ls := []) ⟨rfl, rfl, fg107, t106, rfl, (by omega), (by unfold P_X12_decree; first | exact Or.inl ⟨by omega, by omega⟩ | exact Or.inr (Or.inl ⟨by omega, by omega⟩) | exact Or.inr (Or.inr (Or.inl ⟨by omega, by omega⟩)) | exact Or.inr (Or.inr (Or.inr ⟨by omega, by omega, by omega⟩)))⟩
              · replace c105 : a3 ≤ 100 := by first | exact c105 | exact Int.not_le.mp c105 | exact Int.not_lt.mp c105 | exact Decidable.not_not.mp c105
                refine And.intro (fun c109 => ?_) (fun c109 => ?_)
                · replace c109 : 2000 < a4 := c109
                  show jGo E l 45 229 229 _ 107 [.inr (.inr (.inl 176)), .inl a1, .inl a2, .inl a3, .inl a4] [] 229 jr0 h
                  refine jGo_blk qX12_decree_107 ?_
                  refine st_cv (na := 1) (st := [.inl (-6), .inr (.inr (.inl 176))]) jo_176 rfl rfl rfl (c_X12_refuse (-6) h (by omega)) rfl ?_
                  rintro _ _ g111 ⟨rfl, ft110, t110, rfl, ht110, zt110⟩ kt110
                  replace kt110 : -2147483648 ≤ t110 ∧ t110 ≤ 2147483647 := kt110
                  replace ht110 : -7 ≤ t110 ∧ t110 ≤ -1 := ht110
                  have fg111 : jfr w_X12_decree h g111 := jfr_tr f0 ft110 (fun i k q => by unfold w_X12_refuse at q; unfold w_X12_decree; omega)
                  replace zt110 : t110 = (-6 : Int) := zt110
                  have e112 : g111 176 6 = h 176 6 := ft110 176 6 (by unfold w_X12_refuse; omega)
                  exact st_r0 (ls := []) ⟨rfl, rfl, fg111, t110, rfl, (by omega), (by unfold P_X12_decree; first | exact Or.inl ⟨by omega, by omega⟩ | exact Or.inr (Or.inl ⟨by omega, by omega⟩) | exact Or.inr (Or.inr (Or.inl ⟨by omega, by omega⟩)) | exact Or.inr (Or.inr (Or.inr ⟨by omega, by omega, by omega⟩)))⟩
                · replace c109 : a4 ≤ 2000 := by first | exact c109 | exact Int.not_le.mp c109 | exact Int.not_lt.mp c109 | exact Decidable.not_not.mp c109
                  refine st_gi jo_176 (fun v113 ev113 b114 => ?_)
                  replace ev113 : v113 = h 176 6 := ev113
                  replace b114 := (jbf_12_6 jo_176 _).1 b114
                  refine And.intro (fun c115 => ?_) (fun c115 => ?_)
                  · replace c115 : ¬ v113 = 40 := c115
                    show jGo E l 45 229 229 _ 114 [.inr (.inr (.inl 176)), .inl a1, .inl a2, .inl a3, .inl a4] [] 229 jr0 h
                    refine jGo_blk qX12_decree_114 ?_
                    refine st_gr jo_176 jr_176_7 ?_
                    refine st_gi jo_176 (fun v116 ev116 b117 => ?_)
                    replace ev116 : v116 = h 176 6 := ev116
                    replace b117 := (jbf_12_6 jo_176 _).1 b117
                    refine st_si jo_182 (show 0 ≤ v116 by omega) (show v116 < ((40 : Nat) : Int) by omega) (fun hx => (jba_182 _ _).2 (show 0 ≤ a1 ∧ a1 ≤ 3 by omega)) (fun g118 eg118 => ?_)
                    replace eg118 : g118 = jup h 182 v116 a1 := eg118
                    have fg118 : jfr w_X12_decree h g118 := jfr_up f0 eg118 (by unfold w_X12_decree; omega)
                    have e119 : g118 182 v116 = a1 := jup_s eg118
                    refine st_gr jo_176 jr_176_8 ?_
                    refine st_gi jo_176 (fun v120 ev120 b121 => ?_)
                    replace ev120 : v120 = g118 176 6 := ev120
                    replace b121 := (jbf_12_6 jo_176 _).1 b121
                    have e122 : g118 176 6 = h 176 6 := jup_o eg118 (by omega)
                    refine st_si jo_183 (show 0 ≤ v120 by omega) (show v120 < ((40 : Nat) : Int) by omega) (fun hx => (jba_183 _ _).2 (show 0 ≤ a2 ∧ a2 ≤ 3 by omega)) (fun g123 eg123 => ?_)
                    replace eg123 : g123 = jup g118 183 v120 a2 := eg123
                    have fg123 : jfr w_X12_decree h g123 := jfr_up fg118 eg123 (by unfold w_X12_decree; omega)
                    have e124 : g123 183 v120 = a2 := jup_s eg123
                    refine st_gr jo_176 jr_176_9 ?_
                    refine st_gi jo_176 (fun v125 ev125 b126 => ?_)
                    replace ev125 : v125 = g123 176 6 := ev125
                    replace b126 := (jbf_12_6 jo_176 _).1 b126
                    have e127 : g123 176 6 = g118 176 6 := jup_o eg123 (by omega)
                    refine st_si jo_184 (show 0 ≤ v125 by omega) (show v125 < ((40 : Nat) : Int) by omega) (fun hx => (jba_184 _ _).2 (show 0 ≤ a3 ∧ a3 ≤ 200 by omega)) (fun g128 eg128 => ?_)
                    replace eg128 : g128 = jup g123 184 v125 a3 := eg128
                    have fg128 : jfr w_X12_decree h g128 := jfr_up fg123 eg128 (by unfold w_X12_decree; omega)
                    have e129 : g128 184 v125 = a3 := jup_s eg128
                    refine st_gr jo_176 jr_176_10 ?_
                    refine st_gi jo_176 (fun v130 ev130 b131 => ?_)
                    replace ev130 : v130 = g128 176 6 := ev130
                    replace b131 := (jbf_12_6 jo_176 _).1 b131
                    have e132 : g128 176 6 = g123 176 6 := jup_o eg128 (by omega)
                    refine st_si jo_185 (show 0 ≤ v130 by omega) (show v130 < ((40 : Nat) : Int) by omega) (fun hx => (jba_185 _ _).2 (show 0 ≤ a4 ∧ a4 ≤ 2000 by omega)) (fun g133 eg133 => ?_)
                    replace eg133 : g133 = jup g128 185 v130 a4 := eg133
                    have fg133 : jfr w_X12_decree h g133 := jfr_up fg128 eg133 (by unfold w_X12_decree; omega)
                    have e134 : g133 185 v130 = a4 := jup_s eg133
                    refine st_gi jo_176 (fun v135 ev135 b136 => ?_)
                    replace ev135 : v135 = g133 176 6 := ev135
                    replace b136 := (jbf_12_6 jo_176 _).1 b136
                    have e137 : g133 176 6 = g128 176 6 := jup_o eg133 (by omega)
                    have e138 : jw32 (v135 + 1) = v135 + 1 := j32e (by omega) (by omega)
                    refine st_pi jo_176 (fun hx => (jbf_12_6 jo_176 _).2 (show 0 ≤ jw32 (v135 + 1) ∧ jw32 (v135 + 1) ≤ 40 by omega)) (fun g139 eg139 => ?_)
                    replace eg139 : g139 = jup g133 176 6 (jw32 (v135 + 1)) := eg139
                    have fg139 : jfr w_X12_decree h g139 := jfr_up fg133 eg139 (by unfold w_X12_decree; omega)
                    have e140 : g139 176 6 = jw32 (v135 + 1) := jup_s eg139
                    refine st_gi jo_176 (fun v141 ev141 b142 => ?_)
                    replace ev141 : v141 = g139 176 6 := ev141
                    replace b142 := (jbf_12_6 jo_176 _).1 b142
                    have e143 : jw32 (v141 - 1) = v141 - 1 := j32e (by omega) (by omega)
                    exact st_r0 (ls := []) ⟨rfl, rfl, fg139, jw32 (v141 - 1), rfl, (by omega), (by unfold P_X12_decree; first | exact Or.inl ⟨by omega, by omega⟩ | exact Or.inr (Or.inl ⟨by omega, by omega⟩) | exact Or.inr (Or.inr (Or.inl ⟨by omega, by omega⟩)) | exact Or.inr (Or.inr (Or.inr ⟨by omega, by omega, by omega⟩)))⟩
                  · replace c115 : v113 = 40 := by first | exact c115 | exact Int.not_le.mp c115 | exact Int.not_lt.mp c115 | exact Decidable.not_not.mp c115
                    show jGo E l 45 229 229 _ 107 [.inr (.inr (.inl 176)), .inl a1, .inl a2, .inl a3, .inl a4] [] 229 jr0 h
                    refine jGo_blk qX12_decree_107 ?_
                    refine st_cv (na := 1) (st := [.inl (-6), .inr (.inr (.inl 176))]) jo_176 rfl rfl rfl (c_X12_refuse (-6) h (by omega)) rfl ?_
                    rintro _ _ g145 ⟨rfl, ft144, t144, rfl, ht144, zt144⟩ kt144
                    replace kt144 : -2147483648 ≤ t144 ∧ t144 ≤ 2147483647 := kt144
                    replace ht144 : -7 ≤ t144 ∧ t144 ≤ -1 := ht144
                    have fg145 : jfr w_X12_decree h g145 := jfr_tr f0 ft144 (fun i k q => by unfold w_X12_refuse at q; unfold w_X12_decree; omega)
                    replace zt144 : t144 = (-6 : Int) := zt144
                    have e146 : g145 176 6 = h 176 6 := ft144 176 6 (by unfold w_X12_refuse; omega)
                    exact st_r0 (ls := []) ⟨rfl, rfl, fg145, t144, rfl, (by omega), (by unfold P_X12_decree; first | exact Or.inl ⟨by omega, by omega⟩ | exact Or.inr (Or.inl ⟨by omega, by omega⟩) | exact Or.inr (Or.inr (Or.inl ⟨by omega, by omega⟩)) | exact Or.inr (Or.inr (Or.inr ⟨by omega, by omega, by omega⟩)))⟩
          · replace c17 : a4 < v15 := by first | exact c17 | exact Int.not_le.mp c17 | exact Int.not_lt.mp c17 | exact Decidable.not_not.mp c17
            show jGo E l 45 229 229 _ 47 [.inr (.inr (.inl 176)), .inl a1, .inl a2, .inl a3, .inl a4] [] 229 jr0 h
            refine jGo_blk qX12_decree_47 ?_
            refine st_cv (na := 1) (st := [.inl (-4), .inr (.inr (.inl 176))]) jo_176 rfl rfl rfl (c_X12_refuse (-4) h (by omega)) rfl ?_
            rintro _ _ g148 ⟨rfl, ft147, t147, rfl, ht147, zt147⟩ kt147
            replace kt147 : -2147483648 ≤ t147 ∧ t147 ≤ 2147483647 := kt147
            replace ht147 : -7 ≤ t147 ∧ t147 ≤ -1 := ht147
            have fg148 : jfr w_X12_decree h g148 := jfr_tr f0 ft147 (fun i k q => by unfold w_X12_refuse at q; unfold w_X12_decree; omega)
            replace zt147 : t147 = (-4 : Int) := zt147
            have e149 : g148 176 6 = h 176 6 := ft147 176 6 (by unfold w_X12_refuse; omega)
            exact st_r0 (ls := []) ⟨rfl, rfl, fg148, t147, rfl, (by omega), (by unfold P_X12_decree; first | exact Or.inl ⟨by omega, by omega⟩ | exact Or.inr (Or.inl ⟨by omega, by omega⟩) | exact Or.inr (Or.inr (Or.inl ⟨by omega, by omega⟩)) | exact Or.inr (Or.inr (Or.inr ⟨by omega, by omega, by omega⟩)))⟩
      · replace c10 : a1 = 3 := by first | exact c10 | exact Int.not_le.mp c10 | exact Int.not_lt.mp c10 | exact Decidable.not_not.mp c10
        show jGo E l 45 229 229 _ 35 [.inr (.inr (.inl 176)), .inl a1, .inl a2, .inl a3, .inl a4] [.inl 1, .inl a3] 229 jr0 h
        refine jGo_blk qX12_decree_35 ?_
        refine And.intro (fun c150 => ?_) (fun c150 => ?_)
        · replace c150 : a3 < 1 := c150
          show jGo E l 45 229 229 _ 47 [.inr (.inr (.inl 176)), .inl a1, .inl a2, .inl a3, .inl a4] [] 229 jr0 h
          refine jGo_blk qX12_decree_47 ?_
          refine st_cv (na := 1) (st := [.inl (-4), .inr (.inr (.inl 176))]) jo_176 rfl rfl rfl (c_X12_refuse (-4) h (by omega)) rfl ?_
          rintro _ _ g152 ⟨rfl, ft151, t151, rfl, ht151, zt151⟩ kt151
          replace kt151 : -2147483648 ≤ t151 ∧ t151 ≤ 2147483647 := kt151
          replace ht151 : -7 ≤ t151 ∧ t151 ≤ -1 := ht151
          have fg152 : jfr w_X12_decree h g152 := jfr_tr f0 ft151 (fun i k q => by unfold w_X12_refuse at q; unfold w_X12_decree; omega)
          replace zt151 : t151 = (-4 : Int) := zt151
          have e153 : g152 176 6 = h 176 6 := ft151 176 6 (by unfold w_X12_refuse; omega)
          exact st_r0 (ls := []) ⟨rfl, rfl, fg152, t151, rfl, (by omega), (by unfold P_X12_decree; first | exact Or.inl ⟨by omega, by omega⟩ | exact Or.inr (Or.inl ⟨by omega, by omega⟩) | exact Or.inr (Or.inr (Or.inl ⟨by omega, by omega⟩)) | exact Or.inr (Or.inr (Or.inr ⟨by omega, by omega, by omega⟩)))⟩
        · replace c150 : 1 ≤ a3 := by first | exact c150 | exact Int.not_le.mp c150 | exact Int.not_lt.mp c150 | exact Decidable.not_not.mp c150
          refine st_gi jo_176 (fun v154 ev154 b155 => ?_)
          replace ev154 : v154 = h 176 0 := ev154
          replace b155 := (jbf_12_0 jo_176 _).1 b155
          refine And.intro (fun c156 => ?_) (fun c156 => ?_)
          · replace c156 : v154 ≤ a4 := c156
            show jGo E l 45 229 229 _ 54 [.inr (.inr (.inl 176)), .inl a1, .inl a2, .inl a3, .inl a4] [] 229 jr0 h
            refine jGo_blk qX12_decree_54 ?_
            refine And.intro (fun c157 => ?_) (fun c157 => ?_)
            · replace c157 : ¬ a1 = 0 := c157
              show jGo E l 45 229 229 _ 64 [.inr (.inr (.inl 176)), .inl a1, .inl a2, .inl a3, .inl a4] [.inl a3] 229 jr0 h
              refine jGo_blk qX12_decree_64 ?_
              refine And.intro (fun c158 => ?_) (fun c158 => ?_)
              · replace c158 : ¬ a1 = 1 := c158
                show jGo E l 45 229 229 _ 74 [.inr (.inr (.inl 176)), .inl a1, .inl a2, .inl a3, .inl a4] [.inl a3] 229 jr0 h
                refine jGo_blk qX12_decree_74 ?_
                refine And.intro (fun c159 => ?_) (fun c159 => ?_)
                · replace c159 : ¬ a1 = 2 := c159
                  show jGo E l 45 229 229 _ 84 [.inr (.inr (.inl 176)), .inl a1, .inl a2, .inl a3, .inl a4] [.inl a3] 229 jr0 h
                  refine jGo_blk qX12_decree_84 ?_
                  show jGo E l 45 229 229 _ 87 [.inr (.inr (.inl 176)), .inl a1, .inl a2, .inl a3, .inl a4] [.inl 200, .inl a3] 229 jr0 h
                  refine jGo_blk qX12_decree_87 ?_
                  refine And.intro (fun c160 => ?_) (fun c160 => ?_)
                  · replace c160 : 200 < a3 := c160
                    show jGo E l 45 229 229 _ 107 [.inr (.inr (.inl 176)), .inl a1, .inl a2, .inl a3, .inl a4] [] 229 jr0 h
                    refine jGo_blk qX12_decree_107 ?_
                    refine st_cv (na := 1) (st := [.inl (-6), .inr (.inr (.inl 176))]) jo_176 rfl rfl rfl (c_X12_refuse (-6) h (by omega)) rfl ?_
                    rintro _ _ g162 ⟨rfl, ft161, t161, rfl, ht161, zt161⟩ kt161
                    replace kt161 : -2147483648 ≤ t161 ∧ t161 ≤ 2147483647 := kt161
                    replace ht161 : -7 ≤ t161 ∧ t161 ≤ -1 := ht161
                    have fg162 : jfr w_X12_decree h g162 := jfr_tr f0 ft161 (fun i k q => by unfold w_X12_refuse at q; unfold w_X12_decree; omega)
                    replace zt161 : t161 = (-6 : Int) := zt161
                    have e163 : g162 176 6 = h 176 6 := ft161 176 6 (by unfold w_X12_refuse; omega)
                    exact st_r0 (ls := []) ⟨rfl, rfl, fg162, t161, rfl, (by omega), (by unfold P_X12_decree; first | exact Or.inl ⟨by omega, by omega⟩ | exact Or.inr (Or.inl ⟨by omega, by omega⟩) | exact Or.inr (Or.inr (Or.inl ⟨by omega, by omega⟩)) | exact Or.inr (Or.inr (Or.inr ⟨by omega, by omega, by omega⟩)))⟩
                  · replace c160 : a3 ≤ 200 := by first | exact c160 | exact Int.not_le.mp c160 | exact Int.not_lt.mp c160 | exact Decidable.not_not.mp c160
                    refine And.intro (fun c164 => ?_) (fun c164 => ?_)
                    · replace c164 : 2000 < a4 := c164
                      show jGo E l 45 229 229 _ 107 [.inr (.inr (.inl 176)), .inl a1, .inl a2, .inl a3, .inl a4] [] 229 jr0 h
                      refine jGo_blk qX12_decree_107 ?_
                      refine st_cv (na := 1) (st := [.inl (-6), .inr (.inr (.inl 176))]) jo_176 rfl rfl rfl (c_X12_refuse (-6) h (by omega)) rfl ?_
                      rintro _ _ g166 ⟨rfl, ft165, t165, rfl, ht165, zt165⟩ kt165
                      replace kt165 : -2147483648 ≤ t165 ∧ t165 ≤ 2147483647 := kt165
                      replace ht165 : -7 ≤ t165 ∧ t165 ≤ -1 := ht165
                      have fg166 : jfr w_X12_decree h g166 := jfr_tr f0 ft165 (fun i k q => by unfold w_X12_refuse at q; unfold w_X12_decree; omega)
                      replace zt165 : t165 = (-6 : Int) := zt165
                      have e167 : g166 176 6 = h 176 6 := ft165 176 6 (by unfold w_X12_refuse; omega)
                      exact st_r0 (ls := []) ⟨rfl, rfl, fg166, t165, rfl, (by omega), (by unfold P_X12_decree; first | exact Or.inl ⟨by omega, by omega⟩ | exact Or.inr (Or.inl ⟨by omega, by omega⟩) | exact Or.inr (Or.inr (Or.inl ⟨by omega, by omega⟩)) | exact Or.inr (Or.inr (Or.inr ⟨by omega, by omega, by omega⟩)))⟩
                    · replace c164 : a4 ≤ 2000 := by first | exact c164 | exact Int.not_le.mp c164 | exact Int.not_lt.mp c164 | exact Decidable.not_not.mp c164
                      refine st_gi jo_176 (fun v168 ev168 b169 => ?_)
                      replace ev168 : v168 = h 176 6 := ev168
                      replace b169 := (jbf_12_6 jo_176 _).1 b169
                      refine And.intro (fun c170 => ?_) (fun c170 => ?_)
                      · replace c170 : ¬ v168 = 40 := c170
                        show jGo E l 45 229 229 _ 114 [.inr (.inr (.inl 176)), .inl a1, .inl a2, .inl a3, .inl a4] [] 229 jr0 h
                        refine jGo_blk qX12_decree_114 ?_
                        refine st_gr jo_176 jr_176_7 ?_
                        refine st_gi jo_176 (fun v171 ev171 b172 => ?_)
                        replace ev171 : v171 = h 176 6 := ev171
                        replace b172 := (jbf_12_6 jo_176 _).1 b172
                        refine st_si jo_182 (show 0 ≤ v171 by omega) (show v171 < ((40 : Nat) : Int) by omega) (fun hx => (jba_182 _ _).2 (show 0 ≤ a1 ∧ a1 ≤ 3 by omega)) (fun g173 eg173 => ?_)
                        replace eg173 : g173 = jup h 182 v171 a1 := eg173
                        have fg173 : jfr w_X12_decree h g173 := jfr_up f0 eg173 (by unfold w_X12_decree; omega)
                        have e174 : g173 182 v171 = a1 := jup_s eg173
                        refine st_gr jo_176 jr_176_8 ?_
                        refine st_gi jo_176 (fun v175 ev175 b176 => ?_)
                        replace ev175 : v175 = g173 176 6 := ev175
                        replace b176 := (jbf_12_6 jo_176 _).1 b176
                        have e177 : g173 176 6 = h 176 6 := jup_o eg173 (by omega)
                        refine st_si jo_183 (show 0 ≤ v175 by omega) (show v175 < ((40 : Nat) : Int) by omega) (fun hx => (jba_183 _ _).2 (show 0 ≤ a2 ∧ a2 ≤ 3 by omega)) (fun g178 eg178 => ?_)
                        replace eg178 : g178 = jup g173 183 v175 a2 := eg178
                        have fg178 : jfr w_X12_decree h g178 := jfr_up fg173 eg178 (by unfold w_X12_decree; omega)
                        have e179 : g178 183 v175 = a2 := jup_s eg178
                        refine st_gr jo_176 jr_176_9 ?_
                        refine st_gi jo_176 (fun v180 ev180 b181 => ?_)
                        replace ev180 : v180 = g178 176 6 := ev180
                        replace b181 := (jbf_12_6 jo_176 _).1 b181
                        have e182 : g178 176 6 = g173 176 6 := jup_o eg178 (by omega)
                        refine st_si jo_184 (show 0 ≤ v180 by omega) (show v180 < ((40 : Nat) : Int) by omega) (fun hx => (jba_184 _ _).2 (show 0 ≤ a3 ∧ a3 ≤ 200 by omega)) (fun g183 eg183 => ?_)
                        replace eg183 : g183 = jup g178 184 v180 a3 := eg183
                        have fg183 : jfr w_X12_decree h g183 := jfr_up fg178 eg183 (by unfold w_X12_decree; omega)
                        have e184 : g183 184 v180 = a3 := jup_s eg183
                        refine st_gr jo_176 jr_176_10 ?_
                        refine st_gi jo_176 (fun v185 ev185 b186 => ?_)
                        replace ev185 : v185 = g183 176 6 := ev185
                        replace b186 := (jbf_12_6 jo_176 _).1 b186
                        have e187 : g183 176 6 = g178 176 6 := jup_o eg183 (by omega)
                        refine st_si jo_185 (show 0 ≤ v185 by omega) (show v185 < ((40 : Nat) : Int) by omega) (fun hx => (jba_185 _ _).2 (show 0 ≤ a4 ∧ a4 ≤ 2000 by omega)) (fun g188 eg188 => ?_)
                        replace eg188 : g188 = jup g183 185 v185 a4 := eg188
                        have fg188 : jfr w_X12_decree h g188 := jfr_up fg183 eg188 (by unfold w_X12_decree; omega)
                        have e189 : g188 185 v185 = a4 := jup_s eg188
                        refine st_gi jo_176 (fun v190 ev190 b191 => ?_)
                        replace ev190 : v190 = g188 176 6 := ev190
                        replace b191 := (jbf_12_6 jo_176 _).1 b191
                        have e192 : g188 176 6 = g183 176 6 := jup_o eg188 (by omega)
                        have e193 : jw32 (v190 + 1) = v190 + 1 := j32e (by omega) (by omega)
                        refine st_pi jo_176 (fun hx => (jbf_12_6 jo_176 _).2 (show 0 ≤ jw32 (v190 + 1) ∧ jw32 (v190 + 1) ≤ 40 by omega)) (fun g194 eg194 => ?_)
                        replace eg194 : g194 = jup g188 176 6 (jw32 (v190 + 1)) := eg194
                        have fg194 : jfr w_X12_decree h g194 := jfr_up fg188 eg194 (by unfold w_X12_decree; omega)
                        have e195 : g194 176 6 = jw32 (v190 + 1) := jup_s eg194
                        refine st_gi jo_176 (fun v196 ev196 b197 => ?_)
                        replace ev196 : v196 = g194 176 6 := ev196
                        replace b197 := (jbf_12_6 jo_176 _).1 b197
                        have e198 : jw32 (v196 - 1) = v196 - 1 := j32e (by omega) (by omega)
                        exact st_r0 (ls := []) ⟨rfl, rfl, fg194, jw32 (v196 - 1), rfl, (by omega), (by unfold P_X12_decree; first | exact Or.inl ⟨by omega, by omega⟩ | exact Or.inr (Or.inl ⟨by omega, by omega⟩) | exact Or.inr (Or.inr (Or.inl ⟨by omega, by omega⟩)) | exact Or.inr (Or.inr (Or.inr ⟨by omega, by omega, by omega⟩)))⟩
                      · replace c170 : v168 = 40 := by first | exact c170 | exact Int.not_le.mp c170 | exact Int.not_lt.mp c170 | exact Decidable.not_not.mp c170
                        show jGo E l 45 229 229 _ 107 [.inr (.inr (.inl 176)), .inl a1, .inl a2, .inl a3, .inl a4] [] 229 jr0 h
                        refine jGo_blk qX12_decree_107 ?_
                        refine st_cv (na := 1) (st := [.inl (-6), .inr (.inr (.inl 176))]) jo_176 rfl rfl rfl (c_X12_refuse (-6) h (by omega)) rfl ?_
                        rintro _ _ g200 ⟨rfl, ft199, t199, rfl, ht199, zt199⟩ kt199
                        replace kt199 : -2147483648 ≤ t199 ∧ t199 ≤ 2147483647 := kt199
                        replace ht199 : -7 ≤ t199 ∧ t199 ≤ -1 := ht199
                        have fg200 : jfr w_X12_decree h g200 := jfr_tr f0 ft199 (fun i k q => by unfold w_X12_refuse at q; unfold w_X12_decree; omega)
                        replace zt199 : t199 = (-6 : Int) := zt199
                        have e201 : g200 176 6 = h 176 6 := ft199 176 6 (by unfold w_X12_refuse; omega)
                        exact st_r0 (ls := []) ⟨rfl, rfl, fg200, t199, rfl, (by omega), (by unfold P_X12_decree; first | exact Or.inl ⟨by omega, by omega⟩ | exact Or.inr (Or.inl ⟨by omega, by omega⟩) | exact Or.inr (Or.inr (Or.inl ⟨by omega, by omega⟩)) | exact Or.inr (Or.inr (Or.inr ⟨by omega, by omega, by omega⟩)))⟩
                · replace c159 : a1 = 2 := by first | exact c159 | exact Int.not_le.mp c159 | exact Int.not_lt.mp c159 | exact Decidable.not_not.mp c159
                  exfalso; omega
              · replace c158 : a1 = 1 := by first | exact c158 | exact Int.not_le.mp c158 | exact Int.not_lt.mp c158 | exact Decidable.not_not.mp c158
                exfalso; omega
            · replace c157 : a1 = 0 := by first | exact c157 | exact Int.not_le.mp c157 | exact Int.not_lt.mp c157 | exact Decidable.not_not.mp c157
              exfalso; omega
          · replace c156 : a4 < v154 := by first | exact c156 | exact Int.not_le.mp c156 | exact Int.not_lt.mp c156 | exact Decidable.not_not.mp c156
            show jGo E l 45 229 229 _ 47 [.inr (.inr (.inl 176)), .inl a1, .inl a2, .inl a3, .inl a4] [] 229 jr0 h
            refine jGo_blk qX12_decree_47 ?_
            refine st_cv (na := 1) (st := [.inl (-4), .inr (.inr (.inl 176))]) jo_176 rfl rfl rfl (c_X12_refuse (-4) h (by omega)) rfl ?_
            rintro _ _ g203 ⟨rfl, ft202, t202, rfl, ht202, zt202⟩ kt202
            replace kt202 : -2147483648 ≤ t202 ∧ t202 ≤ 2147483647 := kt202
            replace ht202 : -7 ≤ t202 ∧ t202 ≤ -1 := ht202
            have fg203 : jfr w_X12_decree h g203 := jfr_tr f0 ft202 (fun i k q => by unfold w_X12_refuse at q; unfold w_X12_decree; omega)
            replace zt202 : t202 = (-4 : Int) := zt202
            have e204 : g203 176 6 = h 176 6 := ft202 176 6 (by unfold w_X12_refuse; omega)
            exact st_r0 (ls := []) ⟨rfl, rfl, fg203, t202, rfl, (by omega), (by unfold P_X12_decree; first | exact Or.inl ⟨by omega, by omega⟩ | exact Or.inr (Or.inl ⟨by omega, by omega⟩) | exact Or.inr (Or.inr (Or.inl ⟨by omega, by omega⟩)) | exact Or.inr (Or.inr (Or.inr ⟨by omega, by omega, by omega⟩)))⟩
    · replace c9 : t7 = 0 := by first | exact c9 | exact Int.not_le.mp c9 | exact Int.not_lt.mp c9 | exact Decidable.not_not.mp c9
      show jGo E l 45 229 229 _ 18 [.inr (.inr (.inl 176)), .inl a1, .inl a2, .inl a3, .inl a4] [] 229 jr0 h
      refine jGo_blk qX12_decree_18 ?_
      refine st_cv (na := 1) (st := [.inl (-1), .inr (.inr (.inl 176))]) jo_176 rfl rfl rfl (c_X12_refuse (-1) h (by omega)) rfl ?_
      rintro _ _ g206 ⟨rfl, ft205, t205, rfl, ht205, zt205⟩ kt205
      replace kt205 : -2147483648 ≤ t205 ∧ t205 ≤ 2147483647 := kt205
      replace ht205 : -7 ≤ t205 ∧ t205 ≤ -1 := ht205
      have fg206 : jfr w_X12_decree h g206 := jfr_tr f0 ft205 (fun i k q => by unfold w_X12_refuse at q; unfold w_X12_decree; omega)
      replace zt205 : t205 = (-1 : Int) := zt205
      have e207 : g206 176 6 = h 176 6 := ft205 176 6 (by unfold w_X12_refuse; omega)
      exact st_r0 (ls := []) ⟨rfl, rfl, fg206, t205, rfl, (by omega), (by unfold P_X12_decree; first | exact Or.inl ⟨by omega, by omega⟩ | exact Or.inr (Or.inl ⟨by omega, by omega⟩) | exact Or.inr (Or.inr (Or.inl ⟨by omega, by omega⟩)) | exact Or.inr (Or.inr (Or.inr ⟨by omega, by omega, by omega⟩)))⟩
