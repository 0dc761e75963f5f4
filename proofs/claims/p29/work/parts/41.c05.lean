def w_X12_decree (i k : Int) : Prop := (182 ≤ i ∧ i ≤ 185) ∨ (i = 219) ∨ (i = 176 ∧ k = 6)
theorem ws_X12_refuse__X12_decree (i k : Int) (q : w_X12_refuse i k) : w_X12_decree i k := by
  unfold w_X12_refuse at q; unfold w_X12_decree
  exact (Or.inr (Or.inl (by omega)))
def k_X12_decree (a1 : Int) (a2 : Int) (a3 : Int) (a4 : Int) (h : JH) (v : Option JV) (r' g : JH) : Prop := r' = jr0 ∧ jfr w_X12_decree h g ∧ ∃ x : Int, v = some (.inl x) ∧ (-7 ≤ x ∧ x ≤ 39) ∧ ((P_X12_decree a1 a2 a3 a4 x h g) ∧ jRx (x < 0) h g)
set_option maxHeartbeats 4000000 in
theorem c_X12_decree {E : JE} {l : Launch} (a1 : Int) (a2 : Int) (a3 : Int) (a4 : Int) (h : JH) : jMt E l 45 [.inr (.inr (.inl 176)), .inl a1, .inl a2, .inl a3, .inl a4] 229 jr0 h (k_X12_decree a1 a2 a3 a4 h) := by
  refine jMt0 (nL := 5) (ls := [.inr (.inr (.inl 176)), .inl a1, .inl a2, .inl a3, .inl a4]) (by decide +kernel) (by decide +kernel) (by decide +kernel) rfl rfl ?_
  have f0 : jfr w_X12_decree h h := jfr_rf _ _
  refine jGo_blk qX12_decree_0 ?_
  refine st_cs (na := 3) (st := [.inl 3, .inl 0, .inl a1]) rfl rfl rfl (c_X12_in a1 0 3 h) rfl ?_
  rintro _ _ _ ⟨rfl, rfl, t1, rfl, ht1, zt1⟩ kt1
  replace kt1 : -2147483648 ≤ t1 ∧ t1 ≤ 2147483647 := kt1
  replace ht1 : 0 ≤ t1 ∧ t1 ≤ 1 := ht1
  replace zt1 : (t1 = 1 ∧ (0 : Int) ≤ a1 ∧ a1 ≤ (3 : Int)) ∨ (t1 = 0 ∧ ¬ ((0 : Int) ≤ a1 ∧ a1 ≤ (3 : Int))) := zt1
  refine And.intro (fun c3 => ?_) (fun c3 => ?_)
  · replace c3 : t1 = 0 := c3
    show jGo E l 45 229 229 _ 18 [.inr (.inr (.inl 176)), .inl a1, .inl a2, .inl a3, .inl a4] [] 229 jr0 h
    refine jGo_blk qX12_decree_18 ?_
    refine st_cv (na := 1) (st := [.inl (-1), .inr (.inr (.inl 176))]) jo_176 rfl rfl rfl (c_X12_refuse (-1) h (by omega)) rfl ?_
    rintro _ _ g5 ⟨rfl, ft4, t4, rfl, ht4, zt4⟩ kt4
    replace kt4 : -2147483648 ≤ t4 ∧ t4 ≤ 2147483647 := kt4
    replace ht4 : -7 ≤ t4 ∧ t4 ≤ -1 := ht4
    have fg5 : jfr w_X12_decree h g5 := jfr_tr f0 ft4 ws_X12_refuse__X12_decree
    replace zt4 : t4 = (-1 : Int) := zt4
    have e6 : g5 176 6 = h 176 6 := ft4 176 6 (by unfold w_X12_refuse; omega)
    have hs7 : ∀ i k : Int, 182 ≤ i → i ≤ 185 → g5 i k = h i k := fun i k p1 p2 => (ft4 i k (by unfold w_X12_refuse; omega))
    exact st_r0 (ls := []) ⟨rfl, rfl, fg5, t4, rfl, (by omega), (by refine ⟨by unfold P_X12_decree; first | exact Or.inl ⟨by omega, by omega, hs7⟩ | exact Or.inr (Or.inl ⟨by omega, by omega, hs7⟩) | exact Or.inr (Or.inr (Or.inl ⟨by omega, by omega, hs7⟩)), fun _ i k q9 => ?_⟩; exact (ft4 i k (jzma_w_X12_refuse q9)))⟩
  · replace c3 : ¬ t1 = 0 := by first | exact c3 | exact Int.not_le.mp c3 | exact Int.not_lt.mp c3 | exact Decidable.not_not.mp c3
    refine st_cs (na := 3) (st := [.inl 3, .inl 0, .inl a2]) rfl rfl rfl (c_X12_in a2 0 3 h) rfl ?_
    rintro _ _ _ ⟨rfl, rfl, t8, rfl, ht8, zt8⟩ kt8
    replace kt8 : -2147483648 ≤ t8 ∧ t8 ≤ 2147483647 := kt8
    replace ht8 : 0 ≤ t8 ∧ t8 ≤ 1 := ht8
    replace zt8 : (t8 = 1 ∧ (0 : Int) ≤ a2 ∧ a2 ≤ (3 : Int)) ∨ (t8 = 0 ∧ ¬ ((0 : Int) ≤ a2 ∧ a2 ≤ (3 : Int))) := zt8
    refine And.intro (fun c10 => ?_) (fun c10 => ?_)
    · replace c10 : ¬ t8 = 0 := c10
      show jGo E l 45 229 229 _ 24 [.inr (.inr (.inl 176)), .inl a1, .inl a2, .inl a3, .inl a4] [] 229 jr0 h
      refine jGo_blk qX12_decree_24 ?_
      refine And.intro (fun c11 => ?_) (fun c11 => ?_)
      · replace c11 : ¬ a1 = 3 := c11
        show jGo E l 45 229 229 _ 34 [.inr (.inr (.inl 176)), .inl a1, .inl a2, .inl a3, .inl a4] [.inl a3] 229 jr0 h
        refine jGo_blk qX12_decree_34 ?_
        show jGo E l 45 229 229 _ 35 [.inr (.inr (.inl 176)), .inl a1, .inl a2, .inl a3, .inl a4] [.inl 0, .inl a3] 229 jr0 h
        refine jGo_blk qX12_decree_35 ?_
        refine And.intro (fun c12 => ?_) (fun c12 => ?_)
        · replace c12 : a3 < 0 := c12
          show jGo E l 45 229 229 _ 47 [.inr (.inr (.inl 176)), .inl a1, .inl a2, .inl a3, .inl a4] [] 229 jr0 h
          refine jGo_blk qX12_decree_47 ?_
          refine st_cv (na := 1) (st := [.inl (-4), .inr (.inr (.inl 176))]) jo_176 rfl rfl rfl (c_X12_refuse (-4) h (by omega)) rfl ?_
          rintro _ _ g14 ⟨rfl, ft13, t13, rfl, ht13, zt13⟩ kt13
          replace kt13 : -2147483648 ≤ t13 ∧ t13 ≤ 2147483647 := kt13
          replace ht13 : -7 ≤ t13 ∧ t13 ≤ -1 := ht13
          have fg14 : jfr w_X12_decree h g14 := jfr_tr f0 ft13 ws_X12_refuse__X12_decree
          replace zt13 : t13 = (-4 : Int) := zt13
          have e15 : g14 176 6 = h 176 6 := ft13 176 6 (by unfold w_X12_refuse; omega)
          have hs16 : ∀ i k : Int, 182 ≤ i → i ≤ 185 → g14 i k = h i k := fun i k p1 p2 => (ft13 i k (by unfold w_X12_refuse; omega))
          exact st_r0 (ls := []) ⟨rfl, rfl, fg14, t13, rfl, (by omega), (by refine ⟨by unfold P_X12_decree; first | exact Or.inl ⟨by omega, by omega, hs16⟩ | exact Or.inr (Or.inl ⟨by omega, by omega, hs16⟩) | exact Or.inr (Or.inr (Or.inl ⟨by omega, by omega, hs16⟩)), fun _ i k q9 => ?_⟩; exact (ft13 i k (jzma_w_X12_refuse q9)))⟩
        · replace c12 : 0 ≤ a3 := by first | exact c12 | exact Int.not_le.mp c12 | exact Int.not_lt.mp c12 | exact Decidable.not_not.mp c12
          refine st_gi jo_176 (fun v17 ev17 b18 => ?_)
          replace ev17 : v17 = h 176 0 := ev17
          replace b18 := (jbf_12_0 jo_176 _).1 b18
          refine And.intro (fun c19 => ?_) (fun c19 => ?_)
          · replace c19 : v17 ≤ a4 := c19
            show jGo E l 45 229 229 _ 54 [.inr (.inr (.inl 176)), .inl a1, .inl a2, .inl a3, .inl a4] [] 229 jr0 h
            refine jGo_blk qX12_decree_54 ?_
            refine And.intro (fun c20 => ?_) (fun c20 => ?_)
            · replace c20 : ¬ a1 = 0 := c20
              show jGo E l 45 229 229 _ 64 [.inr (.inr (.inl 176)), .inl a1, .inl a2, .inl a3, .inl a4] [.inl a3] 229 jr0 h
              refine jGo_blk qX12_decree_64 ?_
              refine And.intro (fun c21 => ?_) (fun c21 => ?_)
              · replace c21 : ¬ a1 = 1 := c21
                show jGo E l 45 229 229 _ 74 [.inr (.inr (.inl 176)), .inl a1, .inl a2, .inl a3, .inl a4] [.inl a3] 229 jr0 h
                refine jGo_blk qX12_decree_74 ?_
                refine And.intro (fun c22 => ?_) (fun c22 => ?_)
                · replace c22 : ¬ a1 = 2 := c22
                  exfalso; omega
                · replace c22 : a1 = 2 := by first | exact c22 | exact Int.not_le.mp c22 | exact Int.not_lt.mp c22 | exact Decidable.not_not.mp c22
                  show jGo E l 45 229 229 _ 87 [.inr (.inr (.inl 176)), .inl a1, .inl a2, .inl a3, .inl a4] [.inl 60, .inl a3] 229 jr0 h
                  refine jGo_blk qX12_decree_87 ?_
                  refine And.intro (fun c23 => ?_) (fun c23 => ?_)
                  · replace c23 : 60 < a3 := c23
                    show jGo E l 45 229 229 _ 107 [.inr (.inr (.inl 176)), .inl a1, .inl a2, .inl a3, .inl a4] [] 229 jr0 h
                    refine jGo_blk qX12_decree_107 ?_
                    refine st_cv (na := 1) (st := [.inl (-6), .inr (.inr (.inl 176))]) jo_176 rfl rfl rfl (c_X12_refuse (-6) h (by omega)) rfl ?_
                    rintro _ _ g25 ⟨rfl, ft24, t24, rfl, ht24, zt24⟩ kt24
                    replace kt24 : -2147483648 ≤ t24 ∧ t24 ≤ 2147483647 := kt24
                    replace ht24 : -7 ≤ t24 ∧ t24 ≤ -1 := ht24
                    have fg25 : jfr w_X12_decree h g25 := jfr_tr f0 ft24 ws_X12_refuse__X12_decree
                    replace zt24 : t24 = (-6 : Int) := zt24
                    have e26 : g25 176 6 = h 176 6 := ft24 176 6 (by unfold w_X12_refuse; omega)
                    have hs27 : ∀ i k : Int, 182 ≤ i → i ≤ 185 → g25 i k = h i k := fun i k p1 p2 => (ft24 i k (by unfold w_X12_refuse; omega))
                    exact st_r0 (ls := []) ⟨rfl, rfl, fg25, t24, rfl, (by omega), (by refine ⟨by unfold P_X12_decree; first | exact Or.inl ⟨by omega, by omega, hs27⟩ | exact Or.inr (Or.inl ⟨by omega, by omega, hs27⟩) | exact Or.inr (Or.inr (Or.inl ⟨by omega, by omega, hs27⟩)), fun _ i k q9 => ?_⟩; exact (ft24 i k (jzma_w_X12_refuse q9)))⟩
                  · replace c23 : a3 ≤ 60 := by first | exact c23 | exact Int.not_le.mp c23 | exact Int.not_lt.mp c23 | exact Decidable.not_not.mp c23
                    refine And.intro (fun c28 => ?_) (fun c28 => ?_)
                    · replace c28 : 2000 < a4 := c28
                      show jGo E l 45 229 229 _ 107 [.inr (.inr (.inl 176)), .inl a1, .inl a2, .inl a3, .inl a4] [] 229 jr0 h
                      refine jGo_blk qX12_decree_107 ?_
                      refine st_cv (na := 1) (st := [.inl (-6), .inr (.inr (.inl 176))]) jo_176 rfl rfl rfl (c_X12_refuse (-6) h (by omega)) rfl ?_
                      rintro _ _ g30 ⟨rfl, ft29, t29, rfl, ht29, zt29⟩ kt29
                      replace kt29 : -2147483648 ≤ t29 ∧ t29 ≤ 2147483647 := kt29
                      replace ht29 : -7 ≤ t29 ∧ t29 ≤ -1 := ht29
                      have fg30 : jfr w_X12_decree h g30 := jfr_tr f0 ft29 ws_X12_refuse__X12_decree
                      replace zt29 : t29 = (-6 : Int) := zt29
                      have e31 : g30 176 6 = h 176 6 := ft29 176 6 (by unfold w_X12_refuse; omega)
                      have hs32 : ∀ i k : Int, 182 ≤ i → i ≤ 185 → g30 i k = h i k := fun i k p1 p2 => (ft29 i k (by unfold w_X12_refuse; omega))
                      exact st_r0 (ls := []) ⟨rfl, rfl, fg30, t29, rfl, (by omega), (by refine ⟨by unfold P_X12_decree; first | exact Or.inl ⟨by omega, by omega, hs32⟩ | exact Or.inr (Or.inl ⟨by omega, by omega, hs32⟩) | exact Or.inr (Or.inr (Or.inl ⟨by omega, by omega, hs32⟩)), fun _ i k q9 => ?_⟩; exact (ft29 i k (jzma_w_X12_refuse q9)))⟩
                    · replace c28 : a4 ≤ 2000 := by first | exact c28 | exact Int.not_le.mp c28 | exact Int.not_lt.mp c28 | exact Decidable.not_not.mp c28
                      refine st_gi jo_176 (fun v33 ev33 b34 => ?_)
                      replace ev33 : v33 = h 176 6 := ev33
                      replace b34 := (jbf_12_6 jo_176 _).1 b34
                      refine And.intro (fun c35 => ?_) (fun c35 => ?_)
                      · replace c35 : ¬ v33 = 40 := c35
                        show jGo E l 45 229 229 _ 114 [.inr (.inr (.inl 176)), .inl a1, .inl a2, .inl a3, .inl a4] [] 229 jr0 h
                        refine jGo_blk qX12_decree_114 ?_
                        refine st_gr jo_176 jr_176_7 ?_
                        refine st_gi jo_176 (fun v36 ev36 b37 => ?_)
                        replace ev36 : v36 = h 176 6 := ev36
                        replace b37 := (jbf_12_6 jo_176 _).1 b37
                        refine st_si jo_182 (show 0 ≤ v36 by omega) (show v36 < ((40 : Nat) : Int) by omega) (fun hx => (jba_182 _ _).2 (show 0 ≤ a1 ∧ a1 ≤ 3 by omega)) (fun g38 eg38 => ?_)
                        replace eg38 : g38 = jup h 182 v36 a1 := eg38
                        have fg38 : jfr w_X12_decree h g38 := jfr_up f0 eg38 (by unfold w_X12_decree; omega)
                        have e39 : g38 182 v36 = a1 := jup_s eg38
                        refine st_gr jo_176 jr_176_8 ?_
                        refine st_gi jo_176 (fun v40 ev40 b41 => ?_)
                        replace ev40 : v40 = g38 176 6 := ev40
                        replace b41 := (jbf_12_6 jo_176 _).1 b41
                        have e42 : g38 176 6 = h 176 6 := jup_o eg38 (by first | exact fun q => absurd q.1 (by decide) | exact fun q => absurd q.2 (by decide) | omega)
                        refine st_si jo_183 (show 0 ≤ v40 by omega) (show v40 < ((40 : Nat) : Int) by omega) (fun hx => (jba_183 _ _).2 (show 0 ≤ a2 ∧ a2 ≤ 3 by omega)) (fun g43 eg43 => ?_)
                        replace eg43 : g43 = jup g38 183 v40 a2 := eg43
                        have fg43 : jfr w_X12_decree h g43 := jfr_up fg38 eg43 (by unfold w_X12_decree; omega)
                        have e44 : g43 183 v40 = a2 := jup_s eg43
                        refine st_gr jo_176 jr_176_9 ?_
                        refine st_gi jo_176 (fun v45 ev45 b46 => ?_)
                        replace ev45 : v45 = g43 176 6 := ev45
                        replace b46 := (jbf_12_6 jo_176 _).1 b46
                        have e47 : g43 176 6 = g38 176 6 := jup_o eg43 (by first | exact fun q => absurd q.1 (by decide) | exact fun q => absurd q.2 (by decide) | omega)
                        refine st_si jo_184 (show 0 ≤ v45 by omega) (show v45 < ((40 : Nat) : Int) by omega) (fun hx => (jba_184 _ _).2 (show 0 ≤ a3 ∧ a3 ≤ 200 by omega)) (fun g48 eg48 => ?_)
                        replace eg48 : g48 = jup g43 184 v45 a3 := eg48
                        have fg48 : jfr w_X12_decree h g48 := jfr_up fg43 eg48 (by unfold w_X12_decree; omega)
                        have e49 : g48 184 v45 = a3 := jup_s eg48
                        refine st_gr jo_176 jr_176_10 ?_
                        refine st_gi jo_176 (fun v50 ev50 b51 => ?_)
                        replace ev50 : v50 = g48 176 6 := ev50
                        replace b51 := (jbf_12_6 jo_176 _).1 b51
                        have e52 : g48 176 6 = g43 176 6 := jup_o eg48 (by first | exact fun q => absurd q.1 (by decide) | exact fun q => absurd q.2 (by decide) | omega)
                        refine st_si jo_185 (show 0 ≤ v50 by omega) (show v50 < ((40 : Nat) : Int) by omega) (fun hx => (jba_185 _ _).2 (show 0 ≤ a4 ∧ a4 ≤ 2000 by omega)) (fun g53 eg53 => ?_)
                        replace eg53 : g53 = jup g48 185 v50 a4 := eg53
                        have fg53 : jfr w_X12_decree h g53 := jfr_up fg48 eg53 (by unfold w_X12_decree; omega)
                        have e54 : g53 185 v50 = a4 := jup_s eg53
                        refine st_gi jo_176 (fun v55 ev55 b56 => ?_)
                        replace ev55 : v55 = g53 176 6 := ev55
                        replace b56 := (jbf_12_6 jo_176 _).1 b56
                        have e57 : g53 176 6 = g48 176 6 := jup_o eg53 (by first | exact fun q => absurd q.1 (by decide) | exact fun q => absurd q.2 (by decide) | omega)
                        have e58 : jw32 (v55 + 1) = v55 + 1 := jzj32 (by omega)
                        refine st_pi jo_176 (fun hx => (jbf_12_6 jo_176 _).2 (show 0 ≤ jw32 (v55 + 1) ∧ jw32 (v55 + 1) ≤ 40 by omega)) (fun g59 eg59 => ?_)
                        replace eg59 : g59 = jup g53 176 6 (jw32 (v55 + 1)) := eg59
                        have fg59 : jfr w_X12_decree h g59 := jfr_up fg53 eg59 (by unfold w_X12_decree; omega)
                        have e60 : g59 176 6 = jw32 (v55 + 1) := jup_s eg59
                        refine st_gi jo_176 (fun v61 ev61 b62 => ?_)
                        replace ev61 : v61 = g59 176 6 := ev61
                        replace b62 := (jbf_12_6 jo_176 _).1 b62
                        have e63 : jw32 (v61 - 1) = v61 - 1 := jzj32 (by omega)
                        have hc64 : (g59 182 (h 176 6) = a1 ∧ g59 183 (h 176 6) = a2 ∧ g59 184 (h 176 6) = a3 ∧ g59 185 (h 176 6) = a4 ∧ ∀ i k : Int, 182 ≤ i → i ≤ 185 → ¬ k = h 176 6 → g59 i k = h i k) := by
                          have n0 : v50 = h 176 6 := (by omega); have n1 : v45 = h 176 6 := (by omega); have n2 : v40 = h 176 6 := (by omega); have n3 : v36 = h 176 6 := (by omega)
                          refine ⟨?_, ?_, ?_, ?_, fun i k q1 q2 q3 => ?_⟩
                          · have E0 := jup_i eg59 182 (h 176 6); have E1 := jup_i eg53 182 (h 176 6); have E2 := jup_i eg48 182 (h 176 6); have E3 := jup_i eg43 182 (h 176 6); have E4 := jup_i eg38 182 (h 176 6); omega
                          · have E0 := jup_i eg59 183 (h 176 6); have E1 := jup_i eg53 183 (h 176 6); have E2 := jup_i eg48 183 (h 176 6); have E3 := jup_i eg43 183 (h 176 6); have E4 := jup_i eg38 183 (h 176 6); omega
                          · have E0 := jup_i eg59 184 (h 176 6); have E1 := jup_i eg53 184 (h 176 6); have E2 := jup_i eg48 184 (h 176 6); have E3 := jup_i eg43 184 (h 176 6); have E4 := jup_i eg38 184 (h 176 6); omega
                          · have E0 := jup_i eg59 185 (h 176 6); have E1 := jup_i eg53 185 (h 176 6); have E2 := jup_i eg48 185 (h 176 6); have E3 := jup_i eg43 185 (h 176 6); have E4 := jup_i eg38 185 (h 176 6); omega
                          · have E0 := jup_i eg59 i k; have E1 := jup_i eg53 i k; have E2 := jup_i eg48 i k; have E3 := jup_i eg43 i k; have E4 := jup_i eg38 i k; omega
                        exact st_r0 (ls := []) ⟨rfl, rfl, fg59, jw32 (v61 - 1), rfl, (by omega), (by refine ⟨by unfold P_X12_decree; exact Or.inr (Or.inr (Or.inr ⟨by omega, by omega, by omega, hc64⟩)), fun b9 => absurd b9 (by omega)⟩)⟩
                      · replace c35 : v33 = 40 := by first | exact c35 | exact Int.not_le.mp c35 | exact Int.not_lt.mp c35 | exact Decidable.not_not.mp c35
                        show jGo E l 45 229 229 _ 107 [.inr (.inr (.inl 176)), .inl a1, .inl a2, .inl a3, .inl a4] [] 229 jr0 h
                        refine jGo_blk qX12_decree_107 ?_
                        refine st_cv (na := 1) (st := [.inl (-6), .inr (.inr (.inl 176))]) jo_176 rfl rfl rfl (c_X12_refuse (-6) h (by omega)) rfl ?_
                        rintro _ _ g66 ⟨rfl, ft65, t65, rfl, ht65, zt65⟩ kt65
                        replace kt65 : -2147483648 ≤ t65 ∧ t65 ≤ 2147483647 := kt65
                        replace ht65 : -7 ≤ t65 ∧ t65 ≤ -1 := ht65
                        have fg66 : jfr w_X12_decree h g66 := jfr_tr f0 ft65 ws_X12_refuse__X12_decree
                        replace zt65 : t65 = (-6 : Int) := zt65
                        have e67 : g66 176 6 = h 176 6 := ft65 176 6 (by unfold w_X12_refuse; omega)
                        have hs68 : ∀ i k : Int, 182 ≤ i → i ≤ 185 → g66 i k = h i k := fun i k p1 p2 => (ft65 i k (by unfold w_X12_refuse; omega))
                        exact st_r0 (ls := []) ⟨rfl, rfl, fg66, t65, rfl, (by omega), (by refine ⟨by unfold P_X12_decree; first | exact Or.inl ⟨by omega, by omega, hs68⟩ | exact Or.inr (Or.inl ⟨by omega, by omega, hs68⟩) | exact Or.inr (Or.inr (Or.inl ⟨by omega, by omega, hs68⟩)), fun _ i k q9 => ?_⟩; exact (ft65 i k (jzma_w_X12_refuse q9)))⟩
              · replace c21 : a1 = 1 := by first | exact c21 | exact Int.not_le.mp c21 | exact Int.not_lt.mp c21 | exact Decidable.not_not.mp c21
                show jGo E l 45 229 229 _ 87 [.inr (.inr (.inl 176)), .inl a1, .inl a2, .inl a3, .inl a4] [.inl 9, .inl a3] 229 jr0 h
                refine jGo_blk qX12_decree_87 ?_
                refine And.intro (fun c69 => ?_) (fun c69 => ?_)
                · replace c69 : 9 < a3 := c69
                  show jGo E l 45 229 229 _ 107 [.inr (.inr (.inl 176)), .inl a1, .inl a2, .inl a3, .inl a4] [] 229 jr0 h
                  refine jGo_blk qX12_decree_107 ?_
                  refine st_cv (na := 1) (st := [.inl (-6), .inr (.inr (.inl 176))]) jo_176 rfl rfl rfl (c_X12_refuse (-6) h (by omega)) rfl ?_
                  rintro _ _ g71 ⟨rfl, ft70, t70, rfl, ht70, zt70⟩ kt70
                  replace kt70 : -2147483648 ≤ t70 ∧ t70 ≤ 2147483647 := kt70
                  replace ht70 : -7 ≤ t70 ∧ t70 ≤ -1 := ht70
                  have fg71 : jfr w_X12_decree h g71 := jfr_tr f0 ft70 ws_X12_refuse__X12_decree
                  replace zt70 : t70 = (-6 : Int) := zt70
                  have e72 : g71 176 6 = h 176 6 := ft70 176 6 (by unfold w_X12_refuse; omega)
                  have hs73 : ∀ i k : Int, 182 ≤ i → i ≤ 185 → g71 i k = h i k := fun i k p1 p2 => (ft70 i k (by unfold w_X12_refuse; omega))
                  exact st_r0 (ls := []) ⟨rfl, rfl, fg71, t70, rfl, (by omega), (by refine ⟨by unfold P_X12_decree; first | exact Or.inl ⟨by omega, by omega, hs73⟩ | exact Or.inr (Or.inl ⟨by omega, by omega, hs73⟩) | exact Or.inr (Or.inr (Or.inl ⟨by omega, by omega, hs73⟩)), fun _ i k q9 => ?_⟩; exact (ft70 i k (jzma_w_X12_refuse q9)))⟩
                · replace c69 : a3 ≤ 9 := by first | exact c69 | exact Int.not_le.mp c69 | exact Int.not_lt.mp c69 | exact Decidable.not_not.mp c69
                  refine And.intro (fun c74 => ?_) (fun c74 => ?_)
                  · replace c74 : 2000 < a4 := c74
                    show jGo E l 45 229 229 _ 107 [.inr (.inr (.inl 176)), .inl a1, .inl a2, .inl a3, .inl a4] [] 229 jr0 h
                    refine jGo_blk qX12_decree_107 ?_
                    refine st_cv (na := 1) (st := [.inl (-6), .inr (.inr (.inl 176))]) jo_176 rfl rfl rfl (c_X12_refuse (-6) h (by omega)) rfl ?_
                    rintro _ _ g76 ⟨rfl, ft75, t75, rfl, ht75, zt75⟩ kt75
                    replace kt75 : -2147483648 ≤ t75 ∧ t75 ≤ 2147483647 := kt75
                    replace ht75 : -7 ≤ t75 ∧ t75 ≤ -1 := ht75
                    have fg76 : jfr w_X12_decree h g76 := jfr_tr f0 ft75 ws_X12_refuse__X12_decree
                    replace zt75 : t75 = (-6 : Int) := zt75
                    have e77 : g76 176 6 = h 176 6 := ft75 176 6 (by unfold w_X12_refuse; omega)
                    have hs78 : ∀ i k : Int, 182 ≤ i → i ≤ 185 → g76 i k = h i k := fun i k p1 p2 => (ft75 i k (by unfold w_X12_refuse; omega))
                    exact st_r0 (ls := []) ⟨rfl, rfl, fg76, t75, rfl, (by omega), (by refine ⟨by unfold P_X12_decree; first | exact Or.inl ⟨by omega, by omega, hs78⟩ | exact Or.inr (Or.inl ⟨by omega, by omega, hs78⟩) | exact Or.inr (Or.inr (Or.inl ⟨by omega, by omega, hs78⟩)), fun _ i k q9 => ?_⟩; exact (ft75 i k (jzma_w_X12_refuse q9)))⟩
                  · replace c74 : a4 ≤ 2000 := by first | exact c74 | exact Int.not_le.mp c74 | exact Int.not_lt.mp c74 | exact Decidable.not_not.mp c74
                    refine st_gi jo_176 (fun v79 ev79 b80 => ?_)
                    replace ev79 : v79 = h 176 6 := ev79
                    replace b80 := (jbf_12_6 jo_176 _).1 b80
                    refine And.intro (fun c81 => ?_) (fun c81 => ?_)
                    · replace c81 : ¬ v79 = 40 := c81
                      show jGo E l 45 229 229 _ 114 [.inr (.inr (.inl 176)), .inl a1, .inl a2, .inl a3, .inl a4] [] 229 jr0 h
                      refine jGo_blk qX12_decree_114 ?_
                      refine st_gr jo_176 jr_176_7 ?_
                      refine st_gi jo_176 (fun v82 ev82 b83 => ?_)
                      replace ev82 : v82 = h 176 6 := ev82
                      replace b83 := (jbf_12_6 jo_176 _).1 b83
                      refine st_si jo_182 (show 0 ≤ v82 by omega) (show v82 < ((40 : Nat) : Int) by omega) (fun hx => (jba_182 _ _).2 (show 0 ≤ a1 ∧ a1 ≤ 3 by omega)) (fun g84 eg84 => ?_)
                      replace eg84 : g84 = jup h 182 v82 a1 := eg84
                      have fg84 : jfr w_X12_decree h g84 := jfr_up f0 eg84 (by unfold w_X12_decree; omega)
                      have e85 : g84 182 v82 = a1 := jup_s eg84
                      refine st_gr jo_176 jr_176_8 ?_
                      refine st_gi jo_176 (fun v86 ev86 b87 => ?_)
                      replace ev86 : v86 = g84 176 6 := ev86
                      replace b87 := (jbf_12_6 jo_176 _).1 b87
                      have e88 : g84 176 6 = h 176 6 := jup_o eg84 (by first | exact fun q => absurd q.1 (by decide) | exact fun q => absurd q.2 (by decide) | omega)
                      refine st_si jo_183 (show 0 ≤ v86 by omega) (show v86 < ((40 : Nat) : Int) by omega) (fun hx => (jba_183 _ _).2 (show 0 ≤ a2 ∧ a2 ≤ 3 by omega)) (fun g89 eg89 => ?_)
                      replace eg89 : g89 = jup g84 183 v86 a2 := eg89
                      have fg89 : jfr w_X12_decree h g89 := jfr_up fg84 eg89 (by unfold w_X12_decree; omega)
                      have e90 : g89 183 v86 = a2 := jup_s eg89
                      refine st_gr jo_176 jr_176_9 ?_
                      refine st_gi jo_176 (fun v91 ev91 b92 => ?_)
                      replace ev91 : v91 = g89 176 6 := ev91
                      replace b92 := (jbf_12_6 jo_176 _).1 b92
                      have e93 : g89 176 6 = g84 176 6 := jup_o eg89 (by first | exact fun q => absurd q.1 (by decide) | exact fun q => absurd q.2 (by decide) | omega)
                      refine st_si jo_184 (show 0 ≤ v91 by omega) (show v91 < ((40 : Nat) : Int) by omega) (fun hx => (jba_184 _ _).2 (show 0 ≤ a3 ∧ a3 ≤ 200 by omega)) (fun g94 eg94 => ?_)
                      replace eg94 : g94 = jup g89 184 v91 a3 := eg94
                      have fg94 : jfr w_X12_decree h g94 := jfr_up fg89 eg94 (by unfold w_X12_decree; omega)
                      have e95 : g94 184 v91 = a3 := jup_s eg94
                      refine st_gr jo_176 jr_176_10 ?_
                      refine st_gi jo_176 (fun v96 ev96 b97 => ?_)
                      replace ev96 : v96 = g94 176 6 := ev96
                      replace b97 := (jbf_12_6 jo_176 _).1 b97
                      have e98 : g94 176 6 = g89 176 6 := jup_o eg94 (by first | exact fun q => absurd q.1 (by decide) | exact fun q => absurd q.2 (by decide) | omega)
                      refine st_si jo_185 (show 0 ≤ v96 by omega) (show v96 < ((40 : Nat) : Int) by omega) (fun hx => (jba_185 _ _).2 (show 0 ≤ a4 ∧ a4 ≤ 2000 by omega)) (fun g99 eg99 => ?_)
                      replace eg99 : g99 = jup g94 185 v96 a4 := eg99
                      have fg99 : jfr w_X12_decree h g99 := jfr_up fg94 eg99 (by unfold w_X12_decree; omega)
                      have e100 : g99 185 v96 = a4 := jup_s eg99
                      refine st_gi jo_176 (fun v101 ev101 b102 => ?_)
                      replace ev101 : v101 = g99 176 6 := ev101
                      replace b102 := (jbf_12_6 jo_176 _).1 b102
                      have e103 : g99 176 6 = g94 176 6 := jup_o eg99 (by first | exact fun q => absurd q.1 (by decide) | exact fun q => absurd q.2 (by decide) | omega)
                      have e104 : jw32 (v101 + 1) = v101 + 1 := jzj32 (by omega)
                      refine st_pi jo_176 (fun hx => (jbf_12_6 jo_176 _).2 (show 0 ≤ jw32 (v101 + 1) ∧ jw32 (v101 + 1) ≤ 40 by omega)) (fun g105 eg105 => ?_)
                      replace eg105 : g105 = jup g99 176 6 (jw32 (v101 + 1)) := eg105
                      have fg105 : jfr w_X12_decree h g105 := jfr_up fg99 eg105 (by unfold w_X12_decree; omega)
                      have e106 : g105 176 6 = jw32 (v101 + 1) := jup_s eg105
                      refine st_gi jo_176 (fun v107 ev107 b108 => ?_)
                      replace ev107 : v107 = g105 176 6 := ev107
                      replace b108 := (jbf_12_6 jo_176 _).1 b108
                      have e109 : jw32 (v107 - 1) = v107 - 1 := jzj32 (by omega)
                      have hc110 : (g105 182 (h 176 6) = a1 ∧ g105 183 (h 176 6) = a2 ∧ g105 184 (h 176 6) = a3 ∧ g105 185 (h 176 6) = a4 ∧ ∀ i k : Int, 182 ≤ i → i ≤ 185 → ¬ k = h 176 6 → g105 i k = h i k) := by
                        have n0 : v96 = h 176 6 := (by omega); have n1 : v91 = h 176 6 := (by omega); have n2 : v86 = h 176 6 := (by omega); have n3 : v82 = h 176 6 := (by omega)
                        refine ⟨?_, ?_, ?_, ?_, fun i k q1 q2 q3 => ?_⟩
                        · have E0 := jup_i eg105 182 (h 176 6); have E1 := jup_i eg99 182 (h 176 6); have E2 := jup_i eg94 182 (h 176 6); have E3 := jup_i eg89 182 (h 176 6); have E4 := jup_i eg84 182 (h 176 6); omega
                        · have E0 := jup_i eg105 183 (h 176 6); have E1 := jup_i eg99 183 (h 176 6); have E2 := jup_i eg94 183 (h 176 6); have E3 := jup_i eg89 183 (h 176 6); have E4 := jup_i eg84 183 (h 176 6); omega
                        · have E0 := jup_i eg105 184 (h 176 6); have E1 := jup_i eg99 184 (h 176 6); have E2 := jup_i eg94 184 (h 176 6); have E3 := jup_i eg89 184 (h 176 6); have E4 := jup_i eg84 184 (h 176 6); omega
                        · have E0 := jup_i eg105 185 (h 176 6); have E1 := jup_i eg99 185 (h 176 6); have E2 := jup_i eg94 185 (h 176 6); have E3 := jup_i eg89 185 (h 176 6); have E4 := jup_i eg84 185 (h 176 6); omega
                        · have E0 := jup_i eg105 i k; have E1 := jup_i eg99 i k; have E2 := jup_i eg94 i k; have E3 := jup_i eg89 i k; have E4 := jup_i eg84 i k; omega
                      exact st_r0 (ls := []) ⟨rfl, rfl, fg105, jw32 (v107 - 1), rfl, (by omega), (by refine ⟨by unfold P_X12_decree; exact Or.inr (Or.inr (Or.inr ⟨by omega, by omega, by omega, hc110⟩)), fun b9 => absurd b9 (by omega)⟩)⟩
                    · replace c81 : v79 = 40 := by first | exact c81 | exact Int.not_le.mp c81 | exact Int.not_lt.mp c81 | exact Decidable.not_not.mp c81
                      show jGo E l 45 229 229 _ 107 [.inr (.inr (.inl 176)), .inl a1, .inl a2, .inl a3, .inl a4] [] 229 jr0 h
                      refine jGo_blk qX12_decree_107 ?_
                      refine st_cv (na := 1) (st := [.inl (-6), .inr (.inr (.inl 176))]) jo_176 rfl rfl rfl (c_X12_refuse (-6) h (by omega)) rfl ?_
                      rintro _ _ g112 ⟨rfl, ft111, t111, rfl, ht111, zt111⟩ kt111
                      replace kt111 : -2147483648 ≤ t111 ∧ t111 ≤ 2147483647 := kt111
                      replace ht111 : -7 ≤ t111 ∧ t111 ≤ -1 := ht111
                      have fg112 : jfr w_X12_decree h g112 := jfr_tr f0 ft111 ws_X12_refuse__X12_decree
                      replace zt111 : t111 = (-6 : Int) := zt111
                      have e113 : g112 176 6 = h 176 6 := ft111 176 6 (by unfold w_X12_refuse; omega)
                      have hs114 : ∀ i k : Int, 182 ≤ i → i ≤ 185 → g112 i k = h i k := fun i k p1 p2 => (ft111 i k (by unfold w_X12_refuse; omega))
                      exact st_r0 (ls := []) ⟨rfl, rfl, fg112, t111, rfl, (by omega), (by refine ⟨by unfold P_X12_decree; first | exact Or.inl ⟨by omega, by omega, hs114⟩ | exact Or.inr (Or.inl ⟨by omega, by omega, hs114⟩) | exact Or.inr (Or.inr (Or.inl ⟨by omega, by omega, hs114⟩)), fun _ i k q9 => ?_⟩; exact (ft111 i k (jzma_w_X12_refuse q9)))⟩
            · replace c20 : a1 = 0 := by first | exact c20 | exact Int.not_le.mp c20 | exact Int.not_lt.mp c20 | exact Decidable.not_not.mp c20
              show jGo E l 45 229 229 _ 87 [.inr (.inr (.inl 176)), .inl a1, .inl a2, .inl a3, .inl a4] [.inl 100, .inl a3] 229 jr0 h
              refine jGo_blk qX12_decree_87 ?_
              refine And.intro (fun c115 => ?_) (fun c115 => ?_)
              · replace c115 : 100 < a3 := c115
                show jGo E l 45 229 229 _ 107 [.inr (.inr (.inl 176)), .inl a1, .inl a2, .inl a3, .inl a4] [] 229 jr0 h
                refine jGo_blk qX12_decree_107 ?_
                refine st_cv (na := 1) (st := [.inl (-6), .inr (.inr (.inl 176))]) jo_176 rfl rfl rfl (c_X12_refuse (-6) h (by omega)) rfl ?_
                rintro _ _ g117 ⟨rfl, ft116, t116, rfl, ht116, zt116⟩ kt116
                replace kt116 : -2147483648 ≤ t116 ∧ t116 ≤ 2147483647 := kt116
                replace ht116 : -7 ≤ t116 ∧ t116 ≤ -1 := ht116
                have fg117 : jfr w_X12_decree h g117 := jfr_tr f0 ft116 ws_X12_refuse__X12_decree
                replace zt116 : t116 = (-6 : Int) := zt116
                have e118 : g117 176 6 = h 176 6 := ft116 176 6 (by unfold w_X12_refuse; omega)
                have hs119 : ∀ i k : Int, 182 ≤ i → i ≤ 185 → g117 i k = h i k := fun i k p1 p2 => (ft116 i k (by unfold w_X12_refuse; omega))
                exact st_r0 (ls := []) ⟨rfl, rfl, fg117, t116, rfl, (by omega), (by refine ⟨by unfold P_X12_decree; first | exact Or.inl ⟨by omega, by omega, hs119⟩ | exact Or.inr (Or.inl ⟨by omega, by omega, hs119⟩) | exact Or.inr (Or.inr (Or.inl ⟨by omega, by omega, hs119⟩)), fun _ i k q9 => ?_⟩; exact (ft116 i k (jzma_w_X12_refuse q9)))⟩
              · replace c115 : a3 ≤ 100 := by first | exact c115 | exact Int.not_le.mp c115 | exact Int.not_lt.mp c115 | exact Decidable.not_not.mp c115
                refine And.intro (fun c120 => ?_) (fun c120 => ?_)
                · replace c120 : 2000 < a4 := c120
                  show jGo E l 45 229 229 _ 107 [.inr (.inr (.inl 176)), .inl a1, .inl a2, .inl a3, .inl a4] [] 229 jr0 h
                  refine jGo_blk qX12_decree_107 ?_
                  refine st_cv (na := 1) (st := [.inl (-6), .inr (.inr (.inl 176))]) jo_176 rfl rfl rfl (c_X12_refuse (-6) h (by omega)) rfl ?_
                  rintro _ _ g122 ⟨rfl, ft121, t121, rfl, ht121, zt121⟩ kt121
                  replace kt121 : -2147483648 ≤ t121 ∧ t121 ≤ 2147483647 := kt121
                  replace ht121 : -7 ≤ t121 ∧ t121 ≤ -1 := ht121
                  have fg122 : jfr w_X12_decree h g122 := jfr_tr f0 ft121 ws_X12_refuse__X12_decree
                  replace zt121 : t121 = (-6 : Int) := zt121
                  have e123 : g122 176 6 = h 176 6 := ft121 176 6 (by unfold w_X12_refuse; omega)
                  have hs124 : ∀ i k : Int, 182 ≤ i → i ≤ 185 → g122 i k = h i k := fun i k p1 p2 => (ft121 i k (by unfold w_X12_refuse; omega))
                  exact st_r0 (ls := []) ⟨rfl, rfl, fg122, t121, rfl, (by omega), (by refine ⟨by unfold P_X12_decree; first | exact Or.inl ⟨by omega, by omega, hs124⟩ | exact Or.inr (Or.inl ⟨by omega, by omega, hs124⟩) | exact Or.inr (Or.inr (Or.inl ⟨by omega, by omega, hs124⟩)), fun _ i k q9 => ?_⟩; exact (ft121 i k (jzma_w_X12_refuse q9)))⟩
                · replace c120 : a4 ≤ 2000 := by first | exact c120 | exact Int.not_le.mp c120 | exact Int.not_lt.mp c120 | exact Decidable.not_not.mp c120
                  refine st_gi jo_176 (fun v125 ev125 b126 => ?_)
                  replace ev125 : v125 = h 176 6 := ev125
                  replace b126 := (jbf_12_6 jo_176 _).1 b126
                  refine And.intro (fun c127 => ?_) (fun c127 => ?_)
                  · replace c127 : ¬ v125 = 40 := c127
                    show jGo E l 45 229 229 _ 114 [.inr (.inr (.inl 176)), .inl a1, .inl a2, .inl a3, .inl a4] [] 229 jr0 h
                    refine jGo_blk qX12_decree_114 ?_
                    refine st_gr jo_176 jr_176_7 ?_
                    refine st_gi jo_176 (fun v128 ev128 b129 => ?_)
                    replace ev128 : v128 = h 176 6 := ev128
                    replace b129 := (jbf_12_6 jo_176 _).1 b129
                    refine st_si jo_182 (show 0 ≤ v128 by omega) (show v128 < ((40 : Nat) : Int) by omega) (fun hx => (jba_182 _ _).2 (show 0 ≤ a1 ∧ a1 ≤ 3 by omega)) (fun g130 eg130 => ?_)
                    replace eg130 : g130 = jup h 182 v128 a1 := eg130
                    have fg130 : jfr w_X12_decree h g130 := jfr_up f0 eg130 (by unfold w_X12_decree; omega)
                    have e131 : g130 182 v128 = a1 := jup_s eg130
                    refine st_gr jo_176 jr_176_8 ?_
                    refine st_gi jo_176 (fun v132 ev132 b133 => ?_)
                    replace ev132 : v132 = g130 176 6 := ev132
                    replace b133 := (jbf_12_6 jo_176 _).1 b133
                    have e134 : g130 176 6 = h 176 6 := jup_o eg130 (by first | exact fun q => absurd q.1 (by decide) | exact fun q => absurd q.2 (by decide) | omega)
                    refine st_si jo_183 (show 0 ≤ v132 by omega) (show v132 < ((40 : Nat) : Int) by omega) (fun hx => (jba_183 _ _).2 (show 0 ≤ a2 ∧ a2 ≤ 3 by omega)) (fun g135 eg135 => ?_)
                    replace eg135 : g135 = jup g130 183 v132 a2 := eg135
                    have fg135 : jfr w_X12_decree h g135 := jfr_up fg130 eg135 (by unfold w_X12_decree; omega)
                    have e136 : g135 183 v132 = a2 := jup_s eg135
                    refine st_gr jo_176 jr_176_9 ?_
                    refine st_gi jo_176 (fun v137 ev137 b138 => ?_)
                    replace ev137 : v137 = g135 176 6 := ev137
                    replace b138 := (jbf_12_6 jo_176 _).1 b138
                    have e139 : g135 176 6 = g130 176 6 := jup_o eg135 (by first | exact fun q => absurd q.1 (by decide) | exact fun q => absurd q.2 (by decide) | omega)
                    refine st_si jo_184 (show 0 ≤ v137 by omega) (show v137 < ((40 : Nat) : Int) by omega) (fun hx => (jba_184 _ _).2 (show 0 ≤ a3 ∧ a3 ≤ 200 by omega)) (fun g140 eg140 => ?_)
                    replace eg140 : g140 = jup g135 184 v137 a3 := eg140
                    have fg140 : jfr w_X12_decree h g140 := jfr_up fg135 eg140 (by unfold w_X12_decree; omega)
                    have e141 : g140 184 v137 = a3 := jup_s eg140
                    refine st_gr jo_176 jr_176_10 ?_
                    refine st_gi jo_176 (fun v142 ev142 b143 => ?_)
                    replace ev142 : v142 = g140 176 6 := ev142
                    replace b143 := (jbf_12_6 jo_176 _).1 b143
                    have e144 : g140 176 6 = g135 176 6 := jup_o eg140 (by first | exact fun q => absurd q.1 (by decide) | exact fun q => absurd q.2 (by decide) | omega)
                    refine st_si jo_185 (show 0 ≤ v142 by omega) (show v142 < ((40 : Nat) : Int) by omega) (fun hx => (jba_185 _ _).2 (show 0 ≤ a4 ∧ a4 ≤ 2000 by omega)) (fun g145 eg145 => ?_)
                    replace eg145 : g145 = jup g140 185 v142 a4 := eg145
                    have fg145 : jfr w_X12_decree h g145 := jfr_up fg140 eg145 (by unfold w_X12_decree; omega)
                    have e146 : g145 185 v142 = a4 := jup_s eg145
                    refine st_gi jo_176 (fun v147 ev147 b148 => ?_)
                    replace ev147 : v147 = g145 176 6 := ev147
                    replace b148 := (jbf_12_6 jo_176 _).1 b148
                    have e149 : g145 176 6 = g140 176 6 := jup_o eg145 (by first | exact fun q => absurd q.1 (by decide) | exact fun q => absurd q.2 (by decide) | omega)
                    have e150 : jw32 (v147 + 1) = v147 + 1 := jzj32 (by omega)
                    refine st_pi jo_176 (fun hx => (jbf_12_6 jo_176 _).2 (show 0 ≤ jw32 (v147 + 1) ∧ jw32 (v147 + 1) ≤ 40 by omega)) (fun g151 eg151 => ?_)
                    replace eg151 : g151 = jup g145 176 6 (jw32 (v147 + 1)) := eg151
                    have fg151 : jfr w_X12_decree h g151 := jfr_up fg145 eg151 (by unfold w_X12_decree; omega)
                    have e152 : g151 176 6 = jw32 (v147 + 1) := jup_s eg151
                    refine st_gi jo_176 (fun v153 ev153 b154 => ?_)
                    replace ev153 : v153 = g151 176 6 := ev153
                    replace b154 := (jbf_12_6 jo_176 _).1 b154
                    have e155 : jw32 (v153 - 1) = v153 - 1 := jzj32 (by omega)
                    have hc156 : (g151 182 (h 176 6) = a1 ∧ g151 183 (h 176 6) = a2 ∧ g151 184 (h 176 6) = a3 ∧ g151 185 (h 176 6) = a4 ∧ ∀ i k : Int, 182 ≤ i → i ≤ 185 → ¬ k = h 176 6 → g151 i k = h i k) := by
                      have n0 : v142 = h 176 6 := (by omega); have n1 : v137 = h 176 6 := (by omega); have n2 : v132 = h 176 6 := (by omega); have n3 : v128 = h 176 6 := (by omega)
                      refine ⟨?_, ?_, ?_, ?_, fun i k q1 q2 q3 => ?_⟩
                      · have E0 := jup_i eg151 182 (h 176 6); have E1 := jup_i eg145 182 (h 176 6); have E2 := jup_i eg140 182 (h 176 6); have E3 := jup_i eg135 182 (h 176 6); have E4 := jup_i eg130 182 (h 176 6); omega
                      · have E0 := jup_i eg151 183 (h 176 6); have E1 := jup_i eg145 183 (h 176 6); have E2 := jup_i eg140 183 (h 176 6); have E3 := jup_i eg135 183 (h 176 6); have E4 := jup_i eg130 183 (h 176 6); omega
                      · have E0 := jup_i eg151 184 (h 176 6); have E1 := jup_i eg145 184 (h 176 6); have E2 := jup_i eg140 184 (h 176 6); have E3 := jup_i eg135 184 (h 176 6); have E4 := jup_i eg130 184 (h 176 6); omega
                      · have E0 := jup_i eg151 185 (h 176 6); have E1 := jup_i eg145 185 (h 176 6); have E2 := jup_i eg140 185 (h 176 6); have E3 := jup_i eg135 185 (h 176 6); have E4 := jup_i eg130 185 (h 176 6); omega
                      · have E0 := jup_i eg151 i k; have E1 := jup_i eg145 i k; have E2 := jup_i eg140 i k; have E3 := jup_i eg135 i k; have E4 := jup_i eg130 i k; omega
                    exact st_r0 (ls := []) ⟨rfl, rfl, fg151, jw32 (v153 - 1), rfl, (by omega), (by refine ⟨by unfold P_X12_decree; exact Or.inr (Or.inr (Or.inr ⟨by omega, by omega, by omega, hc156⟩)), fun b9 => absurd b9 (by omega)⟩)⟩
                  · replace c127 : v125 = 40 := by first | exact c127 | exact Int.not_le.mp c127 | exact Int.not_lt.mp c127 | exact Decidable.not_not.mp c127
                    show jGo E l 45 229 229 _ 107 [.inr (.inr (.inl 176)), .inl a1, .inl a2, .inl a3, .inl a4] [] 229 jr0 h
                    refine jGo_blk qX12_decree_107 ?_
                    refine st_cv (na := 1) (st := [.inl (-6), .inr (.inr (.inl 176))]) jo_176 rfl rfl rfl (c_X12_refuse (-6) h (by omega)) rfl ?_
                    rintro _ _ g158 ⟨rfl, ft157, t157, rfl, ht157, zt157⟩ kt157
                    replace kt157 : -2147483648 ≤ t157 ∧ t157 ≤ 2147483647 := kt157
                    replace ht157 : -7 ≤ t157 ∧ t157 ≤ -1 := ht157
                    have fg158 : jfr w_X12_decree h g158 := jfr_tr f0 ft157 ws_X12_refuse__X12_decree
                    replace zt157 : t157 = (-6 : Int) := zt157
                    have e159 : g158 176 6 = h 176 6 := ft157 176 6 (by unfold w_X12_refuse; omega)
                    have hs160 : ∀ i k : Int, 182 ≤ i → i ≤ 185 → g158 i k = h i k := fun i k p1 p2 => (ft157 i k (by unfold w_X12_refuse; omega))
                    exact st_r0 (ls := []) ⟨rfl, rfl, fg158, t157, rfl, (by omega), (by refine ⟨by unfold P_X12_decree; first | exact Or.inl ⟨by omega, by omega, hs160⟩ | exact Or.inr (Or.inl ⟨by omega, by omega, hs160⟩) | exact Or.inr (Or.inr (Or.inl ⟨by omega, by omega, hs160⟩)), fun _ i k q9 => ?_⟩; exact (ft157 i k (jzma_w_X12_refuse q9)))⟩
          · replace c19 : a4 < v17 := by first | exact c19 | exact Int.not_le.mp c19 | exact Int.not_lt.mp c19 | exact Decidable.not_not.mp c19
            show jGo E l 45 229 229 _ 47 [.inr (.inr (.inl 176)), .inl a1, .inl a2, .inl a3, .inl a4] [] 229 jr0 h
            refine jGo_blk qX12_decree_47 ?_
            refine st_cv (na := 1) (st := [.inl (-4), .inr (.inr (.inl 176))]) jo_176 rfl rfl rfl (c_X12_refuse (-4) h (by omega)) rfl ?_
            rintro _ _ g162 ⟨rfl, ft161, t161, rfl, ht161, zt161⟩ kt161
            replace kt161 : -2147483648 ≤ t161 ∧ t161 ≤ 2147483647 := kt161
            replace ht161 : -7 ≤ t161 ∧ t161 ≤ -1 := ht161
            have fg162 : jfr w_X12_decree h g162 := jfr_tr f0 ft161 ws_X12_refuse__X12_decree
            replace zt161 : t161 = (-4 : Int) := zt161
            have e163 : g162 176 6 = h 176 6 := ft161 176 6 (by unfold w_X12_refuse; omega)
            have hs164 : ∀ i k : Int, 182 ≤ i → i ≤ 185 → g162 i k = h i k := fun i k p1 p2 => (ft161 i k (by unfold w_X12_refuse; omega))
            exact st_r0 (ls := []) ⟨rfl, rfl, fg162, t161, rfl, (by omega), (by refine ⟨by unfold P_X12_decree; first | exact Or.inl ⟨by omega, by omega, hs164⟩ | exact Or.inr (Or.inl ⟨by omega, by omega, hs164⟩) | exact Or.inr (Or.inr (Or.inl ⟨by omega, by omega, hs164⟩)), fun _ i k q9 => ?_⟩; exact (ft161 i k (jzma_w_X12_refuse q9)))⟩
      · replace c11 : a1 = 3 := by first | exact c11 | exact Int.not_le.mp c11 | exact Int.not_lt.mp c11 | exact Decidable.not_not.mp c11
        show jGo E l 45 229 229 _ 35 [.inr (.inr (.inl 176)), .inl a1, .inl a2, .inl a3, .inl a4] [.inl 1, .inl a3] 229 jr0 h
        refine jGo_blk qX12_decree_35 ?_
        refine And.intro (fun c165 => ?_) (fun c165 => ?_)
        · replace c165 : a3 < 1 := c165
          show jGo E l 45 229 229 _ 47 [.inr (.inr (.inl 176)), .inl a1, .inl a2, .inl a3, .inl a4] [] 229 jr0 h
          refine jGo_blk qX12_decree_47 ?_
          refine st_cv (na := 1) (st := [.inl (-4), .inr (.inr (.inl 176))]) jo_176 rfl rfl rfl (c_X12_refuse (-4) h (by omega)) rfl ?_
          rintro _ _ g167 ⟨rfl, ft166, t166, rfl, ht166, zt166⟩ kt166
          replace kt166 : -2147483648 ≤ t166 ∧ t166 ≤ 2147483647 := kt166
          replace ht166 : -7 ≤ t166 ∧ t166 ≤ -1 := ht166
          have fg167 : jfr w_X12_decree h g167 := jfr_tr f0 ft166 ws_X12_refuse__X12_decree
          replace zt166 : t166 = (-4 : Int) := zt166
          have e168 : g167 176 6 = h 176 6 := ft166 176 6 (by unfold w_X12_refuse; omega)
          have hs169 : ∀ i k : Int, 182 ≤ i → i ≤ 185 → g167 i k = h i k := fun i k p1 p2 => (ft166 i k (by unfold w_X12_refuse; omega))
          exact st_r0 (ls := []) ⟨rfl, rfl, fg167, t166, rfl, (by omega), (by refine ⟨by unfold P_X12_decree; first | exact Or.inl ⟨by omega, by omega, hs169⟩ | exact Or.inr (Or.inl ⟨by omega, by omega, hs169⟩) | exact Or.inr (Or.inr (Or.inl ⟨by omega, by omega, hs169⟩)), fun _ i k q9 => ?_⟩; exact (ft166 i k (jzma_w_X12_refuse q9)))⟩
        · replace c165 : 1 ≤ a3 := by first | exact c165 | exact Int.not_le.mp c165 | exact Int.not_lt.mp c165 | exact Decidable.not_not.mp c165
          refine st_gi jo_176 (fun v170 ev170 b171 => ?_)
          replace ev170 : v170 = h 176 0 := ev170
          replace b171 := (jbf_12_0 jo_176 _).1 b171
          refine And.intro (fun c172 => ?_) (fun c172 => ?_)
          · replace c172 : v170 ≤ a4 := c172
            show jGo E l 45 229 229 _ 54 [.inr (.inr (.inl 176)), .inl a1, .inl a2, .inl a3, .inl a4] [] 229 jr0 h
            refine jGo_blk qX12_decree_54 ?_
            refine And.intro (fun c173 => ?_) (fun c173 => ?_)
            · replace c173 : ¬ a1 = 0 := c173
              show jGo E l 45 229 229 _ 64 [.inr (.inr (.inl 176)), .inl a1, .inl a2, .inl a3, .inl a4] [.inl a3] 229 jr0 h
              refine jGo_blk qX12_decree_64 ?_
              refine And.intro (fun c174 => ?_) (fun c174 => ?_)
              · replace c174 : ¬ a1 = 1 := c174
                show jGo E l 45 229 229 _ 74 [.inr (.inr (.inl 176)), .inl a1, .inl a2, .inl a3, .inl a4] [.inl a3] 229 jr0 h
                refine jGo_blk qX12_decree_74 ?_
                refine And.intro (fun c175 => ?_) (fun c175 => ?_)
                · replace c175 : ¬ a1 = 2 := c175
                  show jGo E l 45 229 229 _ 84 [.inr (.inr (.inl 176)), .inl a1, .inl a2, .inl a3, .inl a4] [.inl a3] 229 jr0 h
                  refine jGo_blk qX12_decree_84 ?_
                  show jGo E l 45 229 229 _ 87 [.inr (.inr (.inl 176)), .inl a1, .inl a2, .inl a3, .inl a4] [.inl 200, .inl a3] 229 jr0 h
                  refine jGo_blk qX12_decree_87 ?_
                  refine And.intro (fun c176 => ?_) (fun c176 => ?_)
                  · replace c176 : 200 < a3 := c176
                    show jGo E l 45 229 229 _ 107 [.inr (.inr (.inl 176)), .inl a1, .inl a2, .inl a3, .inl a4] [] 229 jr0 h
                    refine jGo_blk qX12_decree_107 ?_
                    refine st_cv (na := 1) (st := [.inl (-6), .inr (.inr (.inl 176))]) jo_176 rfl rfl rfl (c_X12_refuse (-6) h (by omega)) rfl ?_
                    rintro _ _ g178 ⟨rfl, ft177, t177, rfl, ht177, zt177⟩ kt177
                    replace kt177 : -2147483648 ≤ t177 ∧ t177 ≤ 2147483647 := kt177
                    replace ht177 : -7 ≤ t177 ∧ t177 ≤ -1 := ht177
                    have fg178 : jfr w_X12_decree h g178 := jfr_tr f0 ft177 ws_X12_refuse__X12_decree
                    replace zt177 : t177 = (-6 : Int) := zt177
                    have e179 : g178 176 6 = h 176 6 := ft177 176 6 (by unfold w_X12_refuse; omega)
                    have hs180 : ∀ i k : Int, 182 ≤ i → i ≤ 185 → g178 i k = h i k := fun i k p1 p2 => (ft177 i k (by unfold w_X12_refuse; omega))
                    exact st_r0 (ls := []) ⟨rfl, rfl, fg178, t177, rfl, (by omega), (by refine ⟨by unfold P_X12_decree; first | exact Or.inl ⟨by omega, by omega, hs180⟩ | exact Or.inr (Or.inl ⟨by omega, by omega, hs180⟩) | exact Or.inr (Or.inr (Or.inl ⟨by omega, by omega, hs180⟩)), fun _ i k q9 => ?_⟩; exact (ft177 i k (jzma_w_X12_refuse q9)))⟩
                  · replace c176 : a3 ≤ 200 := by first | exact c176 | exact Int.not_le.mp c176 | exact Int.not_lt.mp c176 | exact Decidable.not_not.mp c176
                    refine And.intro (fun c181 => ?_) (fun c181 => ?_)
                    · replace c181 : 2000 < a4 := c181
                      show jGo E l 45 229 229 _ 107 [.inr (.inr (.inl 176)), .inl a1, .inl a2, .inl a3, .inl a4] [] 229 jr0 h
                      refine jGo_blk qX12_decree_107 ?_
                      refine st_cv (na := 1) (st := [.inl (-6), .inr (.inr (.inl 176))]) jo_176 rfl rfl rfl (c_X12_refuse (-6) h (by omega)) rfl ?_
                      rintro _ _ g183 ⟨rfl, ft182, t182, rfl, ht182, zt182⟩ kt182
                      replace kt182 : -2147483648 ≤ t182 ∧ t182 ≤ 2147483647 := kt182
                      replace ht182 : -7 ≤ t182 ∧ t182 ≤ -1 := ht182
                      have fg183 : jfr w_X12_decree h g183 := jfr_tr f0 ft182 ws_X12_refuse__X12_decree
                      replace zt182 : t182 = (-6 : Int) := zt182
                      have e184 : g183 176 6 = h 176 6 := ft182 176 6 (by unfold w_X12_refuse; omega)
                      have hs185 : ∀ i k : Int, 182 ≤ i → i ≤ 185 → g183 i k = h i k := fun i k p1 p2 => (ft182 i k (by unfold w_X12_refuse; omega))
                      exact st_r0 (ls := []) ⟨rfl, rfl, fg183, t182, rfl, (by omega), (by refine ⟨by unfold P_X12_decree; first | exact Or.inl ⟨by omega, by omega, hs185⟩ | exact Or.inr (Or.inl ⟨by omega, by omega, hs185⟩) | exact Or.inr (Or.inr (Or.inl ⟨by omega, by omega, hs185⟩)), fun _ i k q9 => ?_⟩; exact (ft182 i k (jzma_w_X12_refuse q9)))⟩
                    · replace c181 : a4 ≤ 2000 := by first | exact c181 | exact Int.not_le.mp c181 | exact Int.not_lt.mp c181 | exact Decidable.not_not.mp c181
                      refine st_gi jo_176 (fun v186 ev186 b187 => ?_)
                      replace ev186 : v186 = h 176 6 := ev186
                      replace b187 := (jbf_12_6 jo_176 _).1 b187
                      refine And.intro (fun c188 => ?_) (fun c188 => ?_)
                      · replace c188 : ¬ v186 = 40 := c188
                        show jGo E l 45 229 229 _ 114 [.inr (.inr (.inl 176)), .inl a1, .inl a2, .inl a3, .inl a4] [] 229 jr0 h
                        refine jGo_blk qX12_decree_114 ?_
                        refine st_gr jo_176 jr_176_7 ?_
                        refine st_gi jo_176 (fun v189 ev189 b190 => ?_)
                        replace ev189 : v189 = h 176 6 := ev189
                        replace b190 := (jbf_12_6 jo_176 _).1 b190
                        refine st_si jo_182 (show 0 ≤ v189 by omega) (show v189 < ((40 : Nat) : Int) by omega) (fun hx => (jba_182 _ _).2 (show 0 ≤ a1 ∧ a1 ≤ 3 by omega)) (fun g191 eg191 => ?_)
                        replace eg191 : g191 = jup h 182 v189 a1 := eg191
                        have fg191 : jfr w_X12_decree h g191 := jfr_up f0 eg191 (by unfold w_X12_decree; omega)
                        have e192 : g191 182 v189 = a1 := jup_s eg191
                        refine st_gr jo_176 jr_176_8 ?_
                        refine st_gi jo_176 (fun v193 ev193 b194 => ?_)
                        replace ev193 : v193 = g191 176 6 := ev193
                        replace b194 := (jbf_12_6 jo_176 _).1 b194
                        have e195 : g191 176 6 = h 176 6 := jup_o eg191 (by first | exact fun q => absurd q.1 (by decide) | exact fun q => absurd q.2 (by decide) | omega)
                        refine st_si jo_183 (show 0 ≤ v193 by omega) (show v193 < ((40 : Nat) : Int) by omega) (fun hx => (jba_183 _ _).2 (show 0 ≤ a2 ∧ a2 ≤ 3 by omega)) (fun g196 eg196 => ?_)
                        replace eg196 : g196 = jup g191 183 v193 a2 := eg196
                        have fg196 : jfr w_X12_decree h g196 := jfr_up fg191 eg196 (by unfold w_X12_decree; omega)
                        have e197 : g196 183 v193 = a2 := jup_s eg196
                        refine st_gr jo_176 jr_176_9 ?_
                        refine st_gi jo_176 (fun v198 ev198 b199 => ?_)
                        replace ev198 : v198 = g196 176 6 := ev198
                        replace b199 := (jbf_12_6 jo_176 _).1 b199
                        have e200 : g196 176 6 = g191 176 6 := jup_o eg196 (by first | exact fun q => absurd q.1 (by decide) | exact fun q => absurd q.2 (by decide) | omega)
                        refine st_si jo_184 (show 0 ≤ v198 by omega) (show v198 < ((40 : Nat) : Int) by omega) (fun hx => (jba_184 _ _).2 (show 0 ≤ a3 ∧ a3 ≤ 200 by omega)) (fun g201 eg201 => ?_)
                        replace eg201 : g201 = jup g196 184 v198 a3 := eg201
                        have fg201 : jfr w_X12_decree h g201 := jfr_up fg196 eg201 (by unfold w_X12_decree; omega)
                        have e202 : g201 184 v198 = a3 := jup_s eg201
                        refine st_gr jo_176 jr_176_10 ?_
                        refine st_gi jo_176 (fun v203 ev203 b204 => ?_)
                        replace ev203 : v203 = g201 176 6 := ev203
                        replace b204 := (jbf_12_6 jo_176 _).1 b204
                        have e205 : g201 176 6 = g196 176 6 := jup_o eg201 (by first | exact fun q => absurd q.1 (by decide) | exact fun q => absurd q.2 (by decide) | omega)
                        refine st_si jo_185 (show 0 ≤ v203 by omega) (show v203 < ((40 : Nat) : Int) by omega) (fun hx => (jba_185 _ _).2 (show 0 ≤ a4 ∧ a4 ≤ 2000 by omega)) (fun g206 eg206 => ?_)
                        replace eg206 : g206 = jup g201 185 v203 a4 := eg206
                        have fg206 : jfr w_X12_decree h g206 := jfr_up fg201 eg206 (by unfold w_X12_decree; omega)
                        have e207 : g206 185 v203 = a4 := jup_s eg206
                        refine st_gi jo_176 (fun v208 ev208 b209 => ?_)
                        replace ev208 : v208 = g206 176 6 := ev208
                        replace b209 := (jbf_12_6 jo_176 _).1 b209
                        have e210 : g206 176 6 = g201 176 6 := jup_o eg206 (by first | exact fun q => absurd q.1 (by decide) | exact fun q => absurd q.2 (by decide) | omega)
                        have e211 : jw32 (v208 + 1) = v208 + 1 := jzj32 (by omega)
                        refine st_pi jo_176 (fun hx => (jbf_12_6 jo_176 _).2 (show 0 ≤ jw32 (v208 + 1) ∧ jw32 (v208 + 1) ≤ 40 by omega)) (fun g212 eg212 => ?_)
                        replace eg212 : g212 = jup g206 176 6 (jw32 (v208 + 1)) := eg212
                        have fg212 : jfr w_X12_decree h g212 := jfr_up fg206 eg212 (by unfold w_X12_decree; omega)
                        have e213 : g212 176 6 = jw32 (v208 + 1) := jup_s eg212
                        refine st_gi jo_176 (fun v214 ev214 b215 => ?_)
                        replace ev214 : v214 = g212 176 6 := ev214
                        replace b215 := (jbf_12_6 jo_176 _).1 b215
                        have e216 : jw32 (v214 - 1) = v214 - 1 := jzj32 (by omega)
                        have hc217 : (g212 182 (h 176 6) = a1 ∧ g212 183 (h 176 6) = a2 ∧ g212 184 (h 176 6) = a3 ∧ g212 185 (h 176 6) = a4 ∧ ∀ i k : Int, 182 ≤ i → i ≤ 185 → ¬ k = h 176 6 → g212 i k = h i k) := by
                          have n0 : v203 = h 176 6 := (by omega); have n1 : v198 = h 176 6 := (by omega); have n2 : v193 = h 176 6 := (by omega); have n3 : v189 = h 176 6 := (by omega)
                          refine ⟨?_, ?_, ?_, ?_, fun i k q1 q2 q3 => ?_⟩
                          · have E0 := jup_i eg212 182 (h 176 6); have E1 := jup_i eg206 182 (h 176 6); have E2 := jup_i eg201 182 (h 176 6); have E3 := jup_i eg196 182 (h 176 6); have E4 := jup_i eg191 182 (h 176 6); omega
                          · have E0 := jup_i eg212 183 (h 176 6); have E1 := jup_i eg206 183 (h 176 6); have E2 := jup_i eg201 183 (h 176 6); have E3 := jup_i eg196 183 (h 176 6); have E4 := jup_i eg191 183 (h 176 6); omega
                          · have E0 := jup_i eg212 184 (h 176 6); have E1 := jup_i eg206 184 (h 176 6); have E2 := jup_i eg201 184 (h 176 6); have E3 := jup_i eg196 184 (h 176 6); have E4 := jup_i eg191 184 (h 176 6); omega
                          · have E0 := jup_i eg212 185 (h 176 6); have E1 := jup_i eg206 185 (h 176 6); have E2 := jup_i eg201 185 (h 176 6); have E3 := jup_i eg196 185 (h 176 6); have E4 := jup_i eg191 185 (h 176 6); omega
                          · have E0 := jup_i eg212 i k; have E1 := jup_i eg206 i k; have E2 := jup_i eg201 i k; have E3 := jup_i eg196 i k; have E4 := jup_i eg191 i k; omega
                        exact st_r0 (ls := []) ⟨rfl, rfl, fg212, jw32 (v214 - 1), rfl, (by omega), (by refine ⟨by unfold P_X12_decree; exact Or.inr (Or.inr (Or.inr ⟨by omega, by omega, by omega, hc217⟩)), fun b9 => absurd b9 (by omega)⟩)⟩
                      · replace c188 : v186 = 40 := by first | exact c188 | exact Int.not_le.mp c188 | exact Int.not_lt.mp c188 | exact Decidable.not_not.mp c188
                        show jGo E l 45 229 229 _ 107 [.inr (.inr (.inl 176)), .inl a1, .inl a2, .inl a3, .inl a4] [] 229 jr0 h
                        refine jGo_blk qX12_decree_107 ?_
                        refine st_cv (na := 1) (st := [.inl (-6), .inr (.inr (.inl 176))]) jo_176 rfl rfl rfl (c_X12_refuse (-6) h (by omega)) rfl ?_
                        rintro _ _ g219 ⟨rfl, ft218, t218, rfl, ht218, zt218⟩ kt218
                        replace kt218 : -2147483648 ≤ t218 ∧ t218 ≤ 2147483647 := kt218
                        replace ht218 : -7 ≤ t218 ∧ t218 ≤ -1 := ht218
                        have fg219 : jfr w_X12_decree h g219 := jfr_tr f0 ft218 ws_X12_refuse__X12_decree
                        replace zt218 : t218 = (-6 : Int) := zt218
                        have e220 : g219 176 6 = h 176 6 := ft218 176 6 (by unfold w_X12_refuse; omega)
                        have hs221 : ∀ i k : Int, 182 ≤ i → i ≤ 185 → g219 i k = h i k := fun i k p1 p2 => (ft218 i k (by unfold w_X12_refuse; omega))
                        exact st_r0 (ls := []) ⟨rfl, rfl, fg219, t218, rfl, (by omega), (by refine ⟨by unfold P_X12_decree; first | exact Or.inl ⟨by omega, by omega, hs221⟩ | exact Or.inr (Or.inl ⟨by omega, by omega, hs221⟩) | exact Or.inr (Or.inr (Or.inl ⟨by omega, by omega, hs221⟩)), fun _ i k q9 => ?_⟩; exact (ft218 i k (jzma_w_X12_refuse q9)))⟩
                · replace c175 : a1 = 2 := by first | exact c175 | exact Int.not_le.mp c175 | exact Int.not_lt.mp c175 | exact Decidable.not_not.mp c175
                  exfalso; omega
              · replace c174 : a1 = 1 := by first | exact c174 | exact Int.not_le.mp c174 | exact Int.not_lt.mp c174 | exact Decidable.not_not.mp c174
                exfalso; omega
            · replace c173 : a1 = 0 := by first | exact c173 | exact Int.not_le.mp c173 | exact Int.not_lt.mp c173 | exact Decidable.not_not.mp c173
              exfalso; omega
          · replace c172 : a4 < v170 := by first | exact c172 | exact Int.not_le.mp c172 | exact Int.not_lt.mp c172 | exact Decidable.not_not.mp c172
            show jGo E l 45 229 229 _ 47 [.inr (.inr (.inl 176)), .inl a1, .inl a2, .inl a3, .inl a4] [] 229 jr0 h
            refine jGo_blk qX12_decree_47 ?_
            refine st_cv (na := 1) (st := [.inl (-4), .inr (.inr (.inl 176))]) jo_176 rfl rfl rfl (c_X12_refuse (-4) h (by omega)) rfl ?_
            rintro _ _ g223 ⟨rfl, ft222, t222, rfl, ht222, zt222⟩ kt222
            replace kt222 : -2147483648 ≤ t222 ∧ t222 ≤ 2147483647 := kt222
            replace ht222 : -7 ≤ t222 ∧ t222 ≤ -1 := ht222
            have fg223 : jfr w_X12_decree h g223 := jfr_tr f0 ft222 ws_X12_refuse__X12_decree
            replace zt222 : t222 = (-4 : Int) := zt222
            have e224 : g223 176 6 = h 176 6 := ft222 176 6 (by unfold w_X12_refuse; omega)
            have hs225 : ∀ i k : Int, 182 ≤ i → i ≤ 185 → g223 i k = h i k := fun i k p1 p2 => (ft222 i k (by unfold w_X12_refuse; omega))
            exact st_r0 (ls := []) ⟨rfl, rfl, fg223, t222, rfl, (by omega), (by refine ⟨by unfold P_X12_decree; first | exact Or.inl ⟨by omega, by omega, hs225⟩ | exact Or.inr (Or.inl ⟨by omega, by omega, hs225⟩) | exact Or.inr (Or.inr (Or.inl ⟨by omega, by omega, hs225⟩)), fun _ i k q9 => ?_⟩; exact (ft222 i k (jzma_w_X12_refuse q9)))⟩
    · replace c10 : t8 = 0 := by first | exact c10 | exact Int.not_le.mp c10 | exact Int.not_lt.mp c10 | exact Decidable.not_not.mp c10
      show jGo E l 45 229 229 _ 18 [.inr (.inr (.inl 176)), .inl a1, .inl a2, .inl a3, .inl a4] [] 229 jr0 h
      refine jGo_blk qX12_decree_18 ?_
      refine st_cv (na := 1) (st := [.inl (-1), .inr (.inr (.inl 176))]) jo_176 rfl rfl rfl (c_X12_refuse (-1) h (by omega)) rfl ?_
      rintro _ _ g227 ⟨rfl, ft226, t226, rfl, ht226, zt226⟩ kt226
      replace kt226 : -2147483648 ≤ t226 ∧ t226 ≤ 2147483647 := kt226
      replace ht226 : -7 ≤ t226 ∧ t226 ≤ -1 := ht226
      have fg227 : jfr w_X12_decree h g227 := jfr_tr f0 ft226 ws_X12_refuse__X12_decree
      replace zt226 : t226 = (-1 : Int) := zt226
      have e228 : g227 176 6 = h 176 6 := ft226 176 6 (by unfold w_X12_refuse; omega)
      have hs229 : ∀ i k : Int, 182 ≤ i → i ≤ 185 → g227 i k = h i k := fun i k p1 p2 => (ft226 i k (by unfold w_X12_refuse; omega))
      exact st_r0 (ls := []) ⟨rfl, rfl, fg227, t226, rfl, (by omega), (by refine ⟨by unfold P_X12_decree; first | exact Or.inl ⟨by omega, by omega, hs229⟩ | exact Or.inr (Or.inl ⟨by omega, by omega, hs229⟩) | exact Or.inr (Or.inr (Or.inl ⟨by omega, by omega, hs229⟩)), fun _ i k q9 => ?_⟩; exact (ft226 i k (jzma_w_X12_refuse q9)))⟩
