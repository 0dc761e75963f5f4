def w_X12_part (i k : Int) : Prop := (210 ≤ i ∧ i ≤ 214) ∨ (i = 219)
def k_X12_part (a1 : Int) (a2 : Int) (a3 : Int) (a4 : Int) (a5 : Int) (h : JH) (v : Option JV) (r' g : JH) : Prop := r' = jr0 ∧ jfr w_X12_part h g ∧ ∃ x : Int, v = some (.inl x) ∧ (-7 ≤ x ∧ x ≤ 5) ∧ (P_X12_part a1 a2 a3 a4 a5 x h g)
set_option maxHeartbeats 4000000 in
theorem c_X12_part {E : JE} {l : Launch} (a1 : Int) (a2 : Int) (a3 : Int) (a4 : Int) (a5 : Int) (h : JH) : jMt E l 105 [.inr (.inr (.inl 176)), .inl a1, .inl a2, .inl a3, .inl a4, .inl a5] 229 jr0 h (k_X12_part a1 a2 a3 a4 a5 h) := by
  refine jMt0 (nL := 7) (ls := [.inr (.inr (.inl 176)), .inl a1, .inl a2, .inl a3, .inl a4, .inl a5, .inr (.inr (.inr ()))]) (by decide +kernel) (by decide +kernel) (by decide +kernel) rfl rfl ?_
  have f0 : jfr w_X12_part h h := jfr_rf _ _
  refine jGo_blk qX12_part_0 ?_
  refine st_cs (na := 3) (st := [.inl 2, .inl 0, .inl a1]) rfl rfl rfl (c_X12_in a1 0 2 h) rfl ?_
  rintro _ _ _ ⟨rfl, rfl, t1, rfl, ht1, zt1⟩ kt1
  replace kt1 : -2147483648 ≤ t1 ∧ t1 ≤ 2147483647 := kt1
  replace ht1 : 0 ≤ t1 ∧ t1 ≤ 1 := ht1
  replace zt1 : (t1 = 1 ∧ (0 : Int) ≤ a1 ∧ a1 ≤ (2 : Int)) ∨ (t1 = 0 ∧ ¬ ((0 : Int) ≤ a1 ∧ a1 ≤ (2 : Int))) := zt1
  refine And.intro (fun c3 => ?_) (fun c3 => ?_)
  · replace c3 : t1 = 0 := c3
    show jGo E l 105 229 229 _ 18 [.inr (.inr (.inl 176)), .inl a1, .inl a2, .inl a3, .inl a4, .inl a5, .inr (.inr (.inr ()))] [] 229 jr0 h
    refine jGo_blk qX12_part_18 ?_
    refine st_cv (na := 1) (st := [.inl (-1), .inr (.inr (.inl 176))]) jo_176 rfl rfl rfl (c_X12_refuse (-1) h (by omega)) rfl ?_
    rintro _ _ g5 ⟨rfl, ft4, t4, rfl, ht4, zt4⟩ kt4
    replace kt4 : -2147483648 ≤ t4 ∧ t4 ≤ 2147483647 := kt4
    replace ht4 : -7 ≤ t4 ∧ t4 ≤ -1 := ht4
    have fg5 : jfr w_X12_part h g5 := jfr_tr f0 ft4 (fun i k q => by unfold w_X12_refuse at q; unfold w_X12_part; omega)
    replace zt4 : t4 = (-1 : Int) := zt4
    have hs6 : ∀ i k : Int, 210 ≤ i → i ≤ 210 → g5 i k = h i k := fun i k p1 p2 => (ft4 i k (by unfold w_X12_refuse; omega))
    exact st_r0 (ls := []) ⟨rfl, rfl, fg5, t4, rfl, (by omega), (by unfold P_X12_part; by_cases zz : t4 = -4 <;> first | exact Or.inl ⟨by omega, hs6⟩ | exact Or.inr (Or.inl ⟨by omega, hs6⟩) | exact Or.inr (Or.inr (Or.inl ⟨by omega, hs6⟩)))⟩
  · replace c3 : ¬ t1 = 0 := by first | exact c3 | exact Int.not_le.mp c3 | exact Int.not_lt.mp c3 | exact Decidable.not_not.mp c3
    refine st_cs (na := 3) (st := [.inl 2, .inl 0, .inl a2]) rfl rfl rfl (c_X12_in a2 0 2 h) rfl ?_
    rintro _ _ _ ⟨rfl, rfl, t7, rfl, ht7, zt7⟩ kt7
    replace kt7 : -2147483648 ≤ t7 ∧ t7 ≤ 2147483647 := kt7
    replace ht7 : 0 ≤ t7 ∧ t7 ≤ 1 := ht7
    replace zt7 : (t7 = 1 ∧ (0 : Int) ≤ a2 ∧ a2 ≤ (2 : Int)) ∨ (t7 = 0 ∧ ¬ ((0 : Int) ≤ a2 ∧ a2 ≤ (2 : Int))) := zt7
    refine And.intro (fun c9 => ?_) (fun c9 => ?_)
    · replace c9 : ¬ t7 = 0 := c9
      show jGo E l 105 229 229 _ 24 [.inr (.inr (.inl 176)), .inl a1, .inl a2, .inl a3, .inl a4, .inl a5, .inr (.inr (.inr ()))] [] 229 jr0 h
      refine jGo_blk qX12_part_24 ?_
      refine And.intro (fun c10 => ?_) (fun c10 => ?_)
      · replace c10 : a3 < (-9) := c10
        show jGo E l 105 229 229 _ 41 [.inr (.inr (.inl 176)), .inl a1, .inl a2, .inl a3, .inl a4, .inl a5, .inr (.inr (.inr ()))] [] 229 jr0 h
        refine jGo_blk qX12_part_41 ?_
        refine st_cv (na := 1) (st := [.inl (-4), .inr (.inr (.inl 176))]) jo_176 rfl rfl rfl (c_X12_refuse (-4) h (by omega)) rfl ?_
        rintro _ _ g12 ⟨rfl, ft11, t11, rfl, ht11, zt11⟩ kt11
        replace kt11 : -2147483648 ≤ t11 ∧ t11 ≤ 2147483647 := kt11
        replace ht11 : -7 ≤ t11 ∧ t11 ≤ -1 := ht11
        have fg12 : jfr w_X12_part h g12 := jfr_tr f0 ft11 (fun i k q => by unfold w_X12_refuse at q; unfold w_X12_part; omega)
        replace zt11 : t11 = (-4 : Int) := zt11
        have hs13 : ∀ i k : Int, 210 ≤ i → i ≤ 210 → g12 i k = h i k := fun i k p1 p2 => (ft11 i k (by unfold w_X12_refuse; omega))
        exact st_r0 (ls := []) ⟨rfl, rfl, fg12, t11, rfl, (by omega), (by unfold P_X12_part; by_cases zz : t11 = -4 <;> first | exact Or.inl ⟨by omega, hs13⟩ | exact Or.inr (Or.inl ⟨by omega, hs13⟩) | exact Or.inr (Or.inr (Or.inl ⟨by omega, hs13⟩)))⟩
      · replace c10 : (-9) ≤ a3 := by first | exact c10 | exact Int.not_le.mp c10 | exact Int.not_lt.mp c10 | exact Decidable.not_not.mp c10
        refine And.intro (fun c14 => ?_) (fun c14 => ?_)
        · replace c14 : a4 < 0 := c14
          show jGo E l 105 229 229 _ 41 [.inr (.inr (.inl 176)), .inl a1, .inl a2, .inl a3, .inl a4, .inl a5, .inr (.inr (.inr ()))] [] 229 jr0 h
          refine jGo_blk qX12_part_41 ?_
          refine st_cv (na := 1) (st := [.inl (-4), .inr (.inr (.inl 176))]) jo_176 rfl rfl rfl (c_X12_refuse (-4) h (by omega)) rfl ?_
          rintro _ _ g16 ⟨rfl, ft15, t15, rfl, ht15, zt15⟩ kt15
          replace kt15 : -2147483648 ≤ t15 ∧ t15 ≤ 2147483647 := kt15
          replace ht15 : -7 ≤ t15 ∧ t15 ≤ -1 := ht15
          have fg16 : jfr w_X12_part h g16 := jfr_tr f0 ft15 (fun i k q => by unfold w_X12_refuse at q; unfold w_X12_part; omega)
          replace zt15 : t15 = (-4 : Int) := zt15
          have hs17 : ∀ i k : Int, 210 ≤ i → i ≤ 210 → g16 i k = h i k := fun i k p1 p2 => (ft15 i k (by unfold w_X12_refuse; omega))
          exact st_r0 (ls := []) ⟨rfl, rfl, fg16, t15, rfl, (by omega), (by unfold P_X12_part; by_cases zz : t15 = -4 <;> first | exact Or.inl ⟨by omega, hs17⟩ | exact Or.inr (Or.inl ⟨by omega, hs17⟩) | exact Or.inr (Or.inr (Or.inl ⟨by omega, hs17⟩)))⟩
        · replace c14 : 0 ≤ a4 := by first | exact c14 | exact Int.not_le.mp c14 | exact Int.not_lt.mp c14 | exact Decidable.not_not.mp c14
          refine And.intro (fun c18 => ?_) (fun c18 => ?_)
          · replace c18 : 1 ≤ a5 := c18
            show jGo E l 105 229 229 _ 48 [.inr (.inr (.inl 176)), .inl a1, .inl a2, .inl a3, .inl a4, .inl a5, .inr (.inr (.inr ()))] [] 229 jr0 h
            refine jGo_blk qX12_part_48 ?_
            refine And.intro (fun c19 => ?_) (fun c19 => ?_)
            · replace c19 : 9 < a3 := c19
              show jGo E l 105 229 229 _ 80 [.inr (.inr (.inl 176)), .inl a1, .inl a2, .inl a3, .inl a4, .inl a5, .inr (.inr (.inr ()))] [] 229 jr0 h
              refine jGo_blk qX12_part_80 ?_
              refine st_cv (na := 1) (st := [.inl (-6), .inr (.inr (.inl 176))]) jo_176 rfl rfl rfl (c_X12_refuse (-6) h (by omega)) rfl ?_
              rintro _ _ g21 ⟨rfl, ft20, t20, rfl, ht20, zt20⟩ kt20
              replace kt20 : -2147483648 ≤ t20 ∧ t20 ≤ 2147483647 := kt20
              replace ht20 : -7 ≤ t20 ∧ t20 ≤ -1 := ht20
              have fg21 : jfr w_X12_part h g21 := jfr_tr f0 ft20 (fun i k q => by unfold w_X12_refuse at q; unfold w_X12_part; omega)
              replace zt20 : t20 = (-6 : Int) := zt20
              have hs22 : ∀ i k : Int, 210 ≤ i → i ≤ 210 → g21 i k = h i k := fun i k p1 p2 => (ft20 i k (by unfold w_X12_refuse; omega))
              exact st_r0 (ls := []) ⟨rfl, rfl, fg21, t20, rfl, (by omega), (by unfold P_X12_part; by_cases zz : t20 = -4 <;> first | exact Or.inl ⟨by omega, hs22⟩ | exact Or.inr (Or.inl ⟨by omega, hs22⟩) | exact Or.inr (Or.inr (Or.inl ⟨by omega, hs22⟩)))⟩
            · replace c19 : a3 ≤ 9 := by first | exact c19 | exact Int.not_le.mp c19 | exact Int.not_lt.mp c19 | exact Decidable.not_not.mp c19
              refine And.intro (fun c23 => ?_) (fun c23 => ?_)
              · replace c23 : 9 < a4 := c23
                show jGo E l 105 229 229 _ 80 [.inr (.inr (.inl 176)), .inl a1, .inl a2, .inl a3, .inl a4, .inl a5, .inr (.inr (.inr ()))] [] 229 jr0 h
                refine jGo_blk qX12_part_80 ?_
                refine st_cv (na := 1) (st := [.inl (-6), .inr (.inr (.inl 176))]) jo_176 rfl rfl rfl (c_X12_refuse (-6) h (by omega)) rfl ?_
                rintro _ _ g25 ⟨rfl, ft24, t24, rfl, ht24, zt24⟩ kt24
                replace kt24 : -2147483648 ≤ t24 ∧ t24 ≤ 2147483647 := kt24
                replace ht24 : -7 ≤ t24 ∧ t24 ≤ -1 := ht24
                have fg25 : jfr w_X12_part h g25 := jfr_tr f0 ft24 (fun i k q => by unfold w_X12_refuse at q; unfold w_X12_part; omega)
                replace zt24 : t24 = (-6 : Int) := zt24
                have hs26 : ∀ i k : Int, 210 ≤ i → i ≤ 210 → g25 i k = h i k := fun i k p1 p2 => (ft24 i k (by unfold w_X12_refuse; omega))
                exact st_r0 (ls := []) ⟨rfl, rfl, fg25, t24, rfl, (by omega), (by unfold P_X12_part; by_cases zz : t24 = -4 <;> first | exact Or.inl ⟨by omega, hs26⟩ | exact Or.inr (Or.inl ⟨by omega, hs26⟩) | exact Or.inr (Or.inr (Or.inl ⟨by omega, hs26⟩)))⟩
              · replace c23 : a4 ≤ 9 := by first | exact c23 | exact Int.not_le.mp c23 | exact Int.not_lt.mp c23 | exact Decidable.not_not.mp c23
                refine And.intro (fun c27 => ?_) (fun c27 => ?_)
                · replace c27 : 500 < a5 := c27
                  show jGo E l 105 229 229 _ 80 [.inr (.inr (.inl 176)), .inl a1, .inl a2, .inl a3, .inl a4, .inl a5, .inr (.inr (.inr ()))] [] 229 jr0 h
                  refine jGo_blk qX12_part_80 ?_
                  refine st_cv (na := 1) (st := [.inl (-6), .inr (.inr (.inl 176))]) jo_176 rfl rfl rfl (c_X12_refuse (-6) h (by omega)) rfl ?_
                  rintro _ _ g29 ⟨rfl, ft28, t28, rfl, ht28, zt28⟩ kt28
                  replace kt28 : -2147483648 ≤ t28 ∧ t28 ≤ 2147483647 := kt28
                  replace ht28 : -7 ≤ t28 ∧ t28 ≤ -1 := ht28
                  have fg29 : jfr w_X12_part h g29 := jfr_tr f0 ft28 (fun i k q => by unfold w_X12_refuse at q; unfold w_X12_part; omega)
                  replace zt28 : t28 = (-6 : Int) := zt28
                  have hs30 : ∀ i k : Int, 210 ≤ i → i ≤ 210 → g29 i k = h i k := fun i k p1 p2 => (ft28 i k (by unfold w_X12_refuse; omega))
                  exact st_r0 (ls := []) ⟨rfl, rfl, fg29, t28, rfl, (by omega), (by unfold P_X12_part; by_cases zz : t28 = -4 <;> first | exact Or.inl ⟨by omega, hs30⟩ | exact Or.inr (Or.inl ⟨by omega, hs30⟩) | exact Or.inr (Or.inr (Or.inl ⟨by omega, hs30⟩)))⟩
                · replace c27 : a5 ≤ 500 := by first | exact c27 | exact Int.not_le.mp c27 | exact Int.not_lt.mp c27 | exact Decidable.not_not.mp c27
                  refine st_gr jo_176 jr_176_40 ?_
                  refine st_ai jo_210 (show 0 ≤ a1 by omega) (show a1 < ((3 : Nat) : Int) by omega) (fun v31 ev31 b32 => ?_)
                  replace ev31 : v31 = h 210 a1 := ev31
                  replace b32 := (jba_210 a1 _).1 b32
                  refine And.intro (fun c33 => ?_) (fun c33 => ?_)
                  · replace c33 : ¬ v31 = 6 := c33
                    show jGo E l 105 229 229 _ 87 [.inr (.inr (.inl 176)), .inl a1, .inl a2, .inl a3, .inl a4, .inl a5, .inr (.inr (.inr ()))] [] 229 jr0 h
                    refine jGo_blk qX12_part_87 ?_
                    have e34 : jw32 (6 * a1) = 6 * a1 := j32e (by omega) (by omega)
                    refine st_gr jo_176 jr_176_40 ?_
                    refine st_ai jo_210 (show 0 ≤ a1 by omega) (show a1 < ((3 : Nat) : Int) by omega) (fun v35 ev35 b36 => ?_)
                    replace ev35 : v35 = h 210 a1 := ev35
                    replace b36 := (jba_210 a1 _).1 b36
                    have e37 : jw32 ((jw32 (6 * a1)) + v35) = (jw32 (6 * a1)) + v35 := j32e (by omega) (by omega)
                    refine st_gr jo_176 jr_176_41 ?_
                    refine st_si jo_211 (show 0 ≤ jw32 ((jw32 (6 * a1)) + v35) by omega) (show jw32 ((jw32 (6 * a1)) + v35) < ((18 : Nat) : Int) by omega) (fun hx => (jba_211 _ _).2 (show 0 ≤ a2 ∧ a2 ≤ 2 by omega)) (fun g38 eg38 => ?_)
                    replace eg38 : g38 = jup h 211 (jw32 ((jw32 (6 * a1)) + v35)) a2 := eg38
                    have fg38 : jfr w_X12_part h g38 := jfr_up f0 eg38 (by unfold w_X12_part; omega)
                    have e39 : g38 211 (jw32 ((jw32 (6 * a1)) + v35)) = a2 := jup_s eg38
                    refine st_gr jo_176 jr_176_42 ?_
                    refine st_si jo_212 (show 0 ≤ jw32 ((jw32 (6 * a1)) + v35) by omega) (show jw32 ((jw32 (6 * a1)) + v35) < ((18 : Nat) : Int) by omega) (fun hx => (jba_212 _ _).2 (show -9 ≤ a3 ∧ a3 ≤ 9 by omega)) (fun g40 eg40 => ?_)
                    replace eg40 : g40 = jup g38 212 (jw32 ((jw32 (6 * a1)) + v35)) a3 := eg40
                    have fg40 : jfr w_X12_part h g40 := jfr_up fg38 eg40 (by unfold w_X12_part; omega)
                    have e41 : g40 212 (jw32 ((jw32 (6 * a1)) + v35)) = a3 := jup_s eg40
                    refine st_gr jo_176 jr_176_43 ?_
                    refine st_si jo_213 (show 0 ≤ jw32 ((jw32 (6 * a1)) + v35) by omega) (show jw32 ((jw32 (6 * a1)) + v35) < ((18 : Nat) : Int) by omega) (fun hx => (jba_213 _ _).2 (show 0 ≤ a4 ∧ a4 ≤ 9 by omega)) (fun g42 eg42 => ?_)
                    replace eg42 : g42 = jup g40 213 (jw32 ((jw32 (6 * a1)) + v35)) a4 := eg42
                    have fg42 : jfr w_X12_part h g42 := jfr_up fg40 eg42 (by unfold w_X12_part; omega)
                    have e43 : g42 213 (jw32 ((jw32 (6 * a1)) + v35)) = a4 := jup_s eg42
                    refine st_gr jo_176 jr_176_44 ?_
                    refine st_si jo_214 (show 0 ≤ jw32 ((jw32 (6 * a1)) + v35) by omega) (show jw32 ((jw32 (6 * a1)) + v35) < ((18 : Nat) : Int) by omega) (fun hx => (jba_214 _ _).2 (show 0 ≤ a5 ∧ a5 ≤ 500 by omega)) (fun g44 eg44 => ?_)
                    replace eg44 : g44 = jup g42 214 (jw32 ((jw32 (6 * a1)) + v35)) a5 := eg44
                    have fg44 : jfr w_X12_part h g44 := jfr_up fg42 eg44 (by unfold w_X12_part; omega)
                    have e45 : g44 214 (jw32 ((jw32 (6 * a1)) + v35)) = a5 := jup_s eg44
                    refine st_gr jo_176 jr_176_40 ?_
                    refine st_ai jo_210 (show 0 ≤ a1 by omega) (show a1 < ((3 : Nat) : Int) by omega) (fun v46 ev46 b47 => ?_)
                    replace ev46 : v46 = g44 210 a1 := ev46
                    replace b47 := (jba_210 a1 _).1 b47
                    have e48 : g44 210 a1 = g42 210 a1 := jup_o eg44 (by omega)
                    have e49 : g42 210 a1 = g40 210 a1 := jup_o eg42 (by omega)
                    have e50 : g40 210 a1 = g38 210 a1 := jup_o eg40 (by omega)
                    have e51 : g38 210 a1 = h 210 a1 := jup_o eg38 (by omega)
                    have e52 : jw32 (v46 + 1) = v46 + 1 := j32e (by omega) (by omega)
                    refine st_si jo_210 (show 0 ≤ a1 by omega) (show a1 < ((3 : Nat) : Int) by omega) (fun hx => (jba_210 _ _).2 (show 0 ≤ jw32 (v46 + 1) ∧ jw32 (v46 + 1) ≤ 6 by omega)) (fun g53 eg53 => ?_)
                    replace eg53 : g53 = jup g44 210 a1 (jw32 (v46 + 1)) := eg53
                    have fg53 : jfr w_X12_part h g53 := jfr_up fg44 eg53 (by unfold w_X12_part; omega)
                    have e54 : g53 210 a1 = jw32 (v46 + 1) := jup_s eg53
                    refine st_gr jo_176 jr_176_40 ?_
                    refine st_ai jo_210 (show 0 ≤ a1 by omega) (show a1 < ((3 : Nat) : Int) by omega) (fun v55 ev55 b56 => ?_)
                    replace ev55 : v55 = g53 210 a1 := ev55
                    replace b56 := (jba_210 a1 _).1 b56
                    have e57 : jw32 (v55 - 1) = v55 - 1 := j32e (by omega) (by omega)
                    have e58 : g44 210 a1 = h 210 a1 := ((jup_o eg44 (by omega)).trans ((jup_o eg42 (by omega)).trans ((jup_o eg40 (by omega)).trans (jup_o eg38 (by omega)))))
                    have hs59 : g53 210 a1 = h 210 a1 + 1 := by
                      exact (jup_s eg53).trans (show jw32 (v46 + 1) = h 210 a1 + 1 by omega)
                    have hs60 : ∀ i k : Int, 210 ≤ i → i ≤ 210 → ¬ (i = 210 ∧ k = a1) → g53 i k = h i k := fun i k p1 p2 p3 => ((jup_o eg53 (by omega)).trans ((jup_o eg44 (by omega)).trans ((jup_o eg42 (by omega)).trans ((jup_o eg40 (by omega)).trans (jup_o eg38 (by omega))))))
                    exact st_r0 (ls := []) ⟨rfl, rfl, fg53, jw32 (v55 - 1), rfl, (by omega), (by unfold P_X12_part; first | exact Or.inr (Or.inr (Or.inr ⟨by omega, ⟨hs59, hs60⟩⟩)))⟩
                  · replace c33 : v31 = 6 := by first | exact c33 | exact Int.not_le.mp c33 | exact Int.not_lt.mp c33 | exact Decidable.not_not.mp c33
                    show jGo E l 105 229 229 _ 80 [.inr (.inr (.inl 176)), .inl a1, .inl a2, .inl a3, .inl a4, .inl a5, .inr (.inr (.inr ()))] [] 229 jr0 h
                    refine jGo_blk qX12_part_80 ?_
                    refine st_cv (na := 1) (st := [.inl (-6), .inr (.inr (.inl 176))]) jo_176 rfl rfl rfl (c_X12_refuse (-6) h (by omega)) rfl ?_
                    rintro _ _ g62 ⟨rfl, ft61, t61, rfl, ht61, zt61⟩ kt61
                    replace kt61 : -2147483648 ≤ t61 ∧ t61 ≤ 2147483647 := kt61
                    replace ht61 : -7 ≤ t61 ∧ t61 ≤ -1 := ht61
                    have fg62 : jfr w_X12_part h g62 := jfr_tr f0 ft61 (fun i k q => by unfold w_X12_refuse at q; unfold w_X12_part; omega)
                    replace zt61 : t61 = (-6 : Int) := zt61
                    have hs63 : ∀ i k : Int, 210 ≤ i → i ≤ 210 → g62 i k = h i k := fun i k p1 p2 => (ft61 i k (by unfold w_X12_refuse; omega))
                    exact st_r0 (ls := []) ⟨rfl, rfl, fg62, t61, rfl, (by omega), (by unfold P_X12_part; by_cases zz : t61 = -4 <;> first | exact Or.inl ⟨by omega, hs63⟩ | exact Or.inr (Or.inl ⟨by omega, hs63⟩) | exact Or.inr (Or.inr (Or.inl ⟨by omega, hs63⟩)))⟩
          · replace c18 : a5 < 1 := by first | exact c18 | exact Int.not_le.mp c18 | exact Int.not_lt.mp c18 | exact Decidable.not_not.mp c18
            show jGo E l 105 229 229 _ 41 [.inr (.inr (.inl 176)), .inl a1, .inl a2, .inl a3, .inl a4, .inl a5, .inr (.inr (.inr ()))] [] 229 jr0 h
            refine jGo_blk qX12_part_41 ?_
            refine st_cv (na := 1) (st := [.inl (-4), .inr (.inr (.inl 176))]) jo_176 rfl rfl rfl (c_X12_refuse (-4) h (by omega)) rfl ?_
            rintro _ _ g65 ⟨rfl, ft64, t64, rfl, ht64, zt64⟩ kt64
            replace kt64 : -2147483648 ≤ t64 ∧ t64 ≤ 2147483647 := kt64
            replace ht64 : -7 ≤ t64 ∧ t64 ≤ -1 := ht64
            have fg65 : jfr w_X12_part h g65 := jfr_tr f0 ft64 (fun i k q => by unfold w_X12_refuse at q; unfold w_X12_part; omega)
            replace zt64 : t64 = (-4 : Int) := zt64
            have hs66 : ∀ i k : Int, 210 ≤ i → i ≤ 210 → g65 i k = h i k := fun i k p1 p2 => (ft64 i k (by unfold w_X12_refuse; omega))
            exact st_r0 (ls := []) ⟨rfl, rfl, fg65, t64, rfl, (by omega), (by unfold P_X12_part; by_cases zz : t64 = -4 <;> first | exact Or.inl ⟨by omega, hs66⟩ | exact Or.inr (Or.inl ⟨by omega, hs66⟩) | exact Or.inr (Or.inr (Or.inl ⟨by omega, hs66⟩)))⟩
    · replace c9 : t7 = 0 := by first | exact c9 | exact Int.not_le.mp c9 | exact Int.not_lt.mp c9 | exact Decidable.not_not.mp c9
      show jGo E l 105 229 229 _ 18 [.inr (.inr (.inl 176)), .inl a1, .inl a2, .inl a3, .inl a4, .inl a5, .inr (.inr (.inr ()))] [] 229 jr0 h
      refine jGo_blk qX12_part_18 ?_
      refine st_cv (na := 1) (st := [.inl (-1), .inr (.inr (.inl 176))]) jo_176 rfl rfl rfl (c_X12_refuse (-1) h (by omega)) rfl ?_
      rintro _ _ g68 ⟨rfl, ft67, t67, rfl, ht67, zt67⟩ kt67
      replace kt67 : -2147483648 ≤ t67 ∧ t67 ≤ 2147483647 := kt67
      replace ht67 : -7 ≤ t67 ∧ t67 ≤ -1 := ht67
      have fg68 : jfr w_X12_part h g68 := jfr_tr f0 ft67 (fun i k q => by unfold w_X12_refuse at q; unfold w_X12_part; omega)
      replace zt67 : t67 = (-1 : Int) := zt67
      have hs69 : ∀ i k : Int, 210 ≤ i → i ≤ 210 → g68 i k = h i k := fun i k p1 p2 => (ft67 i k (by unfold w_X12_refuse; omega))
      exact st_r0 (ls := []) ⟨rfl, rfl, fg68, t67, rfl, (by omega), (by unfold P_X12_part; by_cases zz : t67 = -4 <;> first | exact Or.inl ⟨by omega, hs69⟩ | exact Or.inr (Or.inl ⟨by omega, hs69⟩) | exact Or.inr (Or.inr (Or.inl ⟨by omega, hs69⟩)))⟩

def k_X6_lackingNumber (a0 : Int) (h : JH) (v : Option JV) (r' g : JH) : Prop := r' = jr0 ∧ h = g ∧ ∃ x : Int, v = some (.inr (.inl x)) ∧ (19456426971176 ≤ x ∧ x ≤ 19461061219176) ∧ (x = jlk a0)
set_option maxHeartbeats 4000000 in
theorem c_X6_lackingNumber {E : JE} {l : Launch} (a0 : Int) (h : JH) (p0 : 0 ≤ a0 ∧ a0 ≤ 5) : jMt E l 107 [.inl a0] 229 jr0 h (k_X6_lackingNumber a0 h) := by
  refine jMt0 (nL := 1) (ls := [.inl a0]) (by decide +kernel) (by decide +kernel) (by decide +kernel) rfl rfl ?_
  refine jGo_blk qX6_lackingNumber_0 ?_
  refine st_xl (by decide) jx_k6 (jx_l6 E) (show 0 ≤ a0 by omega) (show a0 < ((6 : Nat) : Int) by omega) (fun v1 ev1 => ?_)
  have bv1 : 1 ≤ v1 ∧ v1 ≤ 115856201 := by rw [ev1]; exact jx_w6 E a0 (by omega) (by omega)
  replace ev1 : v1 = jxv E (-6) a0 := ev1
  have e2 : jw64 (40 * v1) = 40 * v1 := j64e (by omega) (by omega)
  have e3 : jw64 (19456426971136 + (jw64 (40 * v1))) = 19456426971136 + (jw64 (40 * v1)) := j64e (by omega) (by omega)
  exact ⟨rfl, rfl, rfl, jw64 (19456426971136 + (jw64 (40 * v1))), rfl, (by omega), (by have q9 : jlk a0 = 19456426971136 + 40 * jxv E (-6) a0 := (by rw [jx_e6]; rfl); omega)⟩

def w_X6_fitting (i k : Int) : Prop := (i = 100)
def k_X6_fitting (a2 : Int) (a4 : Int) (h : JH) (v : Option JV) (r' g : JH) : Prop := r' = jr0 ∧ jfr w_X6_fitting h g ∧ ∃ x : Int, v = some (.inl x) ∧ (0 ≤ x ∧ x ≤ 63) ∧ (jCok x (h 92 a4) g)
set_option maxHeartbeats 4000000 in
theorem c_X6_fitting {E : JE} {l : Launch} (a2 : Int) (a4 : Int) (h : JH) (p2 : 0 ≤ a2 ∧ a2 ≤ 39) (p4 : 0 ≤ a4 ∧ a4 ≤ 2) (q0 : jGok h) : jMt E l 109 [.inr (.inr (.inl 97)), .inr (.inr (.inl 84)), .inl a2, .inr (.inr (.inl 91)), .inl a4] 229 jr0 h (k_X6_fitting a2 a4 h) := by
  refine jMt0 (nL := 9) (ls := [.inr (.inr (.inl 97)), .inr (.inr (.inl 84)), .inl a2, .inr (.inr (.inl 91)), .inl a4, .inr (.inr (.inr ())), .inr (.inr (.inr ())), .inr (.inr (.inr ())), .inr (.inr (.inr ()))]) (by decide +kernel) (by decide +kernel) (by decide +kernel) rfl rfl ?_
  have f0 : jfr w_X6_fitting h h := jfr_rf _ _
  refine jGo_bd (fun hbd => ?_)
  have hb0 := (jba_92 a4 _).1 (hbd 92 a4)
  have key : ∀ N : Nat, (∀ (x5 : Int) (x6 : Int) (x7 : JV) (x8 : JV) (g : JH), (0 ≤ x5 ∧ x5 ≤ 63 ∧ 0 ≤ x6 ∧ x6 ≤ 6) → (jCok x5 x6 g) → (x6 ≤ h 92 a4) → jfr w_X6_fitting h g → (6 - x6) < (N : Int) → jGo E l 109 229 229 (jRK (k_X6_fitting a2 a4 h)) 6 [.inr (.inr (.inl 97)), .inr (.inr (.inl 84)), .inl a2, .inr (.inr (.inl 91)), .inl a4, .inl x5, .inl x6, x7, x8] [] 229 jr0 g) := by
    intro N
    induction N with
    | zero => exact fun _ _ _ _ _ hi hx0 hx1 _ hN => absurd hN (by omega)
    | succ N ih =>
      intro x5 x6 x7 x8 g hi hx0 hx1 hf hN
      have hz0 : g 92 a4 = h 92 a4 := hf 92 a4 (by unfold w_X6_fitting; omega)
      have hz1 : g 87 a2 = h 87 a2 := hf 87 a2 (by unfold w_X6_fitting; omega)
      have hz2 := q0 a2 (by omega) (by omega)
      refine jGo_blk qX6_fitting_6 ?_
      refine st_gr jo_91 jr_91_0 ?_
      refine st_ai jo_92 (show 0 ≤ a4 by omega) (show a4 < ((3 : Nat) : Int) by omega) (fun v1 ev1 b2 => ?_)
      replace ev1 : v1 = g 92 a4 := ev1
      replace b2 := (jba_92 a4 _).1 b2
      refine And.intro (fun c3 => ?_) (fun c3 => ?_)
      · replace c3 : v1 ≤ x6 := c3
        show jGo E l 109 229 229 _ 137 [.inr (.inr (.inl 97)), .inr (.inr (.inl 84)), .inl a2, .inr (.inr (.inl 91)), .inl a4, .inl x5, .inl x6, x7, x8] [] 229 jr0 g
        refine jGo_blk qX6_fitting_137 ?_
        exact st_r0 (ls := []) ⟨rfl, rfl, hf, x5, rfl, (by omega), (by exact fun i h0 h1 hb => ⟨by have := (hx0 i h0 h1 hb).1; omega, (hx0 i h0 h1 hb).2⟩)⟩
      · replace c3 : x6 < v1 := by first | exact c3 | exact Int.not_le.mp c3 | exact Int.not_lt.mp c3 | exact Decidable.not_not.mp c3
        have e4 : jw32 (a4 * 6) = a4 * 6 := j32e (by omega) (by omega)
        have e5 : jw32 ((jw32 (a4 * 6)) + x6) = (jw32 (a4 * 6)) + x6 := j32e (by omega) (by omega)
        refine st_gr jo_84 jr_84_3 ?_
        refine st_ai jo_87 (show 0 ≤ a2 by omega) (show a2 < ((40 : Nat) : Int) by omega) (fun v6 ev6 b7 => ?_)
        replace ev6 : v6 = g 87 a2 := ev6
        replace b7 := (jba_87 a2 _).1 b7
        refine st_gr jo_91 jr_91_4 ?_
        refine st_ai jo_96 (show 0 ≤ jw32 ((jw32 (a4 * 6)) + x6) by omega) (show jw32 ((jw32 (a4 * 6)) + x6) < ((18 : Nat) : Int) by omega) (fun v8 ev8 b9 => ?_)
        replace ev8 : v8 = g 96 (jw32 ((jw32 (a4 * 6)) + x6)) := ev8
        replace b9 := (jba_96 (jw32 ((jw32 (a4 * 6)) + x6)) _).1 b9
        have e10 : jw32 (v6 - v8) = v6 - v8 := j32e (by omega) (by omega)
        refine st_gr jo_84 jr_84_1 ?_
        refine st_ai jo_85 (show 0 ≤ a2 by omega) (show a2 < ((40 : Nat) : Int) by omega) (fun v11 ev11 b12 => ?_)
        replace ev11 : v11 = g 85 a2 := ev11
        replace b12 := (jba_85 a2 _).1 b12
        refine st_gr jo_91 jr_91_1 ?_
        refine st_ai jo_93 (show 0 ≤ jw32 ((jw32 (a4 * 6)) + x6) by omega) (show jw32 ((jw32 (a4 * 6)) + x6) < ((18 : Nat) : Int) by omega) (fun v13 ev13 b14 => ?_)
        replace ev13 : v13 = g 93 (jw32 ((jw32 (a4 * 6)) + x6)) := ev13
        replace b14 := (jba_93 (jw32 ((jw32 (a4 * 6)) + x6)) _).1 b14
        refine And.intro (fun c15 => ?_) (fun c15 => ?_)
        · replace c15 : ¬ v11 = v13 := c15
          show jGo E l 109 229 229 _ 131 [.inr (.inr (.inl 97)), .inr (.inr (.inl 84)), .inl a2, .inr (.inr (.inl 91)), .inl a4, .inl x5, .inl x6, .inl (jw32 ((jw32 (a4 * 6)) + x6)), .inl (jw32 (v6 - v8))] [] 229 jr0 g
          refine jGo_blk qX6_fitting_131 ?_
          have e16 : jw32 (x6 + 1) = x6 + 1 := j32e (by omega) (by omega)
          show jGo E l 109 229 229 _ 6 [.inr (.inr (.inl 97)), .inr (.inr (.inl 84)), .inl a2, .inr (.inr (.inl 91)), .inl a4, .inl x5, .inl (jw32 (x6 + 1)), .inl (jw32 ((jw32 (a4 * 6)) + x6)), .inl (jw32 (v6 - v8))] [] 229 jr0 g
          exact ih x5 (jw32 (x6 + 1)) (.inl (jw32 ((jw32 (a4 * 6)) + x6))) (.inl (jw32 (v6 - v8))) g (by omega) (by exact fun i h0 h1 hb => ⟨by have := (hx0 i h0 h1 hb).1; omega, (hx0 i h0 h1 hb).2⟩) (by omega) hf (by omega)
        · replace c15 : v11 = v13 := by first | exact c15 | exact Int.not_le.mp c15 | exact Int.not_lt.mp c15 | exact Decidable.not_not.mp c15
          refine And.intro (fun c17 => ?_) (fun c17 => ?_)
          · replace c17 : jw32 (v6 - v8) < 0 := c17
            show jGo E l 109 229 229 _ 131 [.inr (.inr (.inl 97)), .inr (.inr (.inl 84)), .inl a2, .inr (.inr (.inl 91)), .inl a4, .inl x5, .inl x6, .inl (jw32 ((jw32 (a4 * 6)) + x6)), .inl (jw32 (v6 - v8))] [] 229 jr0 g
            refine jGo_blk qX6_fitting_131 ?_
            have e18 : jw32 (x6 + 1) = x6 + 1 := j32e (by omega) (by omega)
            show jGo E l 109 229 229 _ 6 [.inr (.inr (.inl 97)), .inr (.inr (.inl 84)), .inl a2, .inr (.inr (.inl 91)), .inl a4, .inl x5, .inl (jw32 (x6 + 1)), .inl (jw32 ((jw32 (a4 * 6)) + x6)), .inl (jw32 (v6 - v8))] [] 229 jr0 g
            exact ih x5 (jw32 (x6 + 1)) (.inl (jw32 ((jw32 (a4 * 6)) + x6))) (.inl (jw32 (v6 - v8))) g (by omega) (by exact fun i h0 h1 hb => ⟨by have := (hx0 i h0 h1 hb).1; omega, (hx0 i h0 h1 hb).2⟩) (by omega) hf (by omega)
          · replace c17 : 0 ≤ jw32 (v6 - v8) := by first | exact c17 | exact Int.not_le.mp c17 | exact Int.not_lt.mp c17 | exact Decidable.not_not.mp c17
            refine st_gr jo_84 jr_84_2 ?_
            refine st_ai jo_86 (show 0 ≤ a2 by omega) (show a2 < ((40 : Nat) : Int) by omega) (fun v19 ev19 b20 => ?_)
            replace ev19 : v19 = g 86 a2 := ev19
            replace b20 := (jba_86 a2 _).1 b20
            refine st_gr jo_91 jr_91_2 ?_
            refine st_ai jo_94 (show 0 ≤ jw32 ((jw32 (a4 * 6)) + x6) by omega) (show jw32 ((jw32 (a4 * 6)) + x6) < ((18 : Nat) : Int) by omega) (fun v21 ev21 b22 => ?_)
            replace ev21 : v21 = g 94 (jw32 ((jw32 (a4 * 6)) + x6)) := ev21
            replace b22 := (jba_94 (jw32 ((jw32 (a4 * 6)) + x6)) _).1 b22
            have e23 : jw32 (v19 - v21) = v19 - v21 := j32e (by omega) (by omega)
            refine st_m2 rfl (fun v24 ev24 => ?_)
            refine st_gr jo_91 jr_91_3 ?_
            refine st_ai jo_95 (show 0 ≤ jw32 ((jw32 (a4 * 6)) + x6) by omega) (show jw32 ((jw32 (a4 * 6)) + x6) < ((18 : Nat) : Int) by omega) (fun v25 ev25 b26 => ?_)
            replace ev25 : v25 = g 95 (jw32 ((jw32 (a4 * 6)) + x6)) := ev25
            replace b26 := (jba_95 (jw32 ((jw32 (a4 * 6)) + x6)) _).1 b26
            refine And.intro (fun c27 => ?_) (fun c27 => ?_)
            · replace c27 : v25 < v24 := c27
              show jGo E l 109 229 229 _ 131 [.inr (.inr (.inl 97)), .inr (.inr (.inl 84)), .inl a2, .inr (.inr (.inl 91)), .inl a4, .inl x5, .inl x6, .inl (jw32 ((jw32 (a4 * 6)) + x6)), .inl (jw32 (v6 - v8))] [] 229 jr0 g
              refine jGo_blk qX6_fitting_131 ?_
              have e28 : jw32 (x6 + 1) = x6 + 1 := j32e (by omega) (by omega)
              show jGo E l 109 229 229 _ 6 [.inr (.inr (.inl 97)), .inr (.inr (.inl 84)), .inl a2, .inr (.inr (.inl 91)), .inl a4, .inl x5, .inl (jw32 (x6 + 1)), .inl (jw32 ((jw32 (a4 * 6)) + x6)), .inl (jw32 (v6 - v8))] [] 229 jr0 g
              exact ih x5 (jw32 (x6 + 1)) (.inl (jw32 ((jw32 (a4 * 6)) + x6))) (.inl (jw32 (v6 - v8))) g (by omega) (by exact fun i h0 h1 hb => ⟨by have := (hx0 i h0 h1 hb).1; omega, (hx0 i h0 h1 hb).2⟩) (by omega) hf (by omega)
            · replace c27 : v24 ≤ v25 := by first | exact c27 | exact Int.not_le.mp c27 | exact Int.not_lt.mp c27 | exact Decidable.not_not.mp c27
              have e29 := jshl1_5 x6 (by omega) (by omega)
              have e30 := jor63 x5 (jshl 1 x6) (by omega) (by omega) (by omega) (by omega)
              refine st_gr jo_97 jr_97_4 ?_
              have e31 : jw64 ((jw32 (v6 - v8)) * 4750104241) = (jw32 (v6 - v8)) * 4750104241 := j64e (by omega) (by omega)
              refine st_xl (by decide) jx_k6 (jx_l6 E) (show 0 ≤ x6 by omega) (show x6 < ((6 : Nat) : Int) by omega) (fun v32 ev32 => ?_)
              have bv32 : 1 ≤ v32 ∧ v32 ≤ 115856201 := by rw [ev32]; exact jx_w6 E x6 (by omega) (by omega)
              replace ev32 : v32 = jxv E (-6) x6 := ev32
              have e33 := jmul_b (a := a2) (b := v32) (A := 39) (B := 115856201) (by omega) (by omega) (by omega) (by omega)
              have e34 : jw64 (a2 * v32) = a2 * v32 := j64e (by omega) (by omega)
              have e35 : jw64 ((jw64 ((jw32 (v6 - v8)) * 4750104241)) + (jw64 (a2 * v32))) = (jw64 ((jw32 (v6 - v8)) * 4750104241)) + (jw64 (a2 * v32)) := j64e (by omega) (by omega)
              refine st_cs (na := 1) (st := [.inl x6, .inr (.inl (jw64 ((jw64 ((jw32 (v6 - v8)) * 4750104241)) + (jw64 (a2 * v32))))), .inl x6, .inr (.inr (.inl 100))]) rfl rfl rfl (c_X6_lackingNumber x6 g (by omega)) rfl ?_
              rintro _ _ _ ⟨rfl, rfl, t36, rfl, ht36, zt36⟩ kt36
              replace kt36 : -9223372036854775808 ≤ t36 ∧ t36 ≤ 9223372036854775807 := kt36
              replace ht36 : 19456426971176 ≤ t36 ∧ t36 ≤ 19461061219176 := ht36
              replace zt36 : t36 = jlk x6 := zt36
              have e38 : jw64 ((jw64 ((jw64 ((jw32 (v6 - v8)) * 4750104241)) + (jw64 (a2 * v32)))) - t36) = (jw64 ((jw64 ((jw32 (v6 - v8)) * 4750104241)) + (jw64 (a2 * v32)))) - t36 := j64e (by omega) (by omega)
              refine st_sl jo_100 (show 0 ≤ x6 by omega) (show x6 < ((6 : Nat) : Int) by omega) (fun hx => (jba_100 _ _).2 hx) (fun g39 eg39 => ?_)
              replace eg39 : g39 = jup g 100 x6 (jw64 ((jw64 ((jw64 ((jw32 (v6 - v8)) * 4750104241)) + (jw64 (a2 * v32)))) - t36)) := eg39
              have fg39 : jfr w_X6_fitting h g39 := jfr_up hf eg39 (by unfold w_X6_fitting; omega)
              show jGo E l 109 229 229 _ 131 [.inr (.inr (.inl 97)), .inr (.inr (.inl 84)), .inl a2, .inr (.inr (.inl 91)), .inl a4, .inl (jor x5 (jshl 1 x6)), .inl x6, .inl (jw32 ((jw32 (a4 * 6)) + x6)), .inl (jw32 (v6 - v8))] [] 229 jr0 g39
              refine jGo_blk qX6_fitting_131 ?_
              have e40 : jw32 (x6 + 1) = x6 + 1 := j32e (by omega) (by omega)
              show jGo E l 109 229 229 _ 6 [.inr (.inr (.inl 97)), .inr (.inr (.inl 84)), .inl a2, .inr (.inr (.inl 91)), .inl a4, .inl (jor x5 (jshl 1 x6)), .inl (jw32 (x6 + 1)), .inl (jw32 ((jw32 (a4 * 6)) + x6)), .inl (jw32 (v6 - v8))] [] 229 jr0 g39
              have hc41 : jCok (jor x5 (jshl 1 x6)) (jw32 (x6 + 1)) g39 := by
                intro i h0 h1 hb
                rcases jm_or x5 x6 i (by omega) (by omega) (by omega) (by omega) h0 h1 hb with q | q
                · have q2 := hx0 i h0 h1 q
                  rw [jup_o eg39 (by omega)]
                  exact ⟨by omega, q2.2⟩
                · subst q
                  rw [jup_s eg39]
                  have hk := jlk_b x6 h0 h1
                  exact ⟨by omega, by omega, by omega⟩
              exact ih (jor x5 (jshl 1 x6)) (jw32 (x6 + 1)) (.inl (jw32 ((jw32 (a4 * 6)) + x6))) (.inl (jw32 (v6 - v8))) g39 (by omega) (by exact hc41) (by omega) fg39 (by omega)
  refine jGo_blk qX6_fitting_0 ?_
  show jGo E l 109 229 229 _ 6 [.inr (.inr (.inl 97)), .inr (.inr (.inl 84)), .inl a2, .inr (.inr (.inl 91)), .inl a4, .inl 0, .inl 0, .inr (.inr (.inr ())), .inr (.inr (.inr ()))] [] 229 jr0 h
  exact (key 1000000000000) 0 0 (.inr (.inr (.inr ()))) (.inr (.inr (.inr ()))) h (by omega) (by exact fun i _ _ hb => absurd hb (by unfold jbt; simp)) (by omega) f0 (by omega)

def w_X6_offer (i k : Int) : Prop := (i = 99)
def k_X6_offer (a1 : Int) (a2 : Int) (h : JH) (v : Option JV) (r' g : JH) : Prop := r' = jr0 ∧ jfr w_X6_offer h g ∧ v = none ∧ (jLok a2 g)
set_option maxHeartbeats 4000000 in
theorem c_X6_offer {E : JE} {l : Launch} (a1 : Int) (a2 : Int) (h : JH) (p1 : 0 ≤ a1 ∧ a1 ≤ 63) (p2 : 1 ≤ a2 ∧ a2 ≤ 64) (q0 : a2 ∈ jsets) (q1 : jLok a2 h) (q2 : jDok a1 a2 h) : jMt E l 111 [.inr (.inr (.inl 97)), .inl a1, .inl a2] 229 jr0 h (k_X6_offer a1 a2 h) := by
  refine jMt0 (nL := 7) (ls := [.inr (.inr (.inl 97)), .inl a1, .inl a2, .inr (.inr (.inr ())), .inr (.inr (.inr ())), .inr (.inr (.inr ())), .inr (.inr (.inr ()))]) (by decide +kernel) (by decide +kernel) (by decide +kernel) rfl rfl ?_
  have f0 : jfr w_X6_offer h h := jfr_rf _ _
  have key : ∀ N : Nat, (∀ (x3 : Int) (x4 : JV) (x5 : JV) (x6 : JV) (g : JH), (0 ≤ x3 ∧ x3 ≤ 63) → (jLok a2 g) → jfr w_X6_offer h g → (x3 - 0) * 1000000 + 999999 < (N : Int) → jGo E l 111 229 229 (jRK (k_X6_offer a1 a2 h)) 4 [.inr (.inr (.inl 97)), .inl a1, .inl a2, .inl x3, x4, x5, x6] [] 229 jr0 g) ∧
      (∀ (x3 : Int) (x4 : Int) (x5 : Int) (x6 : JV) (g : JH), (1 ≤ a1 ∧ a1 ≤ 63 ∧ 1 ≤ x3 ∧ x3 ≤ 63 ∧ 0 ≤ x4 ∧ x4 ≤ 63 ∧ 0 ≤ x5 ∧ x5 ≤ 6) → (jLok a2 g) → (x4 = jand x3 a1) → jfr w_X6_offer h g → (x3 - 0) * 1000000 + (6 - x5) < (N : Int) → jGo E l 111 229 229 (jRK (k_X6_offer a1 a2 h)) 20 [.inr (.inr (.inl 97)), .inl a1, .inl a2, .inl x3, .inl x4, .inl x5, x6] [] 229 jr0 g) := by
    intro N
    induction N with
    | zero => exact ⟨fun _ _ _ _ _ hi hx0 _ hN => absurd hN (by omega), fun _ _ _ _ _ hi hx0 hx1 _ hN => absurd hN (by omega)⟩
    | succ N ih =>
      refine ⟨?_, ?_⟩
      · intro x3 x4 x5 x6 g hi hx0 hf hN
        refine jGo_blk qX6_offer_4 ?_
        refine And.intro (fun c1 => ?_) (fun c1 => ?_)
        · replace c1 : x3 ≤ 0 := c1
          show jGo E l 111 229 229 _ 101 [.inr (.inr (.inl 97)), .inl a1, .inl a2, .inl x3, x4, x5, x6] [] 229 jr0 g
          refine jGo_blk qX6_offer_101 ?_
          exact ⟨rfl, rfl, hf, rfl, (by exact hx0)⟩
        · replace c1 : 0 < x3 := by first | exact c1 | exact Int.not_le.mp c1 | exact Int.not_lt.mp c1 | exact Decidable.not_not.mp c1
          refine And.intro (fun c2 => ?_) (fun c2 => ?_)
          · replace c2 : a1 = 0 := c2
            show jGo E l 111 229 229 _ 101 [.inr (.inr (.inl 97)), .inl a1, .inl a2, .inl x3, x4, x5, x6] [] 229 jr0 g
            refine jGo_blk qX6_offer_101 ?_
            exact ⟨rfl, rfl, hf, rfl, (by exact hx0)⟩
          · replace c2 : ¬ a1 = 0 := by first | exact c2 | exact Int.not_le.mp c2 | exact Int.not_lt.mp c2 | exact Decidable.not_not.mp c2
            have e3 := jand_le x3 a1 (by omega) (by omega)
            show jGo E l 111 229 229 _ 20 [.inr (.inr (.inl 97)), .inl a1, .inl a2, .inl x3, .inl (jand x3 a1), .inl 0, x6] [] 229 jr0 g
            exact ih.2 x3 (jand x3 a1) 0 x6 g (by omega) (by exact hx0) (by first | rfl | assumption) hf (by omega)
      · intro x3 x4 x5 x6 g hi hx0 hx1 hf hN
        refine jGo_blk qX6_offer_20 ?_
        refine And.intro (fun c4 => ?_) (fun c4 => ?_)
        · replace c4 : 6 ≤ x5 := c4
          show jGo E l 111 229 229 _ 95 [.inr (.inr (.inl 97)), .inl a1, .inl a2, .inl x3, .inl x4, .inl x5, x6] [] 229 jr0 g
          refine jGo_blk qX6_offer_95 ?_
          have e5 : jw32 (x3 + (-1)) = x3 + (-1) := j32e (by omega) (by omega)
          show jGo E l 111 229 229 _ 4 [.inr (.inr (.inl 97)), .inl a1, .inl a2, .inl (jw32 (x3 + (-1))), .inl x4, .inl x5, x6] [] 229 jr0 g
          exact ih.1 (jw32 (x3 + (-1))) (.inl x4) (.inl x5) x6 g (by omega) (by exact hx0) hf (by omega)
        · replace c4 : x5 < 6 := by first | exact c4 | exact Int.not_le.mp c4 | exact Int.not_lt.mp c4 | exact Decidable.not_not.mp c4
          have e6 := jshl1_5 x5 (by omega) (by omega)
          have e7 := jand_le x4 (jshl 1 x5) (by omega) (by omega)
          refine And.intro (fun c8 => ?_) (fun c8 => ?_)
          · replace c8 : jand x4 (jshl 1 x5) = 0 := c8
            show jGo E l 111 229 229 _ 89 [.inr (.inr (.inl 97)), .inl a1, .inl a2, .inl x3, .inl x4, .inl x5, .inl (jshl 1 x5)] [] 229 jr0 g
            refine jGo_blk qX6_offer_89 ?_
            have e9 : jw32 (x5 + 1) = x5 + 1 := j32e (by omega) (by omega)
            show jGo E l 111 229 229 _ 20 [.inr (.inr (.inl 97)), .inl a1, .inl a2, .inl x3, .inl x4, .inl (jw32 (x5 + 1)), .inl (jshl 1 x5)] [] 229 jr0 g
            exact ih.2 x3 x4 (jw32 (x5 + 1)) (.inl (jshl 1 x5)) g (by omega) (by exact hx0) (by first | rfl | assumption) hf (by omega)
          · replace c8 : ¬ jand x4 (jshl 1 x5) = 0 := by first | exact c8 | exact Int.not_le.mp c8 | exact Int.not_lt.mp c8 | exact Decidable.not_not.mp c8
            refine st_gr jo_97 jr_97_3 ?_
            have e10 := jxor63 x3 (jshl 1 x5) (by omega) (by omega) (by omega) (by omega)
            refine st_li jo_99 (show 0 ≤ jxor x3 (jshl 1 x5) by omega) (show jxor x3 (jshl 1 x5) < ((64 : Nat) : Int) by omega) (fun v11 ev11 b12 => ?_)
            replace ev11 : v11 = g 99 (jxor x3 (jshl 1 x5)) := ev11
            have e13 := jlc_u v11 4611686018427387904
            refine And.intro (fun c14 => ?_) (fun c14 => ?_)
            · replace c14 : jlc v11 4611686018427387904 = 0 := c14
              show jGo E l 111 229 229 _ 89 [.inr (.inr (.inl 97)), .inl a1, .inl a2, .inl x3, .inl x4, .inl x5, .inl (jshl 1 x5)] [] 229 jr0 g
              refine jGo_blk qX6_offer_89 ?_
              have e15 : jw32 (x5 + 1) = x5 + 1 := j32e (by omega) (by omega)
              show jGo E l 111 229 229 _ 20 [.inr (.inr (.inl 97)), .inl a1, .inl a2, .inl x3, .inl x4, .inl (jw32 (x5 + 1)), .inl (jshl 1 x5)] [] 229 jr0 g
              exact ih.2 x3 x4 (jw32 (x5 + 1)) (.inl (jshl 1 x5)) g (by omega) (by exact hx0) (by first | rfl | assumption) hf (by omega)
            · replace c14 : ¬ jlc v11 4611686018427387904 = 0 := by first | exact c14 | exact Int.not_le.mp c14 | exact Int.not_lt.mp c14 | exact Decidable.not_not.mp c14
              refine st_gr jo_97 jr_97_3 ?_
              refine st_gr jo_97 jr_97_3 ?_
              refine st_li jo_99 (show 0 ≤ x3 by omega) (show x3 < ((64 : Nat) : Int) by omega) (fun v16 ev16 b17 => ?_)
              replace ev16 : v16 = g 99 x3 := ev16
              refine st_gr jo_97 jr_97_3 ?_
              have e18 := jxor63 x3 (jshl 1 x5) (by omega) (by omega) (by omega) (by omega)
              refine st_li jo_99 (show 0 ≤ jxor x3 (jshl 1 x5) by omega) (show jxor x3 (jshl 1 x5) < ((64 : Nat) : Int) by omega) (fun v19 ev19 b20 => ?_)
              replace ev19 : v19 = g 99 (jxor x3 (jshl 1 x5)) := ev19
              refine st_gr jo_97 jr_97_4 ?_
              refine st_li jo_100 (show 0 ≤ x5 by omega) (show x5 < ((6 : Nat) : Int) by omega) (fun v21 ev21 b22 => ?_)
              replace ev21 : v21 = g 100 x5 := ev21
              have hbt := jm_bit x3 a1 x5 (by omega) (by omega) (by omega) (by omega) (by omega) (by omega) (by rw [← hx1]; assumption)
              have hD := q2 x5 (by omega) (by omega) hbt.2
              have hst := jm_step a2 x3 x5 q0 (by omega) (by omega) (by omega) (by omega) hbt.1 hD.1
              have hxr := jxor63 x3 (jshl 1 x5) (by omega) (by omega) (by omega) (by omega)
              have hl1 := hx0 (jxor x3 (jshl 1 x5)) hxr.1 hxr.2
              have hl2 := hx0 x3 (by omega) (by omega)
              have h100 : g 100 x5 = h 100 x5 := hf 100 x5 (by unfold w_X6_offer; omega)
              have hlb := jLs_b a2 x3 q0 (by omega) (by omega)
              have hkb := jlk_b x5 (by omega) (by omega)
              have hD2 := hD.2; clear hD
              have e23 : jw64 (v19 + v21) = v19 + v21 := j64e (by omega) (by omega)
              refine st_m3 rfl (fun v24 m1v24 m2v24 m3v24 => ?_)
              replace m1v24 : v24 ≤ v16 := m1v24; replace m2v24 : v24 ≤ jw64 (v19 + v21) := m2v24; replace m3v24 : v24 = v16 ∨ v24 = jw64 (v19 + v21) := m3v24
              refine st_sl jo_99 (show 0 ≤ x3 by omega) (show x3 < ((64 : Nat) : Int) by omega) (fun hx => (jba_99 _ _).2 hx) (fun g25 eg25 => ?_)
              replace eg25 : g25 = jup g 99 x3 v24 := eg25
              have fg25 : jfr w_X6_offer h g25 := jfr_up hf eg25 (by unfold w_X6_offer; omega)
              show jGo E l 111 229 229 _ 89 [.inr (.inr (.inl 97)), .inl a1, .inl a2, .inl x3, .inl x4, .inl x5, .inl (jshl 1 x5)] [] 229 jr0 g25
              refine jGo_blk qX6_offer_89 ?_
              have e26 : jw32 (x5 + 1) = x5 + 1 := j32e (by omega) (by omega)
              show jGo E l 111 229 229 _ 20 [.inr (.inr (.inl 97)), .inl a1, .inl a2, .inl x3, .inl x4, .inl (jw32 (x5 + 1)), .inl (jshl 1 x5)] [] 229 jr0 g25
              exact ih.2 x3 x4 (jw32 (x5 + 1)) (.inl (jshl 1 x5)) g25 (by omega) (by exact jLok_up hx0 eg25 (by omega)) (by first | rfl | assumption) fg25 (by omega)
  refine jGo_blk qX6_offer_0 ?_
  have e27 : jw32 (a2 - 1) = a2 - 1 := j32e (by omega) (by omega)
  show jGo E l 111 229 229 _ 4 [.inr (.inr (.inl 97)), .inl a1, .inl a2, .inl (jw32 (a2 - 1)), .inr (.inr (.inr ())), .inr (.inr (.inr ())), .inr (.inr (.inr ()))] [] 229 jr0 h
  exact (key 1000000000000000000).1 (jw32 (a2 - 1)) (.inr (.inr (.inr ()))) (.inr (.inr (.inr ()))) (.inr (.inr (.inr ()))) h (by omega) (by exact q1) f0 (by omega)

def w_X6_readOff (i k : Int) : Prop := (i = 98) ∨ (i = 97 ∧ 0 ≤ k ∧ k ≤ 1)
def k_X6_readOff (a1 : Int) (a2 : Int) (h : JH) (v : Option JV) (r' g : JH) : Prop := r' = jr0 ∧ jfr w_X6_readOff h g ∧ v = none ∧ (True)
set_option maxHeartbeats 4000000 in
theorem c_X6_readOff {E : JE} {l : Launch} (a1 : Int) (a2 : Int) (h : JH) (p1 : 0 ≤ a1 ∧ a1 ≤ 9223372036854775807) (p2 : 0 ≤ a2 ∧ a2 ≤ 6) : jMt E l 112 [.inr (.inr (.inl 97)), .inr (.inl a1), .inl a2] 229 jr0 h (k_X6_readOff a1 a2 h) := by
  refine jMt0 (nL := 6) (ls := [.inr (.inr (.inl 97)), .inr (.inl a1), .inr (.inr (.inr ())), .inl a2, .inr (.inr (.inr ())), .inr (.inr (.inr ()))]) (by decide +kernel) (by decide +kernel) (by decide +kernel) rfl rfl ?_
  have f0 : jfr w_X6_readOff h h := jfr_rf _ _
  have key : ∀ N : Nat, (∀ (x4 : Int) (x5 : JV) (g : JH), (0 ≤ x4 ∧ x4 ≤ 6) → jfr w_X6_readOff h g → (6 - x4) < (N : Int) → jGo E l 112 229 229 (jRK (k_X6_readOff a1 a2 h)) 22 [.inr (.inr (.inl 97)), .inr (.inl a1), .inr (.inr (.inr ())), .inl a2, .inl x4, x5] [] 229 jr0 g) := by
    intro N
    induction N with
    | zero => exact fun _ _ _ hi _ hN => absurd hN (by omega)
    | succ N ih =>
      intro x4 x5 g hi hf hN
      refine jGo_blk qX6_readOff_22 ?_
      refine And.intro (fun c1 => ?_) (fun c1 => ?_)
      · replace c1 : a2 ≤ x4 := c1
        show jGo E l 112 229 229 _ 87 [.inr (.inr (.inl 97)), .inr (.inl a1), .inr (.inr (.inr ())), .inl a2, .inl x4, x5] [] 229 jr0 g
        refine jGo_blk qX6_readOff_87 ?_
        exact ⟨rfl, rfl, hf, rfl, trivial⟩
      · replace c1 : x4 < a2 := by first | exact c1 | exact Int.not_le.mp c1 | exact Int.not_lt.mp c1 | exact Decidable.not_not.mp c1
        refine st_xl (by decide) jx_k6 (jx_l6 E) (show 0 ≤ x4 by omega) (show x4 < ((6 : Nat) : Int) by omega) (fun v2 ev2 => ?_)
        have bv2 : 1 ≤ v2 ∧ v2 ≤ 115856201 := by rw [ev2]; exact jx_w6 E x4 (by omega) (by omega)
        replace ev2 : v2 = jxv E (-6) x4 := ev2
        refine And.intro (show v2 ≠ 0 by omega) ?_
        have e3 := j64d (x := a1) (y := v2) (by omega) (by omega) (by omega)
        refine And.intro (show 41 ≠ 0 by omega) ?_
        have e4 := (jmd (x := (jw64 (a1.tdiv v2))) (y := 41) (by omega) (by omega)).2
        have e5 : jw32 ((jw64 (a1.tdiv v2)).tmod 41) = (jw64 (a1.tdiv v2)).tmod 41 := j32e (by omega) (by omega)
        refine st_gr jo_97 jr_97_2 ?_
        refine And.intro (fun c6 => ?_) (fun c6 => ?_)
        · replace c6 : ¬ jw32 ((jw64 (a1.tdiv v2)).tmod 41) = 40 := c6
          show jGo E l 112 229 229 _ 61 [.inr (.inr (.inl 97)), .inr (.inl a1), .inr (.inr (.inr ())), .inl a2, .inl x4, .inl (jw32 ((jw64 (a1.tdiv v2)).tmod 41))] [.inl x4, .inr (.inr (.inl 98))] 229 jr0 g
          refine jGo_blk qX6_readOff_61 ?_
          show jGo E l 112 229 229 _ 63 [.inr (.inr (.inl 97)), .inr (.inl a1), .inr (.inr (.inr ())), .inl a2, .inl x4, .inl (jw32 ((jw64 (a1.tdiv v2)).tmod 41))] [.inl (jw32 ((jw64 (a1.tdiv v2)).tmod 41)), .inl x4, .inr (.inr (.inl 98))] 229 jr0 g
          refine jGo_blk qX6_readOff_63 ?_
          refine st_si jo_98 (show 0 ≤ x4 by omega) (show x4 < ((6 : Nat) : Int) by omega) (fun hx => (jba_98 _ _).2 (show (0 ≤ jw32 ((jw64 (a1.tdiv v2)).tmod 41) ∧ jw32 ((jw64 (a1.tdiv v2)).tmod 41) ≤ 39) ∨ jw32 ((jw64 (a1.tdiv v2)).tmod 41) = -9 by omega)) (fun g7 eg7 => ?_)
          replace eg7 : g7 = jup g 98 x4 (jw32 ((jw64 (a1.tdiv v2)).tmod 41)) := eg7
          have fg7 : jfr w_X6_readOff h g7 := jfr_up hf eg7 (by unfold w_X6_readOff; omega)
          have e8 : g7 98 x4 = jw32 ((jw64 (a1.tdiv v2)).tmod 41) := jup_s eg7
          refine And.intro (fun c9 => ?_) (fun c9 => ?_)
          · replace c9 : jw32 ((jw64 (a1.tdiv v2)).tmod 41) = 40 := c9
            exfalso; omega
          · replace c9 : ¬ jw32 ((jw64 (a1.tdiv v2)).tmod 41) = 40 := by first | exact c9 | exact Int.not_le.mp c9 | exact Int.not_lt.mp c9 | exact Decidable.not_not.mp c9
            refine st_gi jo_97 (fun v10 ev10 b11 => ?_)
            replace ev10 : v10 = g7 97 0 := ev10
            replace b11 := (jbf_6_0 jo_97 _).1 b11
            have e12 : g7 97 0 = g 97 0 := jup_o eg7 (by omega)
            refine st_pi jo_97 (fun hx => (jbf_6_0 jo_97 _).2 hx) (fun g13 eg13 => ?_)
            replace eg13 : g13 = jup g7 97 0 (jw32 (v10 + 1)) := eg13
            have fg13 : jfr w_X6_readOff h g13 := jfr_up fg7 eg13 (by unfold w_X6_readOff; omega)
            have e14 : g13 97 0 = jw32 (v10 + 1) := jup_s eg13
            show jGo E l 112 229 229 _ 81 [.inr (.inr (.inl 97)), .inr (.inl a1), .inr (.inr (.inr ())), .inl a2, .inl x4, .inl (jw32 ((jw64 (a1.tdiv v2)).tmod 41))] [] 229 jr0 g13
            refine jGo_blk qX6_readOff_81 ?_
            have e15 : jw32 (x4 + 1) = x4 + 1 := j32e (by omega) (by omega)
            show jGo E l 112 229 229 _ 22 [.inr (.inr (.inl 97)), .inr (.inl a1), .inr (.inr (.inr ())), .inl a2, .inl (jw32 (x4 + 1)), .inl (jw32 ((jw64 (a1.tdiv v2)).tmod 41))] [] 229 jr0 g13
            exact ih (jw32 (x4 + 1)) (.inl (jw32 ((jw64 (a1.tdiv v2)).tmod 41))) g13 (by omega) fg13 (by omega)
        · replace c6 : jw32 ((jw64 (a1.tdiv v2)).tmod 41) = 40 := by first | exact c6 | exact Int.not_le.mp c6 | exact Int.not_lt.mp c6 | exact Decidable.not_not.mp c6
          show jGo E l 112 229 229 _ 63 [.inr (.inr (.inl 97)), .inr (.inl a1), .inr (.inr (.inr ())), .inl a2, .inl x4, .inl (jw32 ((jw64 (a1.tdiv v2)).tmod 41))] [.inl (-9), .inl x4, .inr (.inr (.inl 98))] 229 jr0 g
          refine jGo_blk qX6_readOff_63 ?_
          refine st_si jo_98 (show 0 ≤ x4 by omega) (show x4 < ((6 : Nat) : Int) by omega) (fun hx => (jba_98 _ _).2 (show (0 ≤ (-9) ∧ (-9) ≤ 39) ∨ (-9) = -9 by omega)) (fun g16 eg16 => ?_)
          replace eg16 : g16 = jup g 98 x4 (-9) := eg16
          have fg16 : jfr w_X6_readOff h g16 := jfr_up hf eg16 (by unfold w_X6_readOff; omega)
          have e17 : g16 98 x4 = (-9) := jup_s eg16
          refine And.intro (fun c18 => ?_) (fun c18 => ?_)
          · replace c18 : jw32 ((jw64 (a1.tdiv v2)).tmod 41) = 40 := c18
            show jGo E l 112 229 229 _ 81 [.inr (.inr (.inl 97)), .inr (.inl a1), .inr (.inr (.inr ())), .inl a2, .inl x4, .inl (jw32 ((jw64 (a1.tdiv v2)).tmod 41))] [] 229 jr0 g16
            refine jGo_blk qX6_readOff_81 ?_
            have e19 : jw32 (x4 + 1) = x4 + 1 := j32e (by omega) (by omega)
            show jGo E l 112 229 229 _ 22 [.inr (.inr (.inl 97)), .inr (.inl a1), .inr (.inr (.inr ())), .inl a2, .inl (jw32 (x4 + 1)), .inl (jw32 ((jw64 (a1.tdiv v2)).tmod 41))] [] 229 jr0 g16
            exact ih (jw32 (x4 + 1)) (.inl (jw32 ((jw64 (a1.tdiv v2)).tmod 41))) g16 (by omega) fg16 (by omega)
          · replace c18 : ¬ jw32 ((jw64 (a1.tdiv v2)).tmod 41) = 40 := by first | exact c18 | exact Int.not_le.mp c18 | exact Int.not_lt.mp c18 | exact Decidable.not_not.mp c18
            exfalso; omega
  refine jGo_blk qX6_readOff_0 ?_
  refine And.intro (show 4750104241 ≠ 0 by omega) ?_
  have e20 := j64d (x := a1) (y := 4750104241) (by omega) (by omega) (by omega)
  refine And.intro (show 4096 ≠ 0 by omega) ?_
  have e21 := (jmd (x := (jw64 (a1.tdiv 4750104241))) (y := 4096) (by omega) (by omega)).2
  have e22 : jw32 ((jw64 (a1.tdiv 4750104241)).tmod 4096) = (jw64 (a1.tdiv 4750104241)).tmod 4096 := j32e (by omega) (by omega)
  refine st_pi jo_97 (fun hx => (jbf_6_1 jo_97 _).2 hx) (fun g23 eg23 => ?_)
  replace eg23 : g23 = jup h 97 1 (jw32 ((jw64 (a1.tdiv 4750104241)).tmod 4096)) := eg23
  have fg23 : jfr w_X6_readOff h g23 := jfr_up f0 eg23 (by unfold w_X6_readOff; omega)
  have e24 : g23 97 1 = jw32 ((jw64 (a1.tdiv 4750104241)).tmod 4096) := jup_s eg23
  refine st_pi jo_97 (fun hx => (jbf_6_0 jo_97 _).2 hx) (fun g25 eg25 => ?_)
  replace eg25 : g25 = jup g23 97 0 0 := eg25
  have fg25 : jfr w_X6_readOff h g25 := jfr_up fg23 eg25 (by unfold w_X6_readOff; omega)
  have e26 : g25 97 0 = 0 := jup_s eg25
  show jGo E l 112 229 229 _ 22 [.inr (.inr (.inl 97)), .inr (.inl a1), .inr (.inr (.inr ())), .inl a2, .inl 0, .inr (.inr (.inr ()))] [] 229 jr0 g25
  exact (key 1000000000000) 0 (.inr (.inr (.inr ()))) g25 (by omega) fg25 (by omega)
