def w_X8_add (i k : Int) : Prop := (92 ≤ i ∧ i ≤ 96)
def k_X8_add (a1 : Int) (a2 : Int) (a3 : Int) (a4 : Int) (a5 : Int) (h : JH) (v : Option JV) (r' g : JH) : Prop := r' = jr0 ∧ jfr w_X8_add h g ∧ ∃ x : Int, v = some (.inl x) ∧ (0 ≤ x ∧ x ≤ 5) ∧ (x = h 92 a1 ∧ g 92 a1 = h 92 a1 + 1 ∧ ∀ i k : Int, 92 ≤ i → i ≤ 92 → ¬ (i = 92 ∧ k = a1) → g i k = h i k)
set_option maxHeartbeats 4000000 in
theorem c_X8_add {E : JE} {l : Launch} (a1 : Int) (a2 : Int) (a3 : Int) (a4 : Int) (a5 : Int) (h : JH) (p1 : 0 ≤ a1 ∧ a1 ≤ 2) (p2 : 0 ≤ a2 ∧ a2 ≤ 2) (p3 : -9 ≤ a3 ∧ a3 ≤ 9) (p4 : 0 ≤ a4 ∧ a4 ≤ 9) (p5 : 1 ≤ a5 ∧ a5 ≤ 500) (q0 : h 92 a1 ≤ 5) : jMt E l 103 [.inr (.inr (.inl 91)), .inl a1, .inl a2, .inl a3, .inl a4, .inl a5] 229 jr0 h (k_X8_add a1 a2 a3 a4 a5 h) := by
  refine jMt0 (nL := 7) (ls := [.inr (.inr (.inl 91)), .inl a1, .inl a2, .inl a3, .inl a4, .inl a5, .inr (.inr (.inr ()))]) (by decide +kernel) (by decide +kernel) (by decide +kernel) rfl rfl ?_
  have f0 : jfr w_X8_add h h := jfr_rf _ _
  refine jGo_blk qX8_add_0 ?_
  have e1 : jw32 (a1 * 6) = a1 * 6 := j32e (by omega) (by omega)
  refine st_gr jo_91 jr_91_0 ?_
  refine st_ai jo_92 (show 0 ≤ a1 by omega) (show a1 < ((3 : Nat) : Int) by omega) (fun v2 ev2 b3 => ?_)
  replace ev2 : v2 = h 92 a1 := ev2
  replace b3 := (jba_92 a1 _).1 b3
  have e4 : jw32 ((jw32 (a1 * 6)) + v2) = (jw32 (a1 * 6)) + v2 := j32e (by omega) (by omega)
  refine st_gr jo_91 jr_91_1 ?_
  refine st_si jo_93 (show 0 ≤ jw32 ((jw32 (a1 * 6)) + v2) by omega) (show jw32 ((jw32 (a1 * 6)) + v2) < ((18 : Nat) : Int) by omega) (fun hx => (jba_93 _ _).2 (show 0 ≤ a2 ∧ a2 ≤ 2 by omega)) (fun g5 eg5 => ?_)
  replace eg5 : g5 = jup h 93 (jw32 ((jw32 (a1 * 6)) + v2)) a2 := eg5
  have fg5 : jfr w_X8_add h g5 := jfr_up f0 eg5 (by unfold w_X8_add; omega)
  have e6 : g5 93 (jw32 ((jw32 (a1 * 6)) + v2)) = a2 := jup_s eg5
  refine st_gr jo_91 jr_91_2 ?_
  refine st_si jo_94 (show 0 ≤ jw32 ((jw32 (a1 * 6)) + v2) by omega) (show jw32 ((jw32 (a1 * 6)) + v2) < ((18 : Nat) : Int) by omega) (fun hx => (jba_94 _ _).2 (show -9 ≤ a3 ∧ a3 ≤ 9 by omega)) (fun g7 eg7 => ?_)
  replace eg7 : g7 = jup g5 94 (jw32 ((jw32 (a1 * 6)) + v2)) a3 := eg7
  have fg7 : jfr w_X8_add h g7 := jfr_up fg5 eg7 (by unfold w_X8_add; omega)
  have e8 : g7 94 (jw32 ((jw32 (a1 * 6)) + v2)) = a3 := jup_s eg7
  refine st_gr jo_91 jr_91_3 ?_
  refine st_si jo_95 (show 0 ≤ jw32 ((jw32 (a1 * 6)) + v2) by omega) (show jw32 ((jw32 (a1 * 6)) + v2) < ((18 : Nat) : Int) by omega) (fun hx => (jba_95 _ _).2 (show 0 ≤ a4 ∧ a4 ≤ 9 by omega)) (fun g9 eg9 => ?_)
  replace eg9 : g9 = jup g7 95 (jw32 ((jw32 (a1 * 6)) + v2)) a4 := eg9
  have fg9 : jfr w_X8_add h g9 := jfr_up fg7 eg9 (by unfold w_X8_add; omega)
  have e10 : g9 95 (jw32 ((jw32 (a1 * 6)) + v2)) = a4 := jup_s eg9
  refine st_gr jo_91 jr_91_4 ?_
  refine st_si jo_96 (show 0 ≤ jw32 ((jw32 (a1 * 6)) + v2) by omega) (show jw32 ((jw32 (a1 * 6)) + v2) < ((18 : Nat) : Int) by omega) (fun hx => (jba_96 _ _).2 (show 0 ≤ a5 ∧ a5 ≤ 500 by omega)) (fun g11 eg11 => ?_)
  replace eg11 : g11 = jup g9 96 (jw32 ((jw32 (a1 * 6)) + v2)) a5 := eg11
  have fg11 : jfr w_X8_add h g11 := jfr_up fg9 eg11 (by unfold w_X8_add; omega)
  have e12 : g11 96 (jw32 ((jw32 (a1 * 6)) + v2)) = a5 := jup_s eg11
  refine st_gr jo_91 jr_91_0 ?_
  refine st_ai jo_92 (show 0 ≤ a1 by omega) (show a1 < ((3 : Nat) : Int) by omega) (fun v13 ev13 b14 => ?_)
  replace ev13 : v13 = g11 92 a1 := ev13
  replace b14 := (jba_92 a1 _).1 b14
  have e15 : g11 92 a1 = g9 92 a1 := jup_o eg11 (by omega)
  have e16 : g9 92 a1 = g7 92 a1 := jup_o eg9 (by omega)
  have e17 : g7 92 a1 = g5 92 a1 := jup_o eg7 (by omega)
  have e18 : g5 92 a1 = h 92 a1 := jup_o eg5 (by omega)
  have e19 : jw32 (v13 + 1) = v13 + 1 := j32e (by omega) (by omega)
  refine st_si jo_92 (show 0 ≤ a1 by omega) (show a1 < ((3 : Nat) : Int) by omega) (fun hx => (jba_92 _ _).2 (show 0 ≤ jw32 (v13 + 1) ∧ jw32 (v13 + 1) ≤ 6 by omega)) (fun g20 eg20 => ?_)
  replace eg20 : g20 = jup g11 92 a1 (jw32 (v13 + 1)) := eg20
  have fg20 : jfr w_X8_add h g20 := jfr_up fg11 eg20 (by unfold w_X8_add; omega)
  have e21 : g20 92 a1 = jw32 (v13 + 1) := jup_s eg20
  refine st_gr jo_91 jr_91_0 ?_
  refine st_ai jo_92 (show 0 ≤ a1 by omega) (show a1 < ((3 : Nat) : Int) by omega) (fun v22 ev22 b23 => ?_)
  replace ev22 : v22 = g20 92 a1 := ev22
  replace b23 := (jba_92 a1 _).1 b23
  have e24 : jw32 (v22 - 1) = v22 - 1 := j32e (by omega) (by omega)
  have e25 : g11 92 a1 = h 92 a1 := ((jup_o eg11 (by omega)).trans ((jup_o eg9 (by omega)).trans ((jup_o eg7 (by omega)).trans (jup_o eg5 (by omega)))))
  have hs26 : g20 92 a1 = h 92 a1 + 1 := by
    exact (jup_s eg20).trans (show jw32 (v13 + 1) = h 92 a1 + 1 by omega)
  have hs27 : ∀ i k : Int, 92 ≤ i → i ≤ 92 → ¬ (i = 92 ∧ k = a1) → g20 i k = h i k := fun i k p1 p2 p3 => ((jup_o eg20 (by omega)).trans ((jup_o eg11 (by omega)).trans ((jup_o eg9 (by omega)).trans ((jup_o eg7 (by omega)).trans (jup_o eg5 (by omega))))))
  exact st_r0 (ls := []) ⟨rfl, rfl, fg20, jw32 (v22 - 1), rfl, (by omega), (by exact ⟨by omega, hs26, hs27⟩)⟩

def w_X11_part (i k : Int) : Prop := (i = 1) ∨ (92 ≤ i ∧ i ≤ 96)
def k_X11_part (a1 : Int) (a2 : Int) (a3 : Int) (a4 : Int) (a5 : Int) (h : JH) (v : Option JV) (r' g : JH) : Prop := r' = jr0 ∧ jfr w_X11_part h g ∧ ∃ x : Int, v = some (.inl x) ∧ (-7 ≤ x ∧ x ≤ 5) ∧ (P_X11_part a1 a2 a3 a4 a5 x h g)
set_option maxHeartbeats 4000000 in
theorem c_X11_part {E : JE} {l : Launch} (a1 : Int) (a2 : Int) (a3 : Int) (a4 : Int) (a5 : Int) (h : JH) : jMt E l 104 [.inr (.inr (.inl 0)), .inl a1, .inl a2, .inl a3, .inl a4, .inl a5] 229 jr0 h (k_X11_part a1 a2 a3 a4 a5 h) := by
  refine jMt0 (nL := 6) (ls := [.inr (.inr (.inl 0)), .inl a1, .inl a2, .inl a3, .inl a4, .inl a5]) (by decide +kernel) (by decide +kernel) (by decide +kernel) rfl rfl ?_
  have f0 : jfr w_X11_part h h := jfr_rf _ _
  refine jGo_blk qX11_part_0 ?_
  refine st_cs (na := 2) (st := [.inl 3, .inl a1]) rfl rfl rfl (c_X11_within a1 3 h) rfl ?_
  rintro _ _ _ ⟨rfl, rfl, t1, rfl, ht1, zt1⟩ kt1
  replace kt1 : -2147483648 ≤ t1 ∧ t1 ≤ 2147483647 := kt1
  replace ht1 : 0 ≤ t1 ∧ t1 ≤ 1 := ht1
  replace zt1 : (t1 = 1 ∧ 0 ≤ a1 ∧ a1 < (3 : Int)) ∨ (t1 = 0 ∧ ¬ (0 ≤ a1 ∧ a1 < (3 : Int))) := zt1
  refine And.intro (fun c3 => ?_) (fun c3 => ?_)
  · replace c3 : t1 = 0 := c3
    show jGo E l 104 229 229 _ 16 [.inr (.inr (.inl 0)), .inl a1, .inl a2, .inl a3, .inl a4, .inl a5] [] 229 jr0 h
    refine jGo_blk qX11_part_16 ?_
    refine st_cv (na := 1) (st := [.inl (-1), .inr (.inr (.inl 0))]) jo_0 rfl rfl rfl (c_X11_refused (-1) h (by omega)) rfl ?_
    rintro _ _ g5 ⟨rfl, ft4, t4, rfl, ht4, zt4⟩ kt4
    replace kt4 : -2147483648 ≤ t4 ∧ t4 ≤ 2147483647 := kt4
    replace ht4 : -7 ≤ t4 ∧ t4 ≤ -1 := ht4
    have fg5 : jfr w_X11_part h g5 := jfr_tr f0 ft4 (fun i k q => by unfold w_X11_refused at q; unfold w_X11_part; omega)
    replace zt4 : t4 = (-1 : Int) := zt4
    have hs6 : ∀ i k : Int, 92 ≤ i → i ≤ 92 → g5 i k = h i k := fun i k p1 p2 => (ft4 i k (by unfold w_X11_refused; omega))
    exact st_r0 (ls := []) ⟨rfl, rfl, fg5, t4, rfl, (by omega), (by unfold P_X11_part; by_cases zz : t4 = -4 <;> first | exact Or.inl ⟨by omega, hs6⟩ | exact Or.inr (Or.inl ⟨by omega, hs6⟩) | exact Or.inr (Or.inr (Or.inl ⟨by omega, hs6⟩)))⟩
  · replace c3 : ¬ t1 = 0 := by first | exact c3 | exact Int.not_le.mp c3 | exact Int.not_lt.mp c3 | exact Decidable.not_not.mp c3
    refine st_cs (na := 2) (st := [.inl 3, .inl a2]) rfl rfl rfl (c_X11_within a2 3 h) rfl ?_
    rintro _ _ _ ⟨rfl, rfl, t7, rfl, ht7, zt7⟩ kt7
    replace kt7 : -2147483648 ≤ t7 ∧ t7 ≤ 2147483647 := kt7
    replace ht7 : 0 ≤ t7 ∧ t7 ≤ 1 := ht7
    replace zt7 : (t7 = 1 ∧ 0 ≤ a2 ∧ a2 < (3 : Int)) ∨ (t7 = 0 ∧ ¬ (0 ≤ a2 ∧ a2 < (3 : Int))) := zt7
    refine And.intro (fun c9 => ?_) (fun c9 => ?_)
    · replace c9 : ¬ t7 = 0 := c9
      show jGo E l 104 229 229 _ 22 [.inr (.inr (.inl 0)), .inl a1, .inl a2, .inl a3, .inl a4, .inl a5] [] 229 jr0 h
      refine jGo_blk qX11_part_22 ?_
      refine And.intro (fun c10 => ?_) (fun c10 => ?_)
      · replace c10 : a3 < (-9) := c10
        show jGo E l 104 229 229 _ 39 [.inr (.inr (.inl 0)), .inl a1, .inl a2, .inl a3, .inl a4, .inl a5] [] 229 jr0 h
        refine jGo_blk qX11_part_39 ?_
        refine st_cv (na := 1) (st := [.inl (-4), .inr (.inr (.inl 0))]) jo_0 rfl rfl rfl (c_X11_refused (-4) h (by omega)) rfl ?_
        rintro _ _ g12 ⟨rfl, ft11, t11, rfl, ht11, zt11⟩ kt11
        replace kt11 : -2147483648 ≤ t11 ∧ t11 ≤ 2147483647 := kt11
        replace ht11 : -7 ≤ t11 ∧ t11 ≤ -1 := ht11
        have fg12 : jfr w_X11_part h g12 := jfr_tr f0 ft11 (fun i k q => by unfold w_X11_refused at q; unfold w_X11_part; omega)
        replace zt11 : t11 = (-4 : Int) := zt11
        have hs13 : ∀ i k : Int, 92 ≤ i → i ≤ 92 → g12 i k = h i k := fun i k p1 p2 => (ft11 i k (by unfold w_X11_refused; omega))
        exact st_r0 (ls := []) ⟨rfl, rfl, fg12, t11, rfl, (by omega), (by unfold P_X11_part; by_cases zz : t11 = -4 <;> first | exact Or.inl ⟨by omega, hs13⟩ | exact Or.inr (Or.inl ⟨by omega, hs13⟩) | exact Or.inr (Or.inr (Or.inl ⟨by omega, hs13⟩)))⟩
      · replace c10 : (-9) ≤ a3 := by first | exact c10 | exact Int.not_le.mp c10 | exact Int.not_lt.mp c10 | exact Decidable.not_not.mp c10
        refine And.intro (fun c14 => ?_) (fun c14 => ?_)
        · replace c14 : a4 < 0 := c14
          show jGo E l 104 229 229 _ 39 [.inr (.inr (.inl 0)), .inl a1, .inl a2, .inl a3, .inl a4, .inl a5] [] 229 jr0 h
          refine jGo_blk qX11_part_39 ?_
          refine st_cv (na := 1) (st := [.inl (-4), .inr (.inr (.inl 0))]) jo_0 rfl rfl rfl (c_X11_refused (-4) h (by omega)) rfl ?_
          rintro _ _ g16 ⟨rfl, ft15, t15, rfl, ht15, zt15⟩ kt15
          replace kt15 : -2147483648 ≤ t15 ∧ t15 ≤ 2147483647 := kt15
          replace ht15 : -7 ≤ t15 ∧ t15 ≤ -1 := ht15
          have fg16 : jfr w_X11_part h g16 := jfr_tr f0 ft15 (fun i k q => by unfold w_X11_refused at q; unfold w_X11_part; omega)
          replace zt15 : t15 = (-4 : Int) := zt15
          have hs17 : ∀ i k : Int, 92 ≤ i → i ≤ 92 → g16 i k = h i k := fun i k p1 p2 => (ft15 i k (by unfold w_X11_refused; omega))
          exact st_r0 (ls := []) ⟨rfl, rfl, fg16, t15, rfl, (by omega), (by unfold P_X11_part; by_cases zz : t15 = -4 <;> first | exact Or.inl ⟨by omega, hs17⟩ | exact Or.inr (Or.inl ⟨by omega, hs17⟩) | exact Or.inr (Or.inr (Or.inl ⟨by omega, hs17⟩)))⟩
        · replace c14 : 0 ≤ a4 := by first | exact c14 | exact Int.not_le.mp c14 | exact Int.not_lt.mp c14 | exact Decidable.not_not.mp c14
          refine And.intro (fun c18 => ?_) (fun c18 => ?_)
          · replace c18 : 1 ≤ a5 := c18
            show jGo E l 104 229 229 _ 46 [.inr (.inr (.inl 0)), .inl a1, .inl a2, .inl a3, .inl a4, .inl a5] [] 229 jr0 h
            refine jGo_blk qX11_part_46 ?_
            refine And.intro (fun c19 => ?_) (fun c19 => ?_)
            · replace c19 : 9 < a3 := c19
              show jGo E l 104 229 229 _ 81 [.inr (.inr (.inl 0)), .inl a1, .inl a2, .inl a3, .inl a4, .inl a5] [] 229 jr0 h
              refine jGo_blk qX11_part_81 ?_
              refine st_cv (na := 1) (st := [.inl (-6), .inr (.inr (.inl 0))]) jo_0 rfl rfl rfl (c_X11_refused (-6) h (by omega)) rfl ?_
              rintro _ _ g21 ⟨rfl, ft20, t20, rfl, ht20, zt20⟩ kt20
              replace kt20 : -2147483648 ≤ t20 ∧ t20 ≤ 2147483647 := kt20
              replace ht20 : -7 ≤ t20 ∧ t20 ≤ -1 := ht20
              have fg21 : jfr w_X11_part h g21 := jfr_tr f0 ft20 (fun i k q => by unfold w_X11_refused at q; unfold w_X11_part; omega)
              replace zt20 : t20 = (-6 : Int) := zt20
              have hs22 : ∀ i k : Int, 92 ≤ i → i ≤ 92 → g21 i k = h i k := fun i k p1 p2 => (ft20 i k (by unfold w_X11_refused; omega))
              exact st_r0 (ls := []) ⟨rfl, rfl, fg21, t20, rfl, (by omega), (by unfold P_X11_part; by_cases zz : t20 = -4 <;> first | exact Or.inl ⟨by omega, hs22⟩ | exact Or.inr (Or.inl ⟨by omega, hs22⟩) | exact Or.inr (Or.inr (Or.inl ⟨by omega, hs22⟩)))⟩
            · replace c19 : a3 ≤ 9 := by first | exact c19 | exact Int.not_le.mp c19 | exact Int.not_lt.mp c19 | exact Decidable.not_not.mp c19
              refine And.intro (fun c23 => ?_) (fun c23 => ?_)
              · replace c23 : 9 < a4 := c23
                show jGo E l 104 229 229 _ 81 [.inr (.inr (.inl 0)), .inl a1, .inl a2, .inl a3, .inl a4, .inl a5] [] 229 jr0 h
                refine jGo_blk qX11_part_81 ?_
                refine st_cv (na := 1) (st := [.inl (-6), .inr (.inr (.inl 0))]) jo_0 rfl rfl rfl (c_X11_refused (-6) h (by omega)) rfl ?_
                rintro _ _ g25 ⟨rfl, ft24, t24, rfl, ht24, zt24⟩ kt24
                replace kt24 : -2147483648 ≤ t24 ∧ t24 ≤ 2147483647 := kt24
                replace ht24 : -7 ≤ t24 ∧ t24 ≤ -1 := ht24
                have fg25 : jfr w_X11_part h g25 := jfr_tr f0 ft24 (fun i k q => by unfold w_X11_refused at q; unfold w_X11_part; omega)
                replace zt24 : t24 = (-6 : Int) := zt24
                have hs26 : ∀ i k : Int, 92 ≤ i → i ≤ 92 → g25 i k = h i k := fun i k p1 p2 => (ft24 i k (by unfold w_X11_refused; omega))
                exact st_r0 (ls := []) ⟨rfl, rfl, fg25, t24, rfl, (by omega), (by unfold P_X11_part; by_cases zz : t24 = -4 <;> first | exact Or.inl ⟨by omega, hs26⟩ | exact Or.inr (Or.inl ⟨by omega, hs26⟩) | exact Or.inr (Or.inr (Or.inl ⟨by omega, hs26⟩)))⟩
              · replace c23 : a4 ≤ 9 := by first | exact c23 | exact Int.not_le.mp c23 | exact Int.not_lt.mp c23 | exact Decidable.not_not.mp c23
                refine And.intro (fun c27 => ?_) (fun c27 => ?_)
                · replace c27 : 500 < a5 := c27
                  show jGo E l 104 229 229 _ 81 [.inr (.inr (.inl 0)), .inl a1, .inl a2, .inl a3, .inl a4, .inl a5] [] 229 jr0 h
                  refine jGo_blk qX11_part_81 ?_
                  refine st_cv (na := 1) (st := [.inl (-6), .inr (.inr (.inl 0))]) jo_0 rfl rfl rfl (c_X11_refused (-6) h (by omega)) rfl ?_
                  rintro _ _ g29 ⟨rfl, ft28, t28, rfl, ht28, zt28⟩ kt28
                  replace kt28 : -2147483648 ≤ t28 ∧ t28 ≤ 2147483647 := kt28
                  replace ht28 : -7 ≤ t28 ∧ t28 ≤ -1 := ht28
                  have fg29 : jfr w_X11_part h g29 := jfr_tr f0 ft28 (fun i k q => by unfold w_X11_refused at q; unfold w_X11_part; omega)
                  replace zt28 : t28 = (-6 : Int) := zt28
                  have hs30 : ∀ i k : Int, 92 ≤ i → i ≤ 92 → g29 i k = h i k := fun i k p1 p2 => (ft28 i k (by unfold w_X11_refused; omega))
                  exact st_r0 (ls := []) ⟨rfl, rfl, fg29, t28, rfl, (by omega), (by unfold P_X11_part; by_cases zz : t28 = -4 <;> first | exact Or.inl ⟨by omega, hs30⟩ | exact Or.inr (Or.inl ⟨by omega, hs30⟩) | exact Or.inr (Or.inr (Or.inl ⟨by omega, hs30⟩)))⟩
                · replace c27 : a5 ≤ 500 := by first | exact c27 | exact Int.not_le.mp c27 | exact Int.not_lt.mp c27 | exact Decidable.not_not.mp c27
                  refine st_gr jo_0 jr_0_7 ?_
                  refine st_gr jo_91 jr_91_0 ?_
                  refine st_ai jo_92 (show 0 ≤ a1 by omega) (show a1 < ((3 : Nat) : Int) by omega) (fun v31 ev31 b32 => ?_)
                  replace ev31 : v31 = h 92 a1 := ev31
                  replace b32 := (jba_92 a1 _).1 b32
                  refine And.intro (fun c33 => ?_) (fun c33 => ?_)
                  · replace c33 : v31 < 6 := c33
                    show jGo E l 104 229 229 _ 88 [.inr (.inr (.inl 0)), .inl a1, .inl a2, .inl a3, .inl a4, .inl a5] [] 229 jr0 h
                    refine jGo_blk qX11_part_88 ?_
                    refine st_gr jo_0 jr_0_7 ?_
                    refine st_cv (na := 5) (st := [.inl a5, .inl a4, .inl a3, .inl a2, .inl a1, .inr (.inr (.inl 91))]) jo_91 rfl rfl rfl (c_X8_add a1 a2 a3 a4 a5 h (by omega) (by omega) (by omega) (by omega) (by omega) (by omega)) rfl ?_
                    rintro _ _ g35 ⟨rfl, ft34, t34, rfl, ht34, zt34⟩ kt34
                    replace kt34 : -2147483648 ≤ t34 ∧ t34 ≤ 2147483647 := kt34
                    replace ht34 : 0 ≤ t34 ∧ t34 ≤ 5 := ht34
                    have fg35 : jfr w_X11_part h g35 := jfr_tr f0 ft34 (fun i k q => by unfold w_X8_add at q; unfold w_X11_part; omega)
                    replace zt34 : t34 = h 92 a1 ∧ g35 92 a1 = h 92 a1 + 1 ∧ ∀ i k : Int, 92 ≤ i → i ≤ 92 → ¬ (i = 92 ∧ k = a1) → g35 i k = h i k := zt34
                    exact st_r0 (ls := []) ⟨rfl, rfl, fg35, t34, rfl, (by omega), (by unfold P_X11_part; exact Or.inr (Or.inr (Or.inr ⟨by omega, zt34.2.1, zt34.2.2⟩)))⟩
                  · replace c33 : 6 ≤ v31 := by first | exact c33 | exact Int.not_le.mp c33 | exact Int.not_lt.mp c33 | exact Decidable.not_not.mp c33
                    show jGo E l 104 229 229 _ 81 [.inr (.inr (.inl 0)), .inl a1, .inl a2, .inl a3, .inl a4, .inl a5] [] 229 jr0 h
                    refine jGo_blk qX11_part_81 ?_
                    refine st_cv (na := 1) (st := [.inl (-6), .inr (.inr (.inl 0))]) jo_0 rfl rfl rfl (c_X11_refused (-6) h (by omega)) rfl ?_
                    rintro _ _ g37 ⟨rfl, ft36, t36, rfl, ht36, zt36⟩ kt36
                    replace kt36 : -2147483648 ≤ t36 ∧ t36 ≤ 2147483647 := kt36
                    replace ht36 : -7 ≤ t36 ∧ t36 ≤ -1 := ht36
                    have fg37 : jfr w_X11_part h g37 := jfr_tr f0 ft36 (fun i k q => by unfold w_X11_refused at q; unfold w_X11_part; omega)
                    replace zt36 : t36 = (-6 : Int) := zt36
                    have hs38 : ∀ i k : Int, 92 ≤ i → i ≤ 92 → g37 i k = h i k := fun i k p1 p2 => (ft36 i k (by unfold w_X11_refused; omega))
                    exact st_r0 (ls := []) ⟨rfl, rfl, fg37, t36, rfl, (by omega), (by unfold P_X11_part; by_cases zz : t36 = -4 <;> first | exact Or.inl ⟨by omega, hs38⟩ | exact Or.inr (Or.inl ⟨by omega, hs38⟩) | exact Or.inr (Or.inr (Or.inl ⟨by omega, hs38⟩)))⟩
          · replace c18 : a5 < 1 := by first | exact c18 | exact Int.not_le.mp c18 | exact Int.not_lt.mp c18 | exact Decidable.not_not.mp c18
            show jGo E l 104 229 229 _ 39 [.inr (.inr (.inl 0)), .inl a1, .inl a2, .inl a3, .inl a4, .inl a5] [] 229 jr0 h
            refine jGo_blk qX11_part_39 ?_
            refine st_cv (na := 1) (st := [.inl (-4), .inr (.inr (.inl 0))]) jo_0 rfl rfl rfl (c_X11_refused (-4) h (by omega)) rfl ?_
            rintro _ _ g40 ⟨rfl, ft39, t39, rfl, ht39, zt39⟩ kt39
            replace kt39 : -2147483648 ≤ t39 ∧ t39 ≤ 2147483647 := kt39
            replace ht39 : -7 ≤ t39 ∧ t39 ≤ -1 := ht39
            have fg40 : jfr w_X11_part h g40 := jfr_tr f0 ft39 (fun i k q => by unfold w_X11_refused at q; unfold w_X11_part; omega)
            replace zt39 : t39 = (-4 : Int) := zt39
            have hs41 : ∀ i k : Int, 92 ≤ i → i ≤ 92 → g40 i k = h i k := fun i k p1 p2 => (ft39 i k (by unfold w_X11_refused; omega))
            exact st_r0 (ls := []) ⟨rfl, rfl, fg40, t39, rfl, (by omega), (by unfold P_X11_part; by_cases zz : t39 = -4 <;> first | exact Or.inl ⟨by omega, hs41⟩ | exact Or.inr (Or.inl ⟨by omega, hs41⟩) | exact Or.inr (Or.inr (Or.inl ⟨by omega, hs41⟩)))⟩
    · replace c9 : t7 = 0 := by first | exact c9 | exact Int.not_le.mp c9 | exact Int.not_lt.mp c9 | exact Decidable.not_not.mp c9
      show jGo E l 104 229 229 _ 16 [.inr (.inr (.inl 0)), .inl a1, .inl a2, .inl a3, .inl a4, .inl a5] [] 229 jr0 h
      refine jGo_blk qX11_part_16 ?_
      refine st_cv (na := 1) (st := [.inl (-1), .inr (.inr (.inl 0))]) jo_0 rfl rfl rfl (c_X11_refused (-1) h (by omega)) rfl ?_
      rintro _ _ g43 ⟨rfl, ft42, t42, rfl, ht42, zt42⟩ kt42
      replace kt42 : -2147483648 ≤ t42 ∧ t42 ≤ 2147483647 := kt42
      replace ht42 : -7 ≤ t42 ∧ t42 ≤ -1 := ht42
      have fg43 : jfr w_X11_part h g43 := jfr_tr f0 ft42 (fun i k q => by unfold w_X11_refused at q; unfold w_X11_part; omega)
      replace zt42 : t42 = (-1 : Int) := zt42
      have hs44 : ∀ i k : Int, 92 ≤ i → i ≤ 92 → g43 i k = h i k := fun i k p1 p2 => (ft42 i k (by unfold w_X11_refused; omega))
      exact st_r0 (ls := []) ⟨rfl, rfl, fg43, t42, rfl, (by omega), (by unfold P_X11_part; by_cases zz : t42 = -4 <;> first | exact Or.inl ⟨by omega, hs44⟩ | exact Or.inr (Or.inl ⟨by omega, hs44⟩) | exact Or.inr (Or.inr (Or.inl ⟨by omega, hs44⟩)))⟩

def w_X12_part (i k : Int) : Prop := (210 ≤ i ∧ i ≤ 214) ∨ (i = 219)
def k_X12_part (a1 : Int) (a2 : Int) (a3 : Int) (a4 : Int) (a5 : Int) (h : JH) (v : Option JV) (r' g : JH) : Prop := r' = jr0 ∧ jfr w_X12_part h g ∧ ∃ x : Int, v = some (.inl x) ∧ (-7 ≤ x ∧ x ≤ 5) ∧ (P_X12_part a1 a2 a3 a4 a5 x h g)
set_option maxHeartbeats 4000000 in
theorem c_X12_part {E : JE} {l : Launch} (a1 : Int) (a2 : Int) (a3 : Int) (a4 : Int) (a5 : Int) (h : JH) : jMt E l 105 [.inr (.inr (.inl 176)), .inl a1, .inl a2, .inl a3, .inl a4, .inl a5] 229 jr0 h (k_X12_part a1 a2 a3 a4 a5 h) := by
  refine jMt0 (nL := 7) (ls := [.inr (.inr (.inl 176)), .inl a1, .inl a2, .inl a3, .inl a4, .inl a5, .inr (.inr (.inr ()))]) (by decide +kernel) (by decide +kernel) (by decide +kernel) rfl rfl ?_
  have f0 : jfr w_X12_part h h := jfr_rf _ _
  refine jGo_blk qX12_part_0 ?_
  refine st_cs (na := 3) (st := [.inl 2, .inl 0, .inl a1]) rfl rfl rfl (c_X12_in a1 0 2 h) rfl ?_
  rintro _ _ _ ⟨rfl, rfl, t1, rfl, ht1, zt1⟩ kt1
  replace kt1 : -2147483648 ≤ t1 ∧ t1 ≤ 2147483647 := kt1
  replace ht1 : 0 ≤ t1 ∧ t1 ≤ 1 := ht1
  replace zt1 : (t1 = 1 ∧ (0 : Int) ≤ a1 ∧ a1 ≤ (2 : Int)) ∨ (t1 = 0 ∧ ¬ ((0 : Int) ≤ a1 ∧ a1 ≤ (2 : Int))) := zt1
  refine And.intro (fun c3 => ?_) (fun c3 => ?_)
  · replace c3 : t1 = 0 := c3
    show jGo E l 105 229 229 _ 18 [.inr (.inr (.inl 176)), .inl a1, .inl a2, .inl a3, .inl a4, .inl a5, .inr (.inr (.inr ()))] [] 229 jr0 h
    refine jGo_blk qX12_part_18 ?_
    refine st_cv (na := 1) (st := [.inl (-1), .inr (.inr (.inl 176))]) jo_176 rfl rfl rfl (c_X12_refuse (-1) h (by omega)) rfl ?_
    rintro _ _ g5 ⟨rfl, ft4, t4, rfl, ht4, zt4⟩ kt4
    replace kt4 : -2147483648 ≤ t4 ∧ t4 ≤ 2147483647 := kt4
    replace ht4 : -7 ≤ t4 ∧ t4 ≤ -1 := ht4
    have fg5 : jfr w_X12_part h g5 := jfr_tr f0 ft4 (fun i k q => by unfold w_X12_refuse at q; unfold w_X12_part; omega)
    replace zt4 : t4 = (-1 : Int) := zt4
    have hs6 : ∀ i k : Int, 210 ≤ i → i ≤ 210 → g5 i k = h i k := fun i k p1 p2 => (ft4 i k (by unfold w_X12_refuse; omega))
    exact st_r0 (ls := []) ⟨rfl, rfl, fg5, t4, rfl, (by omega), (by unfold P_X12_part; by_cases zz : t4 = -4 <;> first | exact Or.inl ⟨by omega, hs6⟩ | exact Or.inr (Or.inl ⟨by omega, hs6⟩) | exact Or.inr (Or.inr (Or.inl ⟨by omega, hs6⟩)))⟩
  · replace c3 : ¬ t1 = 0 := by first | exact c3 | exact Int.not_le.mp c3 | exact Int.not_lt.mp c3 | exact Decidable.not_not.mp c3
    refine st_cs (na := 3) (st := [.inl 2, .inl 0, .inl a2]) rfl rfl rfl (c_X12_in a2 0 2 h) rfl ?_
    rintro _ _ _ ⟨rfl, rfl, t7, rfl, ht7, zt7⟩ kt7
    replace kt7 : -2147483648 ≤ t7 ∧ t7 ≤ 2147483647 := kt7
    replace ht7 : 0 ≤ t7 ∧ t7 ≤ 1 := ht7
    replace zt7 : (t7 = 1 ∧ (0 : Int) ≤ a2 ∧ a2 ≤ (2 : Int)) ∨ (t7 = 0 ∧ ¬ ((0 : Int) ≤ a2 ∧ a2 ≤ (2 : Int))) := zt7
    refine And.intro (fun c9 => ?_) (fun c9 => ?_)
    · replace c9 : ¬ t7 = 0 := c9
      show jGo E l 105 229 229 _ 24 [.inr (.inr (.inl 176)), .inl a1, .inl a2, .inl a3, .inl a4, .inl a5, .inr (.inr (.inr ()))] [] 229 jr0 h
      refine jGo_blk qX12_part_24 ?_
      refine And.intro (fun c10 => ?_) (fun c10 => ?_)
      · replace c10 : a3 < (-9) := c10
        show jGo E l 105 229 229 _ 41 [.inr (.inr (.inl 176)), .inl a1, .inl a2, .inl a3, .inl a4, .inl a5, .inr (.inr (.inr ()))] [] 229 jr0 h
        refine jGo_blk qX12_part_41 ?_
        refine st_cv (na := 1) (st := [.inl (-4), .inr (.inr (.inl 176))]) jo_176 rfl rfl rfl (c_X12_refuse (-4) h (by omega)) rfl ?_
        rintro _ _ g12 ⟨rfl, ft11, t11, rfl, ht11, zt11⟩ kt11
        replace kt11 : -2147483648 ≤ t11 ∧ t11 ≤ 2147483647 := kt11
        replace ht11 : -7 ≤ t11 ∧ t11 ≤ -1 := ht11
        have fg12 : jfr w_X12_part h g12 := jfr_tr f0 ft11 (fun i k q => by unfold w_X12_refuse at q; unfold w_X12_part; omega)
        replace zt11 : t11 = (-4 : Int) := zt11
        have hs13 : ∀ i k : Int, 210 ≤ i → i ≤ 210 → g12 i k = h i k := fun i k p1 p2 => (ft11 i k (by unfold w_X12_refuse; omega))
        exact st_r0 (ls := []) ⟨rfl, rfl, fg12, t11, rfl, (by omega), (by unfold P_X12_part; by_cases zz : t11 = -4 <;> first | exact Or.inl ⟨by omega, hs13⟩ | exact Or.inr (Or.inl ⟨by omega, hs13⟩) | exact Or.inr (Or.inr (Or.inl ⟨by omega, hs13⟩)))⟩
      · replace c10 : (-9) ≤ a3 := by first | exact c10 | exact Int.not_le.mp c10 | exact Int.not_lt.mp c10 | exact Decidable.not_not.mp c10
        refine And.intro (fun c14 => ?_) (fun c14 => ?_)
        · replace c14 : a4 < 0 := c14
          show jGo E l 105 229 229 _ 41 [.inr (.inr (.inl 176)), .inl a1, .inl a2, .inl a3, .inl a4, .inl a5, .inr (.inr (.inr ()))] [] 229 jr0 h
          refine jGo_blk qX12_part_41 ?_
          refine st_cv (na := 1) (st := [.inl (-4), .inr (.inr (.inl 176))]) jo_176 rfl rfl rfl (c_X12_refuse (-4) h (by omega)) rfl ?_
          rintro _ _ g16 ⟨rfl, ft15, t15, rfl, ht15, zt15⟩ kt15
          replace kt15 : -2147483648 ≤ t15 ∧ t15 ≤ 2147483647 := kt15
          replace ht15 : -7 ≤ t15 ∧ t15 ≤ -1 := ht15
          have fg16 : jfr w_X12_part h g16 := jfr_tr f0 ft15 (fun i k q => by unfold w_X12_refuse at q; unfold w_X12_part; omega)
          replace zt15 : t15 = (-4 : Int) := zt15
          have hs17 : ∀ i k : Int, 210 ≤ i → i ≤ 210 → g16 i k = h i k := fun i k p1 p2 => (ft15 i k (by unfold w_X12_refuse; omega))
          exact st_r0 (ls := []) ⟨rfl, rfl, fg16, t15, rfl, (by omega), (by unfold P_X12_part; by_cases zz : t15 = -4 <;> first | exact Or.inl ⟨by omega, hs17⟩ | exact Or.inr (Or.inl ⟨by omega, hs17⟩) | exact Or.inr (Or.inr (Or.inl ⟨by omega, hs17⟩)))⟩
        · replace c14 : 0 ≤ a4 := by first | exact c14 | exact Int.not_le.mp c14 | exact Int.not_lt.mp c14 | exact Decidable.not_not.mp c14
          refine And.intro (fun c18 => ?_) (fun c18 => ?_)
          · replace c18 : 1 ≤ a5 := c18
            show jGo E l 105 229 229 _ 48 [.inr (.inr (.inl 176)), .inl a1, .inl a2, .inl a3, .inl a4, .inl a5, .inr (.inr (.inr ()))] [] 229 jr0 h
            refine jGo_blk qX12_part_48 ?_
            refine And.intro (fun c19 => ?_) (fun c19 => ?_)
            · replace c19 : 9 < a3 := c19
              show jGo E l 105 229 229 _ 80 [.inr (.inr (.inl 176)), .inl a1, .inl a2, .inl a3, .inl a4, .inl a5, .inr (.inr (.inr ()))] [] 229 jr0 h
              refine jGo_blk qX12_part_80 ?_
              refine st_cv (na := 1) (st := [.inl (-6), .inr (.inr (.inl 176))]) jo_176 rfl rfl rfl (c_X12_refuse (-6) h (by omega)) rfl ?_
              rintro _ _ g21 ⟨rfl, ft20, t20, rfl, ht20, zt20⟩ kt20
              replace kt20 : -2147483648 ≤ t20 ∧ t20 ≤ 2147483647 := kt20
              replace ht20 : -7 ≤ t20 ∧ t20 ≤ -1 := ht20
              have fg21 : jfr w_X12_part h g21 := jfr_tr f0 ft20 (fun i k q => by unfold w_X12_refuse at q; unfold w_X12_part; omega)
              replace zt20 : t20 = (-6 : Int) := zt20
              have hs22 : ∀ i k : Int, 210 ≤ i → i ≤ 210 → g21 i k = h i k := fun i k p1 p2 => (ft20 i k (by unfold w_X12_refuse; omega))
              exact st_r0 (ls := []) ⟨rfl, rfl, fg21, t20, rfl, (by omega), (by unfold P_X12_part; by_cases zz : t20 = -4 <;> first | exact Or.inl ⟨by omega, hs22⟩ | exact Or.inr (Or.inl ⟨by omega, hs22⟩) | exact Or.inr (Or.inr (Or.inl ⟨by omega, hs22⟩)))⟩
            · replace c19 : a3 ≤ 9 := by first | exact c19 | exact Int.not_le.mp c19 | exact Int.not_lt.mp c19 | exact Decidable.not_not.mp c19
              refine And.intro (fun c23 => ?_) (fun c23 => ?_)
              · replace c23 : 9 < a4 := c23
                show jGo E l 105 229 229 _ 80 [.inr (.inr (.inl 176)), .inl a1, .inl a2, .inl a3, .inl a4, .inl a5, .inr (.inr (.inr ()))] [] 229 jr0 h
                refine jGo_blk qX12_part_80 ?_
                refine st_cv (na := 1) (st := [.inl (-6), .inr (.inr (.inl 176))]) jo_176 rfl rfl rfl (c_X12_refuse (-6) h (by omega)) rfl ?_
                rintro _ _ g25 ⟨rfl, ft24, t24, rfl, ht24, zt24⟩ kt24
                replace kt24 : -2147483648 ≤ t24 ∧ t24 ≤ 2147483647 := kt24
                replace ht24 : -7 ≤ t24 ∧ t24 ≤ -1 := ht24
                have fg25 : jfr w_X12_part h g25 := jfr_tr f0 ft24 (fun i k q => by unfold w_X12_refuse at q; unfold w_X12_part; omega)
                replace zt24 : t24 = (-6 : Int) := zt24
                have hs26 : ∀ i k : Int, 210 ≤ i → i ≤ 210 → g25 i k = h i k := fun i k p1 p2 => (ft24 i k (by unfold w_X12_refuse; omega))
                exact st_r0 (ls := []) ⟨rfl, rfl, fg25, t24, rfl, (by omega), (by unfold P_X12_part; by_cases zz : t24 = -4 <;> first | exact Or.inl ⟨by omega, hs26⟩ | exact Or.inr (Or.inl ⟨by omega, hs26⟩) | exact Or.inr (Or.inr (Or.inl ⟨by omega, hs26⟩)))⟩
              · replace c23 : a4 ≤ 9 := by first | exact c23 | exact Int.not_le.mp c23 | exact Int.not_lt.mp c23 | exact Decidable.not_not.mp c23
                refine And.intro (fun c27 => ?_) (fun c27 => ?_)
                · replace c27 : 500 < a5 := c27
                  show jGo E l 105 229 229 _ 80 [.inr (.inr (.inl 176)), .inl a1, .inl a2, .inl a3, .inl a4, .inl a5, .inr (.inr (.inr ()))] [] 229 jr0 h
                  refine jGo_blk qX12_part_80 ?_
                  refine st_cv (na := 1) (st := [.inl (-6), .inr (.inr (.inl 176))]) jo_176 rfl rfl rfl (c_X12_refuse (-6) h (by omega)) rfl ?_
                  rintro _ _ g29 ⟨rfl, ft28, t28, rfl, ht28, zt28⟩ kt28
                  replace kt28 : -2147483648 ≤ t28 ∧ t28 ≤ 2147483647 := kt28
                  replace ht28 : -7 ≤ t28 ∧ t28 ≤ -1 := ht28
                  have fg29 : jfr w_X12_part h g29 := jfr_tr f0 ft28 (fun i k q => by unfold w_X12_refuse at q; unfold w_X12_part; omega)
                  replace zt28 : t28 = (-6 : Int) := zt28
                  have hs30 : ∀ i k : Int, 210 ≤ i → i ≤ 210 → g29 i k = h i k := fun i k p1 p2 => (ft28 i k (by unfold w_X12_refuse; omega))
                  exact st_r0 (ls := []) ⟨rfl, rfl, fg29, t28, rfl, (by omega), (by unfold P_X12_part; by_cases zz : t28 = -4 <;> first | exact Or.inl ⟨by omega, hs30⟩ | exact Or.inr (Or.inl ⟨by omega, hs30⟩) | exact Or.inr (Or.inr (Or.inl ⟨by omega, hs30⟩)))⟩
                · replace c27 : a5 ≤ 500 := by first | exact c27 | exact Int.not_le.mp c27 | exact Int.not_lt.mp c27 | exact Decidable.not_not.mp c27
                  refine st_gr jo_176 jr_176_40 ?_
                  refine st_ai jo_210 (show 0 ≤ a1 by omega) (show a1 < ((3 : Nat) : Int) by omega) (fun v31 ev31 b32 => ?_)
                  replace ev31 : v31 = h 210 a1 := ev31
                  replace b32 := (jba_210 a1 _).1 b32
                  refine And.intro (fun c33 => ?_) (fun c33 => ?_)
                  · replace c33 : ¬ v31 = 6 := c33
                    show jGo E l 105 229 229 _ 87 [.inr (.inr (.inl 176)), .inl a1, .inl a2, .inl a3, .inl a4, .inl a5, .inr (.inr (.inr ()))] [] 229 jr0 h
                    refine jGo_blk qX12_part_87 ?_
                    have e34 : jw32 (6 * a1) = 6 * a1 := j32e (by omega) (by omega)
                    refine st_gr jo_176 jr_176_40 ?_
                    refine st_ai jo_210 (show 0 ≤ a1 by omega) (show a1 < ((3 : Nat) : Int) by omega) (fun v35 ev35 b36 => ?_)
                    replace ev35 : v35 = h 210 a1 := ev35
                    replace b36 := (jba_210 a1 _).1 b36
                    have e37 : jw32 ((jw32 (6 * a1)) + v35) = (jw32 (6 * a1)) + v35 := j32e (by omega) (by omega)
                    refine st_gr jo_176 jr_176_41 ?_
                    refine st_si jo_211 (show 0 ≤ jw32 ((jw32 (6 * a1)) + v35) by omega) (show jw32 ((jw32 (6 * a1)) + v35) < ((18 : Nat) : Int) by omega) (fun hx => (jba_211 _ _).2 (show 0 ≤ a2 ∧ a2 ≤ 2 by omega)) (fun g38 eg38 => ?_)
                    replace eg38 : g38 = jup h 211 (jw32 ((jw32 (6 * a1)) + v35)) a2 := eg38
                    have fg38 : jfr w_X12_part h g38 := jfr_up f0 eg38 (by unfold w_X12_part; omega)
                    have e39 : g38 211 (jw32 ((jw32 (6 * a1)) + v35)) = a2 := jup_s eg38
                    refine st_gr jo_176 jr_176_42 ?_
                    refine st_si jo_212 (show 0 ≤ jw32 ((jw32 (6 * a1)) + v35) by omega) (show jw32 ((jw32 (6 * a1)) + v35) < ((18 : Nat) : Int) by omega) (fun hx => (jba_212 _ _).2 (show -9 ≤ a3 ∧ a3 ≤ 9 by omega)) (fun g40 eg40 => ?_)
                    replace eg40 : g40 = jup g38 212 (jw32 ((jw32 (6 * a1)) + v35)) a3 := eg40
                    have fg40 : jfr w_X12_part h g40 := jfr_up fg38 eg40 (by unfold w_X12_part; omega)
                    have e41 : g40 212 (jw32 ((jw32 (6 * a1)) + v35)) = a3 := jup_s eg40
                    refine st_gr jo_176 jr_176_43 ?_
                    refine st_si jo_213 (show 0 ≤ jw32 ((jw32 (6 * a1)) + v35) by omega) (show jw32 ((jw32 (6 * a1)) + v35) < ((18 : Nat) : Int) by omega) (fun hx => (jba_213 _ _).2 (show 0 ≤ a4 ∧ a4 ≤ 9 by omega)) (fun g42 eg42 => ?_)
                    replace eg42 : g42 = jup g40 213 (jw32 ((jw32 (6 * a1)) + v35)) a4 := eg42
                    have fg42 : jfr w_X12_part h g42 := jfr_up fg40 eg42 (by unfold w_X12_part; omega)
                    have e43 : g42 213 (jw32 ((jw32 (6 * a1)) + v35)) = a4 := jup_s eg42
                    refine st_gr jo_176 jr_176_44 ?_
                    refine st_si jo_214 (show 0 ≤ jw32 ((jw32 (6 * a1)) + v35) by omega) (show jw32 ((jw32 (6 * a1)) + v35) < ((18 : Nat) : Int) by omega) (fun hx => (jba_214 _ _).2 (show 0 ≤ a5 ∧ a5 ≤ 500 by omega)) (fun g44 eg44 => ?_)
                    replace eg44 : g44 = jup g42 214 (jw32 ((jw32 (6 * a1)) + v35)) a5 := eg44
                    have fg44 : jfr w_X12_part h g44 := jfr_up fg42 eg44 (by unfold w_X12_part; omega)
                    have e45 : g44 214 (jw32 ((jw32 (6 * a1)) + v35)) = a5 := jup_s eg44
                    refine st_gr jo_176 jr_176_40 ?_
                    refine st_ai jo_210 (show 0 ≤ a1 by omega) (show a1 < ((3 : Nat) : Int) by omega) (fun v46 ev46 b47 => ?_)
                    replace ev46 : v46 = g44 210 a1 := ev46
                    replace b47 := (jba_210 a1 _).1 b47
                    have e48 : g44 210 a1 = g42 210 a1 := jup_o eg44 (by omega)
                    have e49 : g42 210 a1 = g40 210 a1 := jup_o eg42 (by omega)
                    have e50 : g40 210 a1 = g38 210 a1 := jup_o eg40 (by omega)
                    have e51 : g38 210 a1 = h 210 a1 := jup_o eg38 (by omega)
                    have e52 : jw32 (v46 + 1) = v46 + 1 := j32e (by omega) (by omega)
                    refine st_si jo_210 (show 0 ≤ a1 by omega) (show a1 < ((3 : Nat) : Int) by omega) (fun hx => (jba_210 _ _).2 (show 0 ≤ jw32 (v46 + 1) ∧ jw32 (v46 + 1) ≤ 6 by omega)) (fun g53 eg53 => ?_)
                    replace eg53 : g53 = jup g44 210 a1 (jw32 (v46 + 1)) := eg53
                    have fg53 : jfr w_X12_part h g53 := jfr_up fg44 eg53 (by unfold w_X12_part; omega)
                    have e54 : g53 210 a1 = jw32 (v46 + 1) := jup_s eg53
                    refine st_gr jo_176 jr_176_40 ?_
                    refine st_ai jo_210 (show 0 ≤ a1 by omega) (show a1 < ((3 : Nat) : Int) by omega) (fun v55 ev55 b56 => ?_)
                    replace ev55 : v55 = g53 210 a1 := ev55
                    replace b56 := (jba_210 a1 _).1 b56
                    have e57 : jw32 (v55 - 1) = v55 - 1 := j32e (by omega) (by omega)
                    have e58 : g44 210 a1 = h 210 a1 := ((jup_o eg44 (by omega)).trans ((jup_o eg42 (by omega)).trans ((jup_o eg40 (by omega)).trans (jup_o eg38 (by omega)))))
                    have hs59 : g53 210 a1 = h 210 a1 + 1 := by
                      exact (jup_s eg53).trans (show jw32 (v46 + 1) = h 210 a1 + 1 by omega)
                    have hs60 : ∀ i k : Int, 210 ≤ i → i ≤ 210 → ¬ (i = 210 ∧ k = a1) → g53 i k = h i k := fun i k p1 p2 p3 => ((jup_o eg53 (by omega)).trans ((jup_o eg44 (by omega)).trans ((jup_o eg42 (by omega)).trans ((jup_o eg40 (by omega)).trans (jup_o eg38 (by omega))))))
                    exact st_r0 (ls := []) ⟨rfl, rfl, fg53, jw32 (v55 - 1), rfl, (by omega), (by unfold P_X12_part; first | exact Or.inr (Or.inr (Or.inr ⟨by omega, ⟨hs59, hs60⟩⟩)))⟩
                  · replace c33 : v31 = 6 := by first | exact c33 | exact Int.not_le.mp c33 | exact Int.not_lt.mp c33 | exact Decidable.not_not.mp c33
                    show jGo E l 105 229 229 _ 80 [.inr (.inr (.inl 176)), .inl a1, .inl a2, .inl a3, .inl a4, .inl a5, .inr (.inr (.inr ()))] [] 229 jr0 h
                    refine jGo_blk qX12_part_80 ?_
                    refine st_cv (na := 1) (st := [.inl (-6), .inr (.inr (.inl 176))]) jo_176 rfl rfl rfl (c_X12_refuse (-6) h (by omega)) rfl ?_
                    rintro _ _ g62 ⟨rfl, ft61, t61, rfl, ht61, zt61⟩ kt61
                    replace kt61 : -2147483648 ≤ t61 ∧ t61 ≤ 2147483647 := kt61
                    replace ht61 : -7 ≤ t61 ∧ t61 ≤ -1 := ht61
                    have fg62 : jfr w_X12_part h g62 := jfr_tr f0 ft61 (fun i k q => by unfold w_X12_refuse at q; unfold w_X12_part; omega)
                    replace zt61 : t61 = (-6 : Int) := zt61
                    have hs63 : ∀ i k : Int, 210 ≤ i → i ≤ 210 → g62 i k = h i k := fun i k p1 p2 => (ft61 i k (by unfold w_X12_refuse; omega))
                    exact st_r0 (ls := []) ⟨rfl, rfl, fg62, t61, rfl, (by omega), (by unfold P_X12_part; by_cases zz : t61 = -4 <;> first | exact Or.inl ⟨by omega, hs63⟩ | exact Or.inr (Or.inl ⟨by omega, hs63⟩) | exact Or.inr (Or.inr (Or.inl ⟨by omega, hs63⟩)))⟩
          · replace c18 : a5 < 1 := by first | exact c18 | exact Int.not_le.mp c18 | exact Int.not_lt.mp c18 | exact Decidable.not_not.mp c18
            show jGo E l 105 229 229 _ 41 [.inr (.inr (.inl 176)), .inl a1, .inl a2, .inl a3, .inl a4, .inl a5, .inr (.inr (.inr ()))] [] 229 jr0 h
            refine jGo_blk qX12_part_41 ?_
            refine st_cv (na := 1) (st := [.inl (-4), .inr (.inr (.inl 176))]) jo_176 rfl rfl rfl (c_X12_refuse (-4) h (by omega)) rfl ?_
            rintro _ _ g65 ⟨rfl, ft64, t64, rfl, ht64, zt64⟩ kt64
            replace kt64 : -2147483648 ≤ t64 ∧ t64 ≤ 2147483647 := kt64
            replace ht64 : -7 ≤ t64 ∧ t64 ≤ -1 := ht64
            have fg65 : jfr w_X12_part h g65 := jfr_tr f0 ft64 (fun i k q => by unfold w_X12_refuse at q; unfold w_X12_part; omega)
            replace zt64 : t64 = (-4 : Int) := zt64
            have hs66 : ∀ i k : Int, 210 ≤ i → i ≤ 210 → g65 i k = h i k := fun i k p1 p2 => (ft64 i k (by unfold w_X12_refuse; omega))
            exact st_r0 (ls := []) ⟨rfl, rfl, fg65, t64, rfl, (by omega), (by unfold P_X12_part; by_cases zz : t64 = -4 <;> first | exact Or.inl ⟨by omega, hs66⟩ | exact Or.inr (Or.inl ⟨by omega, hs66⟩) | exact Or.inr (Or.inr (Or.inl ⟨by omega, hs66⟩)))⟩
    · replace c9 : t7 = 0 := by first | exact c9 | exact Int.not_le.mp c9 | exact Int.not_lt.mp c9 | exact Decidable.not_not.mp c9
      show jGo E l 105 229 229 _ 18 [.inr (.inr (.inl 176)), .inl a1, .inl a2, .inl a3, .inl a4, .inl a5, .inr (.inr (.inr ()))] [] 229 jr0 h
      refine jGo_blk qX12_part_18 ?_
      refine st_cv (na := 1) (st := [.inl (-1), .inr (.inr (.inl 176))]) jo_176 rfl rfl rfl (c_X12_refuse (-1) h (by omega)) rfl ?_
      rintro _ _ g68 ⟨rfl, ft67, t67, rfl, ht67, zt67⟩ kt67
      replace kt67 : -2147483648 ≤ t67 ∧ t67 ≤ 2147483647 := kt67
      replace ht67 : -7 ≤ t67 ∧ t67 ≤ -1 := ht67
      have fg68 : jfr w_X12_part h g68 := jfr_tr f0 ft67 (fun i k q => by unfold w_X12_refuse at q; unfold w_X12_part; omega)
      replace zt67 : t67 = (-1 : Int) := zt67
      have hs69 : ∀ i k : Int, 210 ≤ i → i ≤ 210 → g68 i k = h i k := fun i k p1 p2 => (ft67 i k (by unfold w_X12_refuse; omega))
      exact st_r0 (ls := []) ⟨rfl, rfl, fg68, t67, rfl, (by omega), (by unfold P_X12_part; by_cases zz : t67 = -4 <;> first | exact Or.inl ⟨by omega, hs69⟩ | exact Or.inr (Or.inl ⟨by omega, hs69⟩) | exact Or.inr (Or.inr (Or.inl ⟨by omega, hs69⟩)))⟩

def k_X6_lackingNumber (a0 : Int) (h : JH) (v : Option JV) (r' g : JH) : Prop := r' = jr0 ∧ h = g ∧ ∃ x : Int, v = some (.inr (.inl x)) ∧ (19456426971176 ≤ x ∧ x ≤ 19461061219176) ∧ (x = jlk a0)
set_option maxHeartbeats 4000000 in
theorem c_X6_lackingNumber {E : JE} {l : Launch} (a0 : Int) (h : JH) (p0 : 0 ≤ a0 ∧ a0 ≤ 5) : jMt E l 107 [.inl a0] 229 jr0 h (k_X6_lackingNumber a0 h) := by
  refine jMt0 (nL := 1) (ls := [.inl a0]) (by decide +kernel) (by decide +kernel) (by decide +kernel) rfl rfl ?_
  refine jGo_blk qX6_lackingNumber_0 ?_
  refine st_xl (by decide) jx_k6 (jx_l6 E) (show 0 ≤ a0 by omega) (show a0 < ((6 : Nat) : Int) by omega) (fun v1 ev1 => ?_)
  have bv1 : 1 ≤ v1 ∧ v1 ≤ 115856201 := by rw [ev1]; exact jx_w6 E a0 (by omega) (by omega)
  replace ev1 : v1 = jxv E (-6) a0 := ev1
  have e2 : jw64 (40 * v1) = 40 * v1 := j64e (by omega) (by omega)
  have e3 : jw64 (19456426971136 + (jw64 (40 * v1))) = 19456426971136 + (jw64 (40 * v1)) := j64e (by omega) (by omega)
  exact ⟨rfl, rfl, rfl, jw64 (19456426971136 + (jw64 (40 * v1))), rfl, (by omega), (by have q9 : jlk a0 = 19456426971136 + 40 * jxv E (-6) a0 := (by rw [jx_e6]; rfl); omega)⟩

def w_X6_fitting (i k : Int) : Prop := (i = 100)
def k_X6_fitting (a2 : Int) (a4 : Int) (h : JH) (v : Option JV) (r' g : JH) : Prop := r' = jr0 ∧ jfr w_X6_fitting h g ∧ ∃ x : Int, v = some (.inl x) ∧ (0 ≤ x ∧ x ≤ 63) ∧ (jCok x (h 92 a4) g)
set_option maxHeartbeats 4000000 in
theorem c_X6_fitting {E : JE} {l : Launch} (a2 : Int) (a4 : Int) (h : JH) (p2 : 0 ≤ a2 ∧ a2 ≤ 39) (p4 : 0 ≤ a4 ∧ a4 ≤ 2) (q0 : jGok h) : jMt E l 109 [.inr (.inr (.inl 97)), .inr (.inr (.inl 84)), .inl a2, .inr (.inr (.inl 91)), .inl a4] 229 jr0 h (k_X6_fitting a2 a4 h) := by
  refine jMt0 (nL := 9) (ls := [.inr (.inr (.inl 97)), .inr (.inr (.inl 84)), .inl a2, .inr (.inr (.inl 91)), .inl a4, .inr (.inr (.inr ())), .inr (.inr (.inr ())), .inr (.inr (.inr ())), .inr (.inr (.inr ()))]) (by decide +kernel) (by decide +kernel) (by decide +kernel) rfl rfl ?_
  have f0 : jfr w_X6_fitting h h := jfr_rf _ _
  refine jGo_bd (fun hbd => ?_)
  have hb0 := (jba_92 a4 _).1 (hbd 92 a4)
  have key : ∀ N : Nat, (∀ (x5 : Int) (x6 : Int) (x7 : JV) (x8 : JV) (g : JH), (0 ≤ x5 ∧ x5 ≤ 63 ∧ 0 ≤ x6 ∧ x6 ≤ 6) → (jCok x5 x6 g) → (x6 ≤ h 92 a4) → jfr w_X6_fitting h g → (6 - x6) < (N : Int) → jGo E l 109 229 229 (jRK (k_X6_fitting a2 a4 h)) 6 [.inr (.inr (.inl 97)), .inr (.inr (.inl 84)), .inl a2, .inr (.inr (.inl 91)), .inl a4, .inl x5, .inl x6, x7, x8] [] 229 jr0 g) := by
    intro N
    induction N with
    | zero => exact fun _ _ _ _ _ hi hx0 hx1 _ hN => absurd hN (by omega)
    | succ N ih =>
      intro x5 x6 x7 x8 g hi hx0 hx1 hf hN
      have hz0 : g 92 a4 = h 92 a4 := hf 92 a4 (by unfold w_X6_fitting; omega)
      have hz1 : g 87 a2 = h 87 a2 := hf 87 a2 (by unfold w_X6_fitting; omega)
      have hz2 := q0 a2 (by omega) (by omega)
      refine jGo_blk qX6_fitting_6 ?_
      refine st_gr jo_91 jr_91_0 ?_
      refine st_ai jo_92 (show 0 ≤ a4 by omega) (show a4 < ((3 : Nat) : Int) by omega) (fun v1 ev1 b2 => ?_)
      replace ev1 : v1 = g 92 a4 := ev1
      replace b2 := (jba_92 a4 _).1 b2
      refine And.intro (fun c3 => ?_) (fun c3 => ?_)
      · replace c3 : v1 ≤ x6 := c3
        show jGo E l 109 229 229 _ 137 [.inr (.inr (.inl 97)), .inr (.inr (.inl 84)), .inl a2, .inr (.inr (.inl 91)), .inl a4, .inl x5, .inl x6, x7, x8] [] 229 jr0 g
        refine jGo_blk qX6_fitting_137 ?_
        exact st_r0 (ls := []) ⟨rfl, rfl, hf, x5, rfl, (by omega), (by exact fun i h0 h1 hb => ⟨by have := (hx0 i h0 h1 hb).1; omega, (hx0 i h0 h1 hb).2⟩)⟩
      · replace c3 : x6 < v1 := by first | exact c3 | exact Int.not_le.mp c3 | exact Int.not_lt.mp c3 | exact Decidable.not_not.mp c3
        have e4 : jw32 (a4 * 6) = a4 * 6 := j32e (by omega) (by omega)
        have e5 : jw32 ((jw32 (a4 * 6)) + x6) = (jw32 (a4 * 6)) + x6 := j32e (by omega) (by omega)
        refine st_gr jo_84 jr_84_3 ?_
        refine st_ai jo_87 (show 0 ≤ a2 by omega) (show a2 < ((40 : Nat) : Int) by omega) (fun v6 ev6 b7 => ?_)
        replace ev6 : v6 = g 87 a2 := ev6
        replace b7 := (jba_87 a2 _).1 b7
        refine st_gr jo_91 jr_91_4 ?_
        refine st_ai jo_96 (show 0 ≤ jw32 ((jw32 (a4 * 6)) + x6) by omega) (show jw32 ((jw32 (a4 * 6)) + x6) < ((18 : Nat) : Int) by omega) (fun v8 ev8 b9 => ?_)
        replace ev8 : v8 = g 96 (jw32 ((jw32 (a4 * 6)) + x6)) := ev8
        replace b9 := (jba_96 (jw32 ((jw32 (a4 * 6)) + x6)) _).1 b9
        have e10 : jw32 (v6 - v8) = v6 - v8 := j32e (by omega) (by omega)
        refine st_gr jo_84 jr_84_1 ?_
        refine st_ai jo_85 (show 0 ≤ a2 by omega) (show a2 < ((40 : Nat) : Int) by omega) (fun v11 ev11 b12 => ?_)
        replace ev11 : v11 = g 85 a2 := ev11
        replace b12 := (jba_85 a2 _).1 b12
        refine st_gr jo_91 jr_91_1 ?_
        refine st_ai jo_93 (show 0 ≤ jw32 ((jw32 (a4 * 6)) + x6) by omega) (show jw32 ((jw32 (a4 * 6)) + x6) < ((18 : Nat) : Int) by omega) (fun v13 ev13 b14 => ?_)
        replace ev13 : v13 = g 93 (jw32 ((jw32 (a4 * 6)) + x6)) := ev13
        replace b14 := (jba_93 (jw32 ((jw32 (a4 * 6)) + x6)) _).1 b14
        refine And.intro (fun c15 => ?_) (fun c15 => ?_)
        · replace c15 : ¬ v11 = v13 := c15
          show jGo E l 109 229 229 _ 131 [.inr (.inr (.inl 97)), .inr (.inr (.inl 84)), .inl a2, .inr (.inr (.inl 91)), .inl a4, .inl x5, .inl x6, .inl (jw32 ((jw32 (a4 * 6)) + x6)), .inl (jw32 (v6 - v8))] [] 229 jr0 g
          refine jGo_blk qX6_fitting_131 ?_
          have e16 : jw32 (x6 + 1) = x6 + 1 := j32e (by omega) (by omega)
          show jGo E l 109 229 229 _ 6 [.inr (.inr (.inl 97)), .inr (.inr (.inl 84)), .inl a2, .inr (.inr (.inl 91)), .inl a4, .inl x5, .inl (jw32 (x6 + 1)), .inl (jw32 ((jw32 (a4 * 6)) + x6)), .inl (jw32 (v6 - v8))] [] 229 jr0 g
          exact ih x5 (jw32 (x6 + 1)) (.inl (jw32 ((jw32 (a4 * 6)) + x6))) (.inl (jw32 (v6 - v8))) g (by omega) (by exact fun i h0 h1 hb => ⟨by have := (hx0 i h0 h1 hb).1; omega, (hx0 i h0 h1 hb).2⟩) (by omega) hf (by omega)
        · replace c15 : v11 = v13 := by first | exact c15 | exact Int.not_le.mp c15 | exact Int.not_lt.mp c15 | exact Decidable.not_not.mp c15
          refine And.intro (fun c17 => ?_) (fun c17 => ?_)
          · replace c17 : jw32 (v6 - v8) < 0 := c17
            show jGo E l 109 229 229 _ 131 [.inr (.inr (.inl 97)), .inr (.inr (.inl 84)), .inl a2, .inr (.inr (.inl 91)), .inl a4, .inl x5, .inl x6, .inl (jw32 ((jw32 (a4 * 6)) + x6)), .inl (jw32 (v6 - v8))] [] 229 jr0 g
            refine jGo_blk qX6_fitting_131 ?_
            have e18 : jw32 (x6 + 1) = x6 + 1 := j32e (by omega) (by omega)
            show jGo E l 109 229 229 _ 6 [.inr (.inr (.inl 97)), .inr (.inr (.inl 84)), .inl a2, .inr (.inr (.inl 91)), .inl a4, .inl x5, .inl (jw32 (x6 + 1)), .inl (jw32 ((jw32 (a4 * 6)) + x6)), .inl (jw32 (v6 - v8))] [] 229 jr0 g
            exact ih x5 (jw32 (x6 + 1)) (.inl (jw32 ((jw32 (a4 * 6)) + x6))) (.inl (jw32 (v6 - v8))) g (by omega) (by exact fun i h0 h1 hb => ⟨by have := (hx0 i h0 h1 hb).1; omega, (hx0 i h0 h1 hb).2⟩) (by omega) hf (by omega)
          · replace c17 : 0 ≤ jw32 (v6 - v8) := by first | exact c17 | exact Int.not_le.mp c17 | exact Int.not_lt.mp c17 | exact Decidable.not_not.mp c17
            refine st_gr jo_84 jr_84_2 ?_
            refine st_ai jo_86 (show 0 ≤ a2 by omega) (show a2 < ((40 : Nat) : Int) by omega) (fun v19 ev19 b20 => ?_)
            replace ev19 : v19 = g 86 a2 := ev19
            replace b20 := (jba_86 a2 _).1 b20
            refine st_gr jo_91 jr_91_2 ?_
            refine st_ai jo_94 (show 0 ≤ jw32 ((jw32 (a4 * 6)) + x6) by omega) (show jw32 ((jw32 (a4 * 6)) + x6) < ((18 : Nat) : Int) by omega) (fun v21 ev21 b22 => ?_)
            replace ev21 : v21 = g 94 (jw32 ((jw32 (a4 * 6)) + x6)) := ev21
            replace b22 := (jba_94 (jw32 ((jw32 (a4 * 6)) + x6)) _).1 b22
            have e23 : jw32 (v19 - v21) = v19 - v21 := j32e (by omega) (by omega)
            refine st_m2 rfl (fun v24 ev24 => ?_)
            refine st_gr jo_91 jr_91_3 ?_
            refine st_ai jo_95 (show 0 ≤ jw32 ((jw32 (a4 * 6)) + x6) by omega) (show jw32 ((jw32 (a4 * 6)) + x6) < ((18 : Nat) : Int) by omega) (fun v25 ev25 b26 => ?_)
            replace ev25 : v25 = g 95 (jw32 ((jw32 (a4 * 6)) + x6)) := ev25
            replace b26 := (jba_95 (jw32 ((jw32 (a4 * 6)) + x6)) _).1 b26
            refine And.intro (fun c27 => ?_) (fun c27 => ?_)
            · replace c27 : v25 < v24 := c27
              show jGo E l 109 229 229 _ 131 [.inr (.inr (.inl 97)), .inr (.inr (.inl 84)), .inl a2, .inr (.inr (.inl 91)), .inl a4, .inl x5, .inl x6, .inl (jw32 ((jw32 (a4 * 6)) + x6)), .inl (jw32 (v6 - v8))] [] 229 jr0 g
              refine jGo_blk qX6_fitting_131 ?_
              have e28 : jw32 (x6 + 1) = x6 + 1 := j32e (by omega) (by omega)
              show jGo E l 109 229 229 _ 6 [.inr (.inr (.inl 97)), .inr (.inr (.inl 84)), .inl a2, .inr (.inr (.inl 91)), .inl a4, .inl x5, .inl (jw32 (x6 + 1)), .inl (jw32 ((jw32 (a4 * 6)) + x6)), .inl (jw32 (v6 - v8))] [] 229 jr0 g
              exact ih x5 (jw32 (x6 + 1)) (.inl (jw32 ((jw32 (a4 * 6)) + x6))) (.inl (jw32 (v6 - v8))) g (by omega) (by exact fun i h0 h1 hb => ⟨by have := (hx0 i h0 h1 hb).1; omega, (hx0 i h0 h1 hb).2⟩) (by omega) hf (by omega)
            · replace c27 : v24 ≤ v25 := by first | exact c27 | exact Int.not_le.mp c27 | exact Int.not_lt.mp c27 | exact Decidable.not_not.mp c27
              have e29 := jshl1_5 x6 (by omega) (by omega)
              have e30 := jor63 x5 (jshl 1 x6) (by omega) (by omega) (by omega) (by omega)
              refine st_gr jo_97 jr_97_4 ?_
              have e31 : jw64 ((jw32 (v6 - v8)) * 4750104241) = (jw32 (v6 - v8)) * 4750104241 := j64e (by omega) (by omega)
              refine st_xl (by decide) jx_k6 (jx_l6 E) (show 0 ≤ x6 by omega) (show x6 < ((6 : Nat) : Int) by omega) (fun v32 ev32 => ?_)
              have bv32 : 1 ≤ v32 ∧ v32 ≤ 115856201 := by rw [ev32]; exact jx_w6 E x6 (by omega) (by omega)
              replace ev32 : v32 = jxv E (-6) x6 := ev32
              have e33 := jmul_b (a := a2) (b := v32) (A := 39) (B := 115856201) (by omega) (by omega) (by omega) (by omega)
              have e34 : jw64 (a2 * v32) = a2 * v32 := j64e (by omega) (by omega)
              have e35 : jw64 ((jw64 ((jw32 (v6 - v8)) * 4750104241)) + (jw64 (a2 * v32))) = (jw64 ((jw32 (v6 - v8)) * 4750104241)) + (jw64 (a2 * v32)) := j64e (by omega) (by omega)
              refine st_cs (na := 1) (st := [.inl x6, .inr (.inl (jw64 ((jw64 ((jw32 (v6 - v8)) * 4750104241)) + (jw64 (a2 * v32))))), .inl x6, .inr (.inr (.inl 100))]) rfl rfl rfl (c_X6_lackingNumber x6 g (by omega)) rfl ?_
              rintro _ _ _ ⟨rfl, rfl, t36, rfl, ht36, zt36⟩ kt36
              replace kt36 : -9223372036854775808 ≤ t36 ∧ t36 ≤ 9223372036854775807 := kt36
              replace ht36 : 19456426971176 ≤ t36 ∧ t36 ≤ 19461061219176 := ht36
              replace zt36 : t36 = jlk x6 := zt36
              have e38 : jw64 ((jw64 ((jw64 ((jw32 (v6 - v8)) * 4750104241)) + (jw64 (a2 * v32)))) - t36) = (jw64 ((jw64 ((jw32 (v6 - v8)) * 4750104241)) + (jw64 (a2 * v32)))) - t36 := j64e (by omega) (by omega)
              refine st_sl jo_100 (show 0 ≤ x6 by omega) (show x6 < ((6 : Nat) : Int) by omega) (fun hx => (jba_100 _ _).2 hx) (fun g39 eg39 => ?_)
              replace eg39 : g39 = jup g 100 x6 (jw64 ((jw64 ((jw64 ((jw32 (v6 - v8)) * 4750104241)) + (jw64 (a2 * v32)))) - t36)) := eg39
              have fg39 : jfr w_X6_fitting h g39 := jfr_up hf eg39 (by unfold w_X6_fitting; omega)
              show jGo E l 109 229 229 _ 131 [.inr (.inr (.inl 97)), .inr (.inr (.inl 84)), .inl a2, .inr (.inr (.inl 91)), .inl a4, .inl (jor x5 (jshl 1 x6)), .inl x6, .inl (jw32 ((jw32 (a4 * 6)) + x6)), .inl (jw32 (v6 - v8))] [] 229 jr0 g39
              refine jGo_blk qX6_fitting_131 ?_
              have e40 : jw32 (x6 + 1) = x6 + 1 := j32e (by omega) (by omega)
              show jGo E l 109 229 229 _ 6 [.inr (.inr (.inl 97)), .inr (.inr (.inl 84)), .inl a2, .inr (.inr (.inl 91)), .inl a4, .inl (jor x5 (jshl 1 x6)), .inl (jw32 (x6 + 1)), .inl (jw32 ((jw32 (a4 * 6)) + x6)), .inl (jw32 (v6 - v8))] [] 229 jr0 g39
              have hc41 : jCok (jor x5 (jshl 1 x6)) (jw32 (x6 + 1)) g39 := by
                intro i h0 h1 hb
                rcases jm_or x5 x6 i (by omega) (by omega) (by omega) (by omega) h0 h1 hb with q | q
                · have q2 := hx0 i h0 h1 q
                  rw [jup_o eg39 (by omega)]
                  exact ⟨by omega, q2.2⟩
                · subst q
                  rw [jup_s eg39]
                  have hk := jlk_b x6 h0 h1
                  exact ⟨by omega, by omega, by omega⟩
              exact ih (jor x5 (jshl 1 x6)) (jw32 (x6 + 1)) (.inl (jw32 ((jw32 (a4 * 6)) + x6))) (.inl (jw32 (v6 - v8))) g39 (by omega) (by exact hc41) (by omega) fg39 (by omega)
  refine jGo_blk qX6_fitting_0 ?_
  show jGo E l 109 229 229 _ 6 [.inr (.inr (.inl 97)), .inr (.inr (.inl 84)), .inl a2, .inr (.inr (.inl 91)), .inl a4, .inl 0, .inl 0, .inr (.inr (.inr ())), .inr (.inr (.inr ()))] [] 229 jr0 h
  exact (key 1000000000000) 0 0 (.inr (.inr (.inr ()))) (.inr (.inr (.inr ()))) h (by omega) (by exact fun i _ _ hb => absurd hb (by unfold jbt; simp)) (by omega) f0 (by omega)
