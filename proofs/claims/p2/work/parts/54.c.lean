def w_X8_add (i k : Int) : Prop := (92 ≤ i ∧ i ≤ 96)
def k_X8_add (a1 : Int) (a2 : Int) (a3 : Int) (a4 : Int) (a5 : Int) (h : JH) (v : Option JV) (r' g : JH) : Prop := r' = jr0 ∧ jfr w_X8_add h g ∧ ∃ x : Int, v = some (.inl x) ∧ (0 ≤ x ∧ x ≤ 5) ∧ (True)
set_option maxHeartbeats 4000000 in
theorem c_X8_add {E : JE} {l : Launch} (a1 : Int) (a2 : Int) (a3 : Int) (a4 : Int) (a5 : Int) (h : JH) (p1 : 0 ≤ a1 ∧ a1 ≤ 2) (p2 : 0 ≤ a2 ∧ a2 ≤ 2) (p3 : -9 ≤ a3 ∧ a3 ≤ 9) (p4 : 0 ≤ a4 ∧ a4 ≤ 9) (p5 : 1 ≤ a5 ∧ a5 ≤ 500) (q0 : h 92 a1 ≤ 5) : jMt E l 103 [.inr (.inr (.inl 91)), .inl a1, .inl a2, .inl a3, .inl a4, .inl a5] 229 jr0 h (k_X8_add a1 a2 a3 a4 a5 h) := by
  refine jMt0 (nL := 7) (ls := [.inr (.inr (.inl 91)), .inl a1, .inl a2, .inl a3, .inl a4, .inl a5, .inr (.inr (.inr ()))]) (by decide +kernel) (by decide +kernel) (by decide +kernel) rfl rfl ?_
  have f0 : jfr w_X8_add h h := jfr_rf _ _
  refine jGo_blk qX8_add_0 ?_
  have e1 : jw32 (a1 * 6) = a1 * 6 := j32e (by omega) (by omega)
  refine st_gr jo_91 jr_91_0 ?_
  refine st_ai jo_92 (show 0 ≤ a1 by omega) (show a1 < ((3 : Nat) : Int) by omega) (fun v2 ev2 b3 => ?_)
  replace ev2 : v2 = h 92 a1 := ev2
  replace b3 := (jba_92 a1 _).1 b3
  have e4 : jw32 ((jw32 (a1 * 6)) + v2) = (jw32 (a1 * 6)) + v2 := j32e (by omega) (by omega)
  refine st_gr jo_91 jr_91_1 ?_
  refine st_si jo_93 (show 0 ≤ jw32 ((jw32 (a1 * 6)) + v2) by omega) (show jw32 ((jw32 (a1 * 6)) + v2) < ((18 : Nat) : Int) by omega) (fun hx => (jba_93 _ _).2 (show 0 ≤ a2 ∧ a2 ≤ 2 by omega)) (fun g5 eg5 => ?_)
  replace eg5 : g5 = jup h 93 (jw32 ((jw32 (a1 * 6)) + v2)) a2 := eg5
  have fg5 : jfr w_X8_add h g5 := jfr_up f0 eg5 (by unfold w_X8_add; omega)
  have e6 : g5 93 (jw32 ((jw32 (a1 * 6)) + v2)) = a2 := jup_s eg5
  refine st_gr jo_91 jr_91_2 ?_
  refine st_si jo_94 (show 0 ≤ jw32 ((jw32 (a1 * 6)) + v2) by omega) (show jw32 ((jw32 (a1 * 6)) + v2) < ((18 : Nat) : Int) by omega) (fun hx => (jba_94 _ _).2 (show -9 ≤ a3 ∧ a3 ≤ 9 by omega)) (fun g7 eg7 => ?_)
  replace eg7 : g7 = jup g5 94 (jw32 ((jw32 (a1 * 6)) + v2)) a3 := eg7
  have fg7 : jfr w_X8_add h g7 := jfr_up fg5 eg7 (by unfold w_X8_add; omega)
  have e8 : g7 94 (jw32 ((jw32 (a1 * 6)) + v2)) = a3 := jup_s eg7
  refine st_gr jo_91 jr_91_3 ?_
  refine st_si jo_95 (show 0 ≤ jw32 ((jw32 (a1 * 6)) + v2) by omega) (show jw32 ((jw32 (a1 * 6)) + v2) < ((18 : Nat) : Int) by omega) (fun hx => (jba_95 _ _).2 (show 0 ≤ a4 ∧ a4 ≤ 9 by omega)) (fun g9 eg9 => ?_)
  replace eg9 : g9 = jup g7 95 (jw32 ((jw32 (a1 * 6)) + v2)) a4 := eg9
  have fg9 : jfr w_X8_add h g9 := jfr_up fg7 eg9 (by unfold w_X8_add; omega)
  have e10 : g9 95 (jw32 ((jw32 (a1 * 6)) + v2)) = a4 := jup_s eg9
  refine st_gr jo_91 jr_91_4 ?_
  refine st_si jo_96 (show 0 ≤ jw32 ((jw32 (a1 * 6)) + v2) by omega) (show jw32 ((jw32 (a1 * 6)) + v2) < ((18 : Nat) : Int) by omega) (fun hx => (jba_96 _ _).2 (show 0 ≤ a5 ∧ a5 ≤ 500 by omega)) (fun g11 eg11 => ?_)
  replace eg11 : g11 = jup g9 96 (jw32 ((jw32 (a1 * 6)) + v2)) a5 := eg11
  have fg11 : jfr w_X8_add h g11 := jfr_up fg9 eg11 (by unfold w_X8_add; omega)
  have e12 : g11 96 (jw32 ((jw32 (a1 * 6)) + v2)) = a5 := jup_s eg11
  refine st_gr jo_91 jr_91_0 ?_
  refine st_ai jo_92 (show 0 ≤ a1 by omega) (show a1 < ((3 : Nat) : Int) by omega) (fun v13 ev13 b14 => ?_)
  replace ev13 : v13 = g11 92 a1 := ev13
  replace b14 := (jba_92 a1 _).1 b14
  have e15 : g11 92 a1 = g9 92 a1 := jup_o eg11 (by omega)
  have e16 : g9 92 a1 = g7 92 a1 := jup_o eg9 (by omega)
  have e17 : g7 92 a1 = g5 92 a1 := jup_o eg7 (by omega)
  have e18 : g5 92 a1 = h 92 a1 := jup_o eg5 (by omega)
  have e19 : jw32 (v13 + 1) = v13 + 1 := j32e (by omega) (by omega)
  refine st_si jo_92 (show 0 ≤ a1 by omega) (show a1 < ((3 : Nat) : Int) by omega) (fun hx => (jba_92 _ _).2 (show 0 ≤ jw32 (v13 + 1) ∧ jw32 (v13 + 1) ≤ 6 by omega)) (fun g20 eg20 => ?_)
  replace eg20 : g20 = jup g11 92 a1 (jw32 (v13 + 1)) := eg20
  have fg20 : jfr w_X8_add h g20 := jfr_up fg11 eg20 (by unfold w_X8_add; omega)
  have e21 : g20 92 a1 = jw32 (v13 + 1) := jup_s eg20
  refine st_gr jo_91 jr_91_0 ?_
  refine st_ai jo_92 (show 0 ≤ a1 by omega) (show a1 < ((3 : Nat) : Int) by omega) (fun v22 ev22 b23 => ?_)
  replace ev22 : v22 = g20 92 a1 := ev22
  replace b23 := (jba_92 a1 _).1 b23
  have e24 : jw32 (v22 - 1) = v22 - 1 := j32e (by omega) (by omega)
  exact st_r0 (ls := []) ⟨rfl, rfl, fg20, jw32 (v22 - 1), rfl, (by omega), trivial⟩

def w_X11_part (i k : Int) : Prop := (i = 1) ∨ (92 ≤ i ∧ i ≤ 96)
def k_X11_part (a1 : Int) (a2 : Int) (a3 : Int) (a4 : Int) (a5 : Int) (h : JH) (v : Option JV) (r' g : JH) : Prop := r' = jr0 ∧ jfr w_X11_part h g ∧ ∃ x : Int, v = some (.inl x) ∧ (-7 ≤ x ∧ x ≤ 5) ∧ (True)
set_option maxHeartbeats 4000000 in
theorem c_X11_part {E : JE} {l : Launch} (a1 : Int) (a2 : Int) (a3 : Int) (a4 : Int) (a5 : Int) (h : JH) : jMt E l 104 [.inr (.inr (.inl 0)), .inl a1, .inl a2, .inl a3, .inl a4, .inl a5] 229 jr0 h (k_X11_part a1 a2 a3 a4 a5 h) := by
  refine jMt0 (nL := 6) (ls := [.inr (.inr (.inl 0)), .inl a1, .inl a2, .inl a3, .inl a4, .inl a5]) (by decide +kernel) (by decide +kernel) (by decide +kernel) rfl rfl ?_
  have f0 : jfr w_X11_part h h := jfr_rf _ _
  refine jGo_blk qX11_part_0 ?_
  refine st_cs (na := 2) (st := [.inl 3, .inl a1]) rfl rfl rfl (c_X11_within a1 3 h) rfl ?_
  rintro _ _ _ ⟨rfl, rfl, t1, rfl, ht1, zt1⟩ kt1
  replace kt1 : -2147483648 ≤ t1 ∧ t1 ≤ 2147483647 := kt1
  replace ht1 : 0 ≤ t1 ∧ t1 ≤ 1 := ht1
  replace zt1 : (t1 = 1 ∧ 0 ≤ a1 ∧ a1 < (3 : Int)) ∨ (t1 = 0 ∧ ¬ (0 ≤ a1 ∧ a1 < (3 : Int))) := zt1
  refine And.intro (fun c3 => ?_) (fun c3 => ?_)
  · replace c3 : t1 = 0 := c3
    show jGo E l 104 229 229 _ 16 [.inr (.inr (.inl 0)), .inl a1, .inl a2, .inl a3, .inl a4, .inl a5] [] 229 jr0 h
    refine jGo_blk qX11_part_16 ?_
    refine st_cv (na := 1) (st := [.inl (-1), .inr (.inr (.inl 0))]) jo_0 rfl rfl rfl (c_X11_refused (-1) h (by omega)) rfl ?_
    rintro _ _ g5 ⟨rfl, ft4, t4, rfl, ht4, zt4⟩ kt4
    replace kt4 : -2147483648 ≤ t4 ∧ t4 ≤ 2147483647 := kt4
    replace ht4 : -7 ≤ t4 ∧ t4 ≤ -1 := ht4
    have fg5 : jfr w_X11_part h g5 := jfr_tr f0 ft4 (fun i k q => by unfold w_X11_refused at q; unfold w_X11_part; omega)
    replace zt4 : t4 = (-1 : Int) := zt4
    exact st_r0 (ls := []) ⟨rfl, rfl, fg5, t4, rfl, (by omega), trivial⟩
  · replace c3 : ¬ t1 = 0 := by first | exact c3 | exact Int.not_le.mp c3 | exact Int.not_lt.mp c3 | exact Decidable.not_not.mp c3
    refine st_cs (na := 2) (st := [.inl 3, .inl a2]) rfl rfl rfl (c_X11_within a2 3 h) rfl ?_
    rintro _ _ _ ⟨rfl, rfl, t6, rfl, ht6, zt6⟩ kt6
    replace kt6 : -2147483648 ≤ t6 ∧ t6 ≤ 2147483647 := kt6
    replace ht6 : 0 ≤ t6 ∧ t6 ≤ 1 := ht6
    replace zt6 : (t6 = 1 ∧ 0 ≤ a2 ∧ a2 < (3 : Int)) ∨ (t6 = 0 ∧ ¬ (0 ≤ a2 ∧ a2 < (3 : Int))) := zt6
    refine And.intro (fun c8 => ?_) (fun c8 => ?_)
    · replace c8 : ¬ t6 = 0 := c8
      show jGo E l 104 229 229 _ 22 [.inr (.inr (.inl 0)), .inl a1, .inl a2, .inl a3, .inl a4, .inl a5] [] 229 jr0 h
      refine jGo_blk qX11_part_22 ?_
      refine And.intro (fun c9 => ?_) (fun c9 => ?_)
      · replace c9 : a3 < (-9) := c9
        show jGo E l 104 229 229 _ 39 [.inr (.inr (.inl 0)), .inl a1, .inl a2, .inl a3, .inl a4, .inl a5] [] 229 jr0 h
        refine jGo_blk qX11_part_39 ?_
        refine st_cv (na := 1) (st := [.inl (-4), .inr (.inr (.inl 0))]) jo_0 rfl rfl rfl (c_X11_refused (-4) h (by omega)) rfl ?_
        rintro _ _ g11 ⟨rfl, ft10, t10, rfl, ht10, zt10⟩ kt10
        replace kt10 : -2147483648 ≤ t10 ∧ t10 ≤ 2147483647 := kt10
        replace ht10 : -7 ≤ t10 ∧ t10 ≤ -1 := ht10
        have fg11 : jfr w_X11_part h g11 := jfr_tr f0 ft10 (fun i k q => by unfold w_X11_refused at q; unfold w_X11_part; omega)
        replace zt10 : t10 = (-4 : Int) := zt10
        exact st_r0 (ls := []) ⟨rfl, rfl, fg11, t10, rfl, (by omega), trivial⟩
      · replace c9 : (-9) ≤ a3 := by first | exact c9 | exact Int.not_le.mp c9 | exact Int.not_lt.mp c9 | exact Decidable.not_not.mp c9
        refine And.intro (fun c12 => ?_) (fun c12 => ?_)
        · replace c12 : a4 < 0 := c12
          show jGo E l 104 229 229 _ 39 [.inr (.inr (.inl 0)), .inl a1, .inl a2, .inl a3, .inl a4, .inl a5] [] 229 jr0 h
          refine jGo_blk qX11_part_39 ?_
          refine st_cv (na := 1) (st := [.inl (-4), .inr (.inr (.inl 0))]) jo_0 rfl rfl rfl (c_X11_refused (-4) h (by omega)) rfl ?_
          rintro _ _ g14 ⟨rfl, ft13, t13, rfl, ht13, zt13⟩ kt13
          replace kt13 : -2147483648 ≤ t13 ∧ t13 ≤ 2147483647 := kt13
          replace ht13 : -7 ≤ t13 ∧ t13 ≤ -1 := ht13
          have fg14 : jfr w_X11_part h g14 := jfr_tr f0 ft13 (fun i k q => by unfold w_X11_refused at q; unfold w_X11_part; omega)
          replace zt13 : t13 = (-4 : Int) := zt13
          exact st_r0 (ls := []) ⟨rfl, rfl, fg14, t13, rfl, (by omega), trivial⟩
        · replace c12 : 0 ≤ a4 := by first | exact c12 | exact Int.not_le.mp c12 | exact Int.not_lt.mp c12 | exact Decidable.not_not.mp c12
          refine And.intro (fun c15 => ?_) (fun c15 => ?_)
          · replace c15 : 1 ≤ a5 := c15
            show jGo E l 104 229 229 _ 46 [.inr (.inr (.inl 0)), .inl a1, .inl a2, .inl a3, .inl a4, .inl a5] [] 229 jr0 h
            refine jGo_blk qX11_part_46 ?_
            refine And.intro (fun c16 => ?_) (fun c16 => ?_)
            · replace c16 : 9 < a3 := c16
              show jGo E l 104 229 229 _ 81 [.inr (.inr (.inl 0)), .inl a1, .inl a2, .inl a3, .inl a4, .inl a5] [] 229 jr0 h
              refine jGo_blk qX11_part_81 ?_
              refine st_cv (na := 1) (st := [.inl (-6), .inr (.inr (.inl 0))]) jo_0 rfl rfl rfl (c_X11_refused (-6) h (by omega)) rfl ?_
              rintro _ _ g18 ⟨rfl, ft17, t17, rfl, ht17, zt17⟩ kt17
              replace kt17 : -2147483648 ≤ t17 ∧ t17 ≤ 2147483647 := kt17
              replace ht17 : -7 ≤ t17 ∧ t17 ≤ -1 := ht17
              have fg18 : jfr w_X11_part h g18 := jfr_tr f0 ft17 (fun i k q => by unfold w_X11_refused at q; unfold w_X11_part; omega)
              replace zt17 : t17 = (-6 : Int) := zt17
              exact st_r0 (ls := []) ⟨rfl, rfl, fg18, t17, rfl, (by omega), trivial⟩
            · replace c16 : a3 ≤ 9 := by first | exact c16 | exact Int.not_le.mp c16 | exact Int.not_lt.mp c16 | exact Decidable.not_not.mp c16
              refine And.intro (fun c19 => ?_) (fun c19 => ?_)
              · replace c19 : 9 < a4 := c19
                show jGo E l 104 229 229 _ 81 [.inr (.inr (.inl 0)), .inl a1, .inl a2, .inl a3, .inl a4, .inl a5] [] 229 jr0 h
                refine jGo_blk qX11_part_81 ?_
                refine st_cv (na := 1) (st := [.inl (-6), .inr (.inr (.inl 0))]) jo_0 rfl rfl rfl (c_X11_refused (-6) h (by omega)) rfl ?_
                rintro _ _ g21 ⟨rfl, ft20, t20, rfl, ht20, zt20⟩ kt20
                replace kt20 : -2147483648 ≤ t20 ∧ t20 ≤ 2147483647 := kt20
                replace ht20 : -7 ≤ t20 ∧ t20 ≤ -1 := ht20
                have fg21 : jfr w_X11_part h g21 := jfr_tr f0 ft20 (fun i k q => by unfold w_X11_refused at q; unfold w_X11_part; omega)
                replace zt20 : t20 = (-6 : Int) := zt20
                exact st_r0 (ls := []) ⟨rfl, rfl, fg21, t20, rfl, (by omega), trivial⟩
              · replace c19 : a4 ≤ 9 := by first | exact c19 | exact Int.not_le.mp c19 | exact Int.not_lt.mp c19 | exact Decidable.not_not.mp c19
                refine And.intro (fun c22 => ?_) (fun c22 => ?_)
                · replace c22 : 500 < a5 := c22
                  show jGo E l 104 229 229 _ 81 [.inr (.inr (.inl 0)), .inl a1, .inl a2, .inl a3, .inl a4, .inl a5] [] 229 jr0 h
                  refine jGo_blk qX11_part_81 ?_
                  refine st_cv (na := 1) (st := [.inl (-6), .inr (.inr (.inl 0))]) jo_0 rfl rfl rfl (c_X11_refused (-6) h (by omega)) rfl ?_
                  rintro _ _ g24 ⟨rfl, ft23, t23, rfl, ht23, zt23⟩ kt23
                  replace kt23 : -2147483648 ≤ t23 ∧ t23 ≤ 2147483647 := kt23
                  replace ht23 : -7 ≤ t23 ∧ t23 ≤ -1 := ht23
                  have fg24 : jfr w_X11_part h g24 := jfr_tr f0 ft23 (fun i k q => by unfold w_X11_refused at q; unfold w_X11_part; omega)
                  replace zt23 : t23 = (-6 : Int) := zt23
                  exact st_r0 (ls := []) ⟨rfl, rfl, fg24, t23, rfl, (by omega), trivial⟩
                · replace c22 : a5 ≤ 500 := by first | exact c22 | exact Int.not_le.mp c22 | exact Int.not_lt.mp c22 | exact Decidable.not_not.mp c22
                  refine st_gr jo_0 jr_0_7 ?_
                  refine st_gr jo_91 jr_91_0 ?_
                  refine st_ai jo_92 (show 0 ≤ a1 by omega) (show a1 < ((3 : Nat) : Int) by omega) (fun v25 ev25 b26 => ?_)
                  replace ev25 : v25 = h 92 a1 := ev25
                  replace b26 := (jba_92 a1 _).1 b26
                  refine And.intro (fun c27 => ?_) (fun c27 => ?_)
                  · replace c27 : v25 < 6 := c27
                    show jGo E l 104 229 229 _ 88 [.inr (.inr (.inl 0)), .inl a1, .inl a2, .inl a3, .inl a4, .inl a5] [] 229 jr0 h
                    refine jGo_blk qX11_part_88 ?_
                    refine st_gr jo_0 jr_0_7 ?_
                    refine st_cv (na := 5) (st := [.inl a5, .inl a4, .inl a3, .inl a2, .inl a1, .inr (.inr (.inl 91))]) jo_91 rfl rfl rfl (c_X8_add a1 a2 a3 a4 a5 h (by omega) (by omega) (by omega) (by omega) (by omega) (by omega)) rfl ?_
                    rintro _ _ g29 ⟨rfl, ft28, t28, rfl, ht28, zt28⟩ kt28
                    replace kt28 : -2147483648 ≤ t28 ∧ t28 ≤ 2147483647 := kt28
                    replace ht28 : 0 ≤ t28 ∧ t28 ≤ 5 := ht28
                    have fg29 : jfr w_X11_part h g29 := jfr_tr f0 ft28 (fun i k q => by unfold w_X8_add at q; unfold w_X11_part; omega)
                    exact st_r0 (ls := []) ⟨rfl, rfl, fg29, t28, rfl, (by omega), trivial⟩
                  · replace c27 : 6 ≤ v25 := by first | exact c27 | exact Int.not_le.mp c27 | exact Int.not_lt.mp c27 | exact Decidable.not_not.mp c27
                    show jGo E l 104 229 229 _ 81 [.inr (.inr (.inl 0)), .inl a1, .inl a2, .inl a3, .inl a4, .inl a5] [] 229 jr0 h
                    refine jGo_blk qX11_part_81 ?_
                    refine st_cv (na := 1) (st := [.inl (-6), .inr (.inr (.inl 0))]) jo_0 rfl rfl rfl (c_X11_refused (-6) h (by omega)) rfl ?_
                    rintro _ _ g31 ⟨rfl, ft30, t30, rfl, ht30, zt30⟩ kt30
                    replace kt30 : -2147483648 ≤ t30 ∧ t30 ≤ 2147483647 := kt30
                    replace ht30 : -7 ≤ t30 ∧ t30 ≤ -1 := ht30
                    have fg31 : jfr w_X11_part h g31 := jfr_tr f0 ft30 (fun i k q => by unfold w_X11_refused at q; unfold w_X11_part; omega)
                    replace zt30 : t30 = (-6 : Int) := zt30
                    exact st_r0 (ls := []) ⟨rfl, rfl, fg31, t30, rfl, (by omega), trivial⟩
          · replace c15 : a5 < 1 := by first | exact c15 | exact Int.not_le.mp c15 | exact Int.not_lt.mp c15 | exact Decidable.not_not.mp c15
            show jGo E l 104 229 229 _ 39 [.inr (.inr (.inl 0)), .inl a1, .inl a2, .inl a3, .inl a4, .inl a5] [] 229 jr0 h
            refine jGo_blk qX11_part_39 ?_
            refine st_cv (na := 1) (st := [.inl (-4), .inr (.inr (.inl 0))]) jo_0 rfl rfl rfl (c_X11_refused (-4) h (by omega)) rfl ?_
            rintro _ _ g33 ⟨rfl, ft32, t32, rfl, ht32, zt32⟩ kt32
            replace kt32 : -2147483648 ≤ t32 ∧ t32 ≤ 2147483647 := kt32
            replace ht32 : -7 ≤ t32 ∧ t32 ≤ -1 := ht32
            have fg33 : jfr w_X11_part h g33 := jfr_tr f0 ft32 (fun i k q => by unfold w_X11_refused at q; unfold w_X11_part; omega)
            replace zt32 : t32 = (-4 : Int) := zt32
            exact st_r0 (ls := []) ⟨rfl, rfl, fg33, t32, rfl, (by omega), trivial⟩
    · replace c8 : t6 = 0 := by first | exact c8 | exact Int.not_le.mp c8 | exact Int.not_lt.mp c8 | exact Decidable.not_not.mp c8
      show jGo E l 104 229 229 _ 16 [.inr (.inr (.inl 0)), .inl a1, .inl a2, .inl a3, .inl a4, .inl a5] [] 229 jr0 h
      refine jGo_blk qX11_part_16 ?_
      refine st_cv (na := 1) (st := [.inl (-1), .inr (.inr (.inl 0))]) jo_0 rfl rfl rfl (c_X11_refused (-1) h (by omega)) rfl ?_
      rintro _ _ g35 ⟨rfl, ft34, t34, rfl, ht34, zt34⟩ kt34
      replace kt34 : -2147483648 ≤ t34 ∧ t34 ≤ 2147483647 := kt34
      replace ht34 : -7 ≤ t34 ∧ t34 ≤ -1 := ht34
      have fg35 : jfr w_X11_part h g35 := jfr_tr f0 ft34 (fun i k q => by unfold w_X11_refused at q; unfold w_X11_part; omega)
      replace zt34 : t34 = (-1 : Int) := zt34
      exact st_r0 (ls := []) ⟨rfl, rfl, fg35, t34, rfl, (by omega), trivial⟩

def w_X12_part (i k : Int) : Prop := (210 ≤ i ∧ i ≤ 214) ∨ (i = 219)
def k_X12_part (a1 : Int) (a2 : Int) (a3 : Int) (a4 : Int) (a5 : Int) (h : JH) (v : Option JV) (r' g : JH) : Prop := r' = jr0 ∧ jfr w_X12_part h g ∧ ∃ x : Int, v = some (.inl x) ∧ (-7 ≤ x ∧ x ≤ 5) ∧ (True)
set_option maxHeartbeats 4000000 in
theorem c_X12_part {E : JE} {l : Launch} (a1 : Int) (a2 : Int) (a3 : Int) (a4 : Int) (a5 : Int) (h : JH) : jMt E l 105 [.inr (.inr (.inl 176)), .inl a1, .inl a2, .inl a3, .inl a4, .inl a5] 229 jr0 h (k_X12_part a1 a2 a3 a4 a5 h) := by
  refine jMt0 (nL := 7) (ls := [.inr (.inr (.inl 176)), .inl a1, .inl a2, .inl a3, .inl a4, .inl a5, .inr (.inr (.inr ()))]) (by decide +kernel) (by decide +kernel) (by decide +kernel) rfl rfl ?_
  have f0 : jfr w_X12_part h h := jfr_rf _ _
  refine jGo_blk qX12_part_0 ?_
  refine st_cs (na := 3) (st := [.inl 2, .inl 0, .inl a1]) rfl rfl rfl (c_X12_in a1 0 2 h) rfl ?_
  rintro _ _ _ ⟨rfl, rfl, t1, rfl, ht1, zt1⟩ kt1
  replace kt1 : -2147483648 ≤ t1 ∧ t1 ≤ 2147483647 := kt1
  replace ht1 : 0 ≤ t1 ∧ t1 ≤ 1 := ht1
  replace zt1 : (t1 = 1 ∧ (0 : Int) ≤ a1 ∧ a1 ≤ (2 : Int)) ∨ (t1 = 0 ∧ ¬ ((0 : Int) ≤ a1 ∧ a1 ≤ (2 : Int))) := zt1
  refine And.intro (fun c3 => ?_) (fun c3 => ?_)
  · replace c3 : t1 = 0 := c3
    show jGo E l 105 229 229 _ 18 [.inr (.inr (.inl 176)), .inl a1, .inl a2, .inl a3, .inl a4, .inl a5, .inr (.inr (.inr ()))] [] 229 jr0 h
    refine jGo_blk qX12_part_18 ?_
    refine st_cv (na := 1) (st := [.inl (-1), .inr (.inr (.inl 176))]) jo_176 rfl rfl rfl (c_X12_refuse (-1) h (by omega)) rfl ?_
    rintro _ _ g5 ⟨rfl, ft4, t4, rfl, ht4, zt4⟩ kt4
    replace kt4 : -2147483648 ≤ t4 ∧ t4 ≤ 2147483647 := kt4
    replace ht4 : -7 ≤ t4 ∧ t4 ≤ -1 := ht4
    have fg5 : jfr w_X12_part h g5 := jfr_tr f0 ft4 (fun i k q => by unfold w_X12_refuse at q; unfold w_X12_part; omega)
    replace zt4 : t4 = (-1 : Int) := zt4
    exact st_r0 (ls := []) ⟨rfl, rfl, fg5, t4, rfl, (by omega), trivial⟩
  · replace c3 : ¬ t1 = 0 := by first | exact c3 | exact Int.not_le.mp c3 | exact Int.not_lt.mp c3 | exact Decidable.not_not.mp c3
    refine st_cs (na := 3) (st := [.inl 2, .inl 0, .inl a2]) rfl rfl rfl (c_X12_in a2 0 2 h) rfl ?_
    rintro _ _ _ ⟨rfl, rfl, t6, rfl, ht6, zt6⟩ kt6
    replace kt6 : -2147483648 ≤ t6 ∧ t6 ≤ 2147483647 := kt6
    replace ht6 : 0 ≤ t6 ∧ t6 ≤ 1 := ht6
    replace zt6 : (t6 = 1 ∧ (0 : Int) ≤ a2 ∧ a2 ≤ (2 : Int)) ∨ (t6 = 0 ∧ ¬ ((0 : Int) ≤ a2 ∧ a2 ≤ (2 : Int))) := zt6
    refine And.intro (fun c8 => ?_) (fun c8 => ?_)
    · replace c8 : ¬ t6 = 0 := c8
      show jGo E l 105 229 229 _ 24 [.inr (.inr (.inl 176)), .inl a1, .inl a2, .inl a3, .inl a4, .inl a5, .inr (.inr (.inr ()))] [] 229 jr0 h
      refine jGo_blk qX12_part_24 ?_
      refine And.intro (fun c9 => ?_) (fun c9 => ?_)
      · replace c9 : a3 < (-9) := c9
        show jGo E l 105 229 229 _ 41 [.inr (.inr (.inl 176)), .inl a1, .inl a2, .inl a3, .inl a4, .inl a5, .inr (.inr (.inr ()))] [] 229 jr0 h
        refine jGo_blk qX12_part_41 ?_
        refine st_cv (na := 1) (st := [.inl (-4), .inr (.inr (.inl 176))]) jo_176 rfl rfl rfl (c_X12_refuse (-4) h (by omega)) rfl ?_
        rintro _ _ g11 ⟨rfl, ft10, t10, rfl, ht10, zt10⟩ kt10
        replace kt10 : -2147483648 ≤ t10 ∧ t10 ≤ 2147483647 := kt10
        replace ht10 : -7 ≤ t10 ∧ t10 ≤ -1 := ht10
        have fg11 : jfr w_X12_part h g11 := jfr_tr f0 ft10 (fun i k q => by unfold w_X12_refuse at q; unfold w_X12_part; omega)
        replace zt10 : t10 = (-4 : Int) := zt10
        exact st_r0 (ls := []) ⟨rfl, rfl, fg11, t10, rfl, (by omega), trivial⟩
      · replace c9 : (-9) ≤ a3 := by first | exact c9 | exact Int.not_le.mp c9 | exact Int.not_lt.mp c9 | exact Decidable.not_not.mp c9
        refine And.intro (fun c12 => ?_) (fun c12 => ?_)
        · replace c12 : a4 < 0 := c12
          show jGo E l 105 229 229 _ 41 [.inr (.inr (.inl 176)), .inl a1, .inl a2, .inl a3, .inl a4, .inl a5, .inr (.inr (.inr ()))] [] 229 jr0 h
          refine jGo_blk qX12_part_41 ?_
          refine st_cv (na := 1) (st := [.inl (-4), .inr (.inr (.inl 176))]) jo_176 rfl rfl rfl (c_X12_refuse (-4) h (by omega)) rfl ?_
          rintro _ _ g14 ⟨rfl, ft13, t13, rfl, ht13, zt13⟩ kt13
          replace kt13 : -2147483648 ≤ t13 ∧ t13 ≤ 2147483647 := kt13
          replace ht13 : -7 ≤ t13 ∧ t13 ≤ -1 := ht13
          have fg14 : jfr w_X12_part h g14 := jfr_tr f0 ft13 (fun i k q => by unfold w_X12_refuse at q; unfold w_X12_part; omega)
          replace zt13 : t13 = (-4 : Int) := zt13
          exact st_r0 (ls := []) ⟨rfl, rfl, fg14, t13, rfl, (by omega), trivial⟩
        · replace c12 : 0 ≤ a4 := by first | exact c12 | exact Int.not_le.mp c12 | exact Int.not_lt.mp c12 | exact Decidable.not_not.mp c12
          refine And.intro (fun c15 => ?_) (fun c15 => ?_)
          · replace c15 : 1 ≤ a5 := c15
            show jGo E l 105 229 229 _ 48 [.inr (.inr (.inl 176)), .inl a1, .inl a2, .inl a3, .inl a4, .inl a5, .inr (.inr (.inr ()))] [] 229 jr0 h
            refine jGo_blk qX12_part_48 ?_
            refine And.intro (fun c16 => ?_) (fun c16 => ?_)
            · replace c16 : 9 < a3 := c16
              show jGo E l 105 229 229 _ 80 [.inr (.inr (.inl 176)), .inl a1, .inl a2, .inl a3, .inl a4, .inl a5, .inr (.inr (.inr ()))] [] 229 jr0 h
              refine jGo_blk qX12_part_80 ?_
              refine st_cv (na := 1) (st := [.inl (-6), .inr (.inr (.inl 176))]) jo_176 rfl rfl rfl (c_X12_refuse (-6) h (by omega)) rfl ?_
              rintro _ _ g18 ⟨rfl, ft17, t17, rfl, ht17, zt17⟩ kt17
              replace kt17 : -2147483648 ≤ t17 ∧ t17 ≤ 2147483647 := kt17
              replace ht17 : -7 ≤ t17 ∧ t17 ≤ -1 := ht17
              have fg18 : jfr w_X12_part h g18 := jfr_tr f0 ft17 (fun i k q => by unfold w_X12_refuse at q; unfold w_X12_part; omega)
              replace zt17 : t17 = (-6 : Int) := zt17
              exact st_r0 (ls := []) ⟨rfl, rfl, fg18, t17, rfl, (by omega), trivial⟩
            · replace c16 : a3 ≤ 9 := by first | exact c16 | exact Int.not_le.mp c16 | exact Int.not_lt.mp c16 | exact Decidable.not_not.mp c16
              refine And.intro (fun c19 => ?_) (fun c19 => ?_)
              · replace c19 : 9 < a4 := c19
                show jGo E l 105 229 229 _ 80 [.inr (.inr (.inl 176)), .inl a1, .inl a2, .inl a3, .inl a4, .inl a5, .inr (.inr (.inr ()))] [] 229 jr0 h
                refine jGo_blk qX12_part_80 ?_
                refine st_cv (na := 1) (st := [.inl (-6), .inr (.inr (.inl 176))]) jo_176 rfl rfl rfl (c_X12_refuse (-6) h (by omega)) rfl ?_
                rintro _ _ g21 ⟨rfl, ft20, t20, rfl, ht20, zt20⟩ kt20
                replace kt20 : -2147483648 ≤ t20 ∧ t20 ≤ 2147483647 := kt20
                replace ht20 : -7 ≤ t20 ∧ t20 ≤ -1 := ht20
                have fg21 : jfr w_X12_part h g21 := jfr_tr f0 ft20 (fun i k q => by unfold w_X12_refuse at q; unfold w_X12_part; omega)
                replace zt20 : t20 = (-6 : Int) := zt20
                exact st_r0 (ls := []) ⟨rfl, rfl, fg21, t20, rfl, (by omega), trivial⟩
              · replace c19 : a4 ≤ 9 := by first | exact c19 | exact Int.not_le.mp c19 | exact Int.not_lt.mp c19 | exact Decidable.not_not.mp c19
                refine And.intro (fun c22 => ?_) (fun c22 => ?_)
                · replace c22 : 500 < a5 := c22
                  show jGo E l 105 229 229 _ 80 [.inr (.inr (.inl 176)), .inl a1, .inl a2, .inl a3, .inl a4, .inl a5, .inr (.inr (.inr ()))] [] 229 jr0 h
                  refine jGo_blk qX12_part_80 ?_
                  refine st_cv (na := 1) (st := [.inl (-6), .inr (.inr (.inl 176))]) jo_176 rfl rfl rfl (c_X12_refuse (-6) h (by omega)) rfl ?_
                  rintro _ _ g24 ⟨rfl, ft23, t23, rfl, ht23, zt23⟩ kt23
                  replace kt23 : -2147483648 ≤ t23 ∧ t23 ≤ 2147483647 := kt23
                  replace ht23 : -7 ≤ t23 ∧ t23 ≤ -1 := ht23
                  have fg24 : jfr w_X12_part h g24 := jfr_tr f0 ft23 (fun i k q => by unfold w_X12_refuse at q; unfold w_X12_part; omega)
                  replace zt23 : t23 = (-6 : Int) := zt23
                  exact st_r0 (ls := []) ⟨rfl, rfl, fg24, t23, rfl, (by omega), trivial⟩
                · replace c22 : a5 ≤ 500 := by first | exact c22 | exact Int.not_le.mp c22 | exact Int.not_lt.mp c22 | exact Decidable.not_not.mp c22
                  refine st_gr jo_176 jr_176_40 ?_
                  refine st_ai jo_210 (show 0 ≤ a1 by omega) (show a1 < ((3 : Nat) : Int) by omega) (fun v25 ev25 b26 => ?_)
                  replace ev25 : v25 = h 210 a1 := ev25
                  replace b26 := (jba_210 a1 _).1 b26
                  refine And.intro (fun c27 => ?_) (fun c27 => ?_)
                  · replace c27 : ¬ v25 = 6 := c27
                    show jGo E l 105 229 229 _ 87 [.inr (.inr (.inl 176)), .inl a1, .inl a2, .inl a3, .inl a4, .inl a5, .inr (.inr (.inr ()))] [] 229 jr0 h
                    refine jGo_blk qX12_part_87 ?_
                    have e28 : jw32 (6 * a1) = 6 * a1 := j32e (by omega) (by omega)
                    refine st_gr jo_176 jr_176_40 ?_
                    refine st_ai jo_210 (show 0 ≤ a1 by omega) (show a1 < ((3 : Nat) : Int) by omega) (fun v29 ev29 b30 => ?_)
                    replace ev29 : v29 = h 210 a1 := ev29
                    replace b30 := (jba_210 a1 _).1 b30
                    have e31 : jw32 ((jw32 (6 * a1)) + v29) = (jw32 (6 * a1)) + v29 := j32e (by omega) (by omega)
                    refine st_gr jo_176 jr_176_41 ?_
                    refine st_si jo_211 (show 0 ≤ jw32 ((jw32 (6 * a1)) + v29) by omega) (show jw32 ((jw32 (6 * a1)) + v29) < ((18 : Nat) : Int) by omega) (fun hx => (jba_211 _ _).2 (show 0 ≤ a2 ∧ a2 ≤ 2 by omega)) (fun g32 eg32 => ?_)
                    replace eg32 : g32 = jup h 211 (jw32 ((jw32 (6 * a1)) + v29)) a2 := eg32
                    have fg32 : jfr w_X12_part h g32 := jfr_up f0 eg32 (by unfold w_X12_part; omega)
                    have e33 : g32 211 (jw32 ((jw32 (6 * a1)) + v29)) = a2 := jup_s eg32
                    refine st_gr jo_176 jr_176_42 ?_
                    refine st_si jo_212 (show 0 ≤ jw32 ((jw32 (6 * a1)) + v29) by omega) (show jw32 ((jw32 (6 * a1)) + v29) < ((18 : Nat) : Int) by omega) (fun hx => (jba_212 _ _).2 (show -9 ≤ a3 ∧ a3 ≤ 9 by omega)) (fun g34 eg34 => ?_)
                    replace eg34 : g34 = jup g32 212 (jw32 ((jw32 (6 * a1)) + v29)) a3 := eg34
                    have fg34 : jfr w_X12_part h g34 := jfr_up fg32 eg34 (by unfold w_X12_part; omega)
                    have e35 : g34 212 (jw32 ((jw32 (6 * a1)) + v29)) = a3 := jup_s eg34
                    refine st_gr jo_176 jr_176_43 ?_
                    refine st_si jo_213 (show 0 ≤ jw32 ((jw32 (6 * a1)) + v29) by omega) (show jw32 ((jw32 (6 * a1)) + v29) < ((18 : Nat) : Int) by omega) (fun hx => (jba_213 _ _).2 (show 0 ≤ a4 ∧ a4 ≤ 9 by omega)) (fun g36 eg36 => ?_)
                    replace eg36 : g36 = jup g34 213 (jw32 ((jw32 (6 * a1)) + v29)) a4 := eg36
                    have fg36 : jfr w_X12_part h g36 := jfr_up fg34 eg36 (by unfold w_X12_part; omega)
                    have e37 : g36 213 (jw32 ((jw32 (6 * a1)) + v29)) = a4 := jup_s eg36
                    refine st_gr jo_176 jr_176_44 ?_
                    refine st_si jo_214 (show 0 ≤ jw32 ((jw32 (6 * a1)) + v29) by omega) (show jw32 ((jw32 (6 * a1)) + v29) < ((18 : Nat) : Int) by omega) (fun hx => (jba_214 _ _).2 (show 0 ≤ a5 ∧ a5 ≤ 500 by omega)) (fun g38 eg38 => ?_)
                    replace eg38 : g38 = jup g36 214 (jw32 ((jw32 (6 * a1)) + v29)) a5 := eg38
                    have fg38 : jfr w_X12_part h g38 := jfr_up fg36 eg38 (by unfold w_X12_part; omega)
                    have e39 : g38 214 (jw32 ((jw32 (6 * a1)) + v29)) = a5 := jup_s eg38
                    refine st_gr jo_176 jr_176_40 ?_
                    refine st_ai jo_210 (show 0 ≤ a1 by omega) (show a1 < ((3 : Nat) : Int) by omega) (fun v40 ev40 b41 => ?_)
                    replace ev40 : v40 = g38 210 a1 := ev40
                    replace b41 := (jba_210 a1 _).1 b41
                    have e42 : g38 210 a1 = g36 210 a1 := jup_o eg38 (by omega)
                    have e43 : g36 210 a1 = g34 210 a1 := jup_o eg36 (by omega)
                    have e44 : g34 210 a1 = g32 210 a1 := jup_o eg34 (by omega)
                    have e45 : g32 210 a1 = h 210 a1 := jup_o eg32 (by omega)
                    have e46 : jw32 (v40 + 1) = v40 + 1 := j32e (by omega) (by omega)
                    refine st_si jo_210 (show 0 ≤ a1 by omega) (show a1 < ((3 : Nat) : Int) by omega) (fun hx => (jba_210 _ _).2 (show 0 ≤ jw32 (v40 + 1) ∧ jw32 (v40 + 1) ≤ 6 by omega)) (fun g47 eg47 => ?_)
                    replace eg47 : g47 = jup g38 210 a1 (jw32 (v40 + 1)) := eg47
                    have fg47 : jfr w_X12_part h g47 := jfr_up fg38 eg47 (by unfold w_X12_part; omega)
                    have e48 : g47 210 a1 = jw32 (v40 + 1) := jup_s eg47
                    refine st_gr jo_176 jr_176_40 ?_
                    refine st_ai jo_210 (show 0 ≤ a1 by omega) (show a1 < ((3 : Nat) : Int) by omega) (fun v49 ev49 b50 => ?_)
                    replace ev49 : v49 = g47 210 a1 := ev49
                    replace b50 := (jba_210 a1 _).1 b50
                    have e51 : jw32 (v49 - 1) = v49 - 1 := j32e (by omega) (by omega)
                    exact st_r0 (ls := []) ⟨rfl, rfl, fg47, jw32 (v49 - 1), rfl, (by omega), trivial⟩
                  · replace c27 : v25 = 6 := by first | exact c27 | exact Int.not_le.mp c27 | exact Int.not_lt.mp c27 | exact Decidable.not_not.mp c27
                    show jGo E l 105 229 229 _ 80 [.inr (.inr (.inl 176)), .inl a1, .inl a2, .inl a3, .inl a4, .inl a5, .inr (.inr (.inr ()))] [] 229 jr0 h
                    refine jGo_blk qX12_part_80 ?_
                    refine st_cv (na := 1) (st := [.inl (-6), .inr (.inr (.inl 176))]) jo_176 rfl rfl rfl (c_X12_refuse (-6) h (by omega)) rfl ?_
                    rintro _ _ g53 ⟨rfl, ft52, t52, rfl, ht52, zt52⟩ kt52
                    replace kt52 : -2147483648 ≤ t52 ∧ t52 ≤ 2147483647 := kt52
                    replace ht52 : -7 ≤ t52 ∧ t52 ≤ -1 := ht52
                    have fg53 : jfr w_X12_part h g53 := jfr_tr f0 ft52 (fun i k q => by unfold w_X12_refuse at q; unfold w_X12_part; omega)
                    replace zt52 : t52 = (-6 : Int) := zt52
                    exact st_r0 (ls := []) ⟨rfl, rfl, fg53, t52, rfl, (by omega), trivial⟩
          · replace c15 : a5 < 1 := by first | exact c15 | exact Int.not_le.mp c15 | exact Int.not_lt.mp c15 | exact Decidable.not_not.mp c15
            show jGo E l 105 229 229 _ 41 [.inr (.inr (.inl 176)), .inl a1, .inl a2, .inl a3, .inl a4, .inl a5, .inr (.inr (.inr ()))] [] 229 jr0 h
            refine jGo_blk qX12_part_41 ?_
            refine st_cv (na := 1) (st := [.inl (-4), .inr (.inr (.inl 176))]) jo_176 rfl rfl rfl (c_X12_refuse (-4) h (by omega)) rfl ?_
            rintro _ _ g55 ⟨rfl, ft54, t54, rfl, ht54, zt54⟩ kt54
            replace kt54 : -2147483648 ≤ t54 ∧ t54 ≤ 2147483647 := kt54
            replace ht54 : -7 ≤ t54 ∧ t54 ≤ -1 := ht54
            have fg55 : jfr w_X12_part h g55 := jfr_tr f0 ft54 (fun i k q => by unfold w_X12_refuse at q; unfold w_X12_part; omega)
            replace zt54 : t54 = (-4 : Int) := zt54
            exact st_r0 (ls := []) ⟨rfl, rfl, fg55, t54, rfl, (by omega), trivial⟩
    · replace c8 : t6 = 0 := by first | exact c8 | exact Int.not_le.mp c8 | exact Int.not_lt.mp c8 | exact Decidable.not_not.mp c8
      show jGo E l 105 229 229 _ 18 [.inr (.inr (.inl 176)), .inl a1, .inl a2, .inl a3, .inl a4, .inl a5, .inr (.inr (.inr ()))] [] 229 jr0 h
      refine jGo_blk qX12_part_18 ?_
      refine st_cv (na := 1) (st := [.inl (-1), .inr (.inr (.inl 176))]) jo_176 rfl rfl rfl (c_X12_refuse (-1) h (by omega)) rfl ?_
      rintro _ _ g57 ⟨rfl, ft56, t56, rfl, ht56, zt56⟩ kt56
      replace kt56 : -2147483648 ≤ t56 ∧ t56 ≤ 2147483647 := kt56
      replace ht56 : -7 ≤ t56 ∧ t56 ≤ -1 := ht56
      have fg57 : jfr w_X12_part h g57 := jfr_tr f0 ft56 (fun i k q => by unfold w_X12_refuse at q; unfold w_X12_part; omega)
      replace zt56 : t56 = (-1 : Int) := zt56
      exact st_r0 (ls := []) ⟨rfl, rfl, fg57, t56, rfl, (by omega), trivial⟩

def k_X6_lackingNumber (a0 : Int) (h : JH) (v : Option JV) (r' g : JH) : Prop := r' = jr0 ∧ h = g ∧ ∃ x : Int, v = some (.inr (.inl x)) ∧ (19456426971176 ≤ x ∧ x ≤ 19461061219176) ∧ (x = jlk a0)
set_option maxHeartbeats 4000000 in
theorem c_X6_lackingNumber {E : JE} {l : Launch} (a0 : Int) (h : JH) (p0 : 0 ≤ a0 ∧ a0 ≤ 5) : jMt E l 107 [.inl a0] 229 jr0 h (k_X6_lackingNumber a0 h) := by
  refine jMt0 (nL := 1) (ls := [.inl a0]) (by decide +kernel) (by decide +kernel) (by decide +kernel) rfl rfl ?_
  refine jGo_blk qX6_lackingNumber_0 ?_
  refine st_xl (by decide) jx_k6 (jx_l6 E) (show 0 ≤ a0 by omega) (show a0 < ((6 : Nat) : Int) by omega) (fun v1 ev1 => ?_)
  have bv1 : 1 ≤ v1 ∧ v1 ≤ 115856201 := by rw [ev1]; exact jx_w6 E a0 (by omega) (by omega)
  replace ev1 : v1 = jxv E (-6) a0 := ev1
  have e2 : jw64 (40 * v1) = 40 * v1 := j64e (by omega) (by omega)
  have e3 : jw64 (19456426971136 + (jw64 (40 * v1))) = 19456426971136 + (jw64 (40 * v1)) := j64e (by omega) (by omega)
  exact ⟨rfl, rfl, rfl, jw64 (19456426971136 + (jw64 (40 * v1))), rfl, (by omega), (by have q9 : jlk a0 = 19456426971136 + 40 * jxv E (-6) a0 := (by rw [jx_e6]; rfl); omega)⟩

def w_X6_fitting (i k : Int) : Prop := (i = 100)
def k_X6_fitting (a2 : Int) (a4 : Int) (h : JH) (v : Option JV) (r' g : JH) : Prop := r' = jr0 ∧ jfr w_X6_fitting h g ∧ ∃ x : Int, v = some (.inl x) ∧ (0 ≤ x ∧ x ≤ 63) ∧ (jCok x (h 92 a4) g)
set_option maxHeartbeats 4000000 in
theorem c_X6_fitting {E : JE} {l : Launch} (a2 : Int) (a4 : Int) (h : JH) (p2 : 0 ≤ a2 ∧ a2 ≤ 39) (p4 : 0 ≤ a4 ∧ a4 ≤ 2) (q0 : jGok h) : jMt E l 109 [.inr (.inr (.inl 97)), .inr (.inr (.inl 84)), .inl a2, .inr (.inr (.inl 91)), .inl a4] 229 jr0 h (k_X6_fitting a2 a4 h) := by
  refine jMt0 (nL := 9) (ls := [.inr (.inr (.inl 97)), .inr (.inr (.inl 84)), .inl a2, .inr (.inr (.inl 91)), .inl a4, .inr (.inr (.inr ())), .inr (.inr (.inr ())), .inr (.inr (.inr ())), .inr (.inr (.inr ()))]) (by decide +kernel) (by decide +kernel) (by decide +kernel) rfl rfl ?_
  have f0 : jfr w_X6_fitting h h := jfr_rf _ _
  refine jGo_bd (fun hbd => ?_)
  have hb0 := (jba_92 a4 _).1 (hbd 92 a4)
  have key : ∀ N : Nat, (∀ (x5 : Int) (x6 : Int) (x7 : JV) (x8 : JV) (g : JH), (0 ≤ x5 ∧ x5 ≤ 63 ∧ 0 ≤ x6 ∧ x6 ≤ 6) → (jCok x5 x6 g) → (x6 ≤ h 92 a4) → jfr w_X6_fitting h g → (6 - x6) < (N : Int) → jGo E l 109 229 229 (jRK (k_X6_fitting a2 a4 h)) 6 [.inr (.inr (.inl 97)), .inr (.inr (.inl 84)), .inl a2, .inr (.inr (.inl 91)), .inl a4, .inl x5, .inl x6, x7, x8] [] 229 jr0 g) := by
    intro N
    induction N with
    | zero => exact fun _ _ _ _ _ hi hx0 hx1 _ hN => absurd hN (by omega)
    | succ N ih =>
      intro x5 x6 x7 x8 g hi hx0 hx1 hf hN
      have hz0 : g 92 a4 = h 92 a4 := hf 92 a4 (by unfold w_X6_fitting; omega)
      have hz1 : g 87 a2 = h 87 a2 := hf 87 a2 (by unfold w_X6_fitting; omega)
      have hz2 := q0 a2 (by omega) (by omega)
      refine jGo_blk qX6_fitting_6 ?_
      refine st_gr jo_91 jr_91_0 ?_
      refine st_ai jo_92 (show 0 ≤ a4 by omega) (show a4 < ((3 : Nat) : Int) by omega) (fun v1 ev1 b2 => ?_)
      replace ev1 : v1 = g 92 a4 := ev1
      replace b2 := (jba_92 a4 _).1 b2
      refine And.intro (fun c3 => ?_) (fun c3 => ?_)
      · replace c3 : v1 ≤ x6 := c3
        show jGo E l 109 229 229 _ 137 [.inr (.inr (.inl 97)), .inr (.inr (.inl 84)), .inl a2, .inr (.inr (.inl 91)), .inl a4, .inl x5, .inl x6, x7, x8] [] 229 jr0 g
        refine jGo_blk qX6_fitting_137 ?_
        exact st_r0 (ls := []) ⟨rfl, rfl, hf, x5, rfl, (by omega), (by exact fun i h0 h1 hb => ⟨by have := (hx0 i h0 h1 hb).1; omega, (hx0 i h0 h1 hb).2⟩)⟩
      · replace c3 : x6 < v1 := by first | exact c3 | exact Int.not_le.mp c3 | exact Int.not_lt.mp c3 | exact Decidable.not_not.mp c3
        have e4 : jw32 (a4 * 6) = a4 * 6 := j32e (by omega) (by omega)
        have e5 : jw32 ((jw32 (a4 * 6)) + x6) = (jw32 (a4 * 6)) + x6 := j32e (by omega) (by omega)
        refine st_gr jo_84 jr_84_3 ?_
        refine st_ai jo_87 (show 0 ≤ a2 by omega) (show a2 < ((40 : Nat) : Int) by omega) (fun v6 ev6 b7 => ?_)
        replace ev6 : v6 = g 87 a2 := ev6
        replace b7 := (jba_87 a2 _).1 b7
        refine st_gr jo_91 jr_91_4 ?_
        refine st_ai jo_96 (show 0 ≤ jw32 ((jw32 (a4 * 6)) + x6) by omega) (show jw32 ((jw32 (a4 * 6)) + x6) < ((18 : Nat) : Int) by omega) (fun v8 ev8 b9 => ?_)
        replace ev8 : v8 = g 96 (jw32 ((jw32 (a4 * 6)) + x6)) := ev8
        replace b9 := (jba_96 (jw32 ((jw32 (a4 * 6)) + x6)) _).1 b9
        have e10 : jw32 (v6 - v8) = v6 - v8 := j32e (by omega) (by omega)
        refine st_gr jo_84 jr_84_1 ?_
        refine st_ai jo_85 (show 0 ≤ a2 by omega) (show a2 < ((40 : Nat) : Int) by omega) (fun v11 ev11 b12 => ?_)
        replace ev11 : v11 = g 85 a2 := ev11
        replace b12 := (jba_85 a2 _).1 b12
        refine st_gr jo_91 jr_91_1 ?_
        refine st_ai jo_93 (show 0 ≤ jw32 ((jw32 (a4 * 6)) + x6) by omega) (show jw32 ((jw32 (a4 * 6)) + x6) < ((18 : Nat) : Int) by omega) (fun v13 ev13 b14 => ?_)
        replace ev13 : v13 = g 93 (jw32 ((jw32 (a4 * 6)) + x6)) := ev13
        replace b14 := (jba_93 (jw32 ((jw32 (a4 * 6)) + x6)) _).1 b14
        refine And.intro (fun c15 => ?_) (fun c15 => ?_)
        · replace c15 : ¬ v11 = v13 := c15
          show jGo E l 109 229 229 _ 131 [.inr (.inr (.inl 97)), .inr (.inr (.inl 84)), .inl a2, .inr (.inr (.inl 91)), .inl a4, .inl x5, .inl x6, .inl (jw32 ((jw32 (a4 * 6)) + x6)), .inl (jw32 (v6 - v8))] [] 229 jr0 g
          refine jGo_blk qX6_fitting_131 ?_
          have e16 : jw32 (x6 + 1) = x6 + 1 := j32e (by omega) (by omega)
          show jGo E l 109 229 229 _ 6 [.inr (.inr (.inl 97)), .inr (.inr (.inl 84)), .inl a2, .inr (.inr (.inl 91)), .inl a4, .inl x5, .inl (jw32 (x6 + 1)), .inl (jw32 ((jw32 (a4 * 6)) + x6)), .inl (jw32 (v6 - v8))] [] 229 jr0 g
          exact ih x5 (jw32 (x6 + 1)) (.inl (jw32 ((jw32 (a4 * 6)) + x6))) (.inl (jw32 (v6 - v8))) g (by omega) (by exact fun i h0 h1 hb => ⟨by have := (hx0 i h0 h1 hb).1; omega, (hx0 i h0 h1 hb).2⟩) (by omega) hf (by omega)
        · replace c15 : v11 = v13 := by first | exact c15 | exact Int.not_le.mp c15 | exact Int.not_lt.mp c15 | exact Decidable.not_not.mp c15
          refine And.intro (fun c17 => ?_) (fun c17 => ?_)
          · replace c17 : jw32 (v6 - v8) < 0 := c17
            show jGo E l 109 229 229 _ 131 [.inr (.inr (.inl 97)), .inr (.inr (.inl 84)), .inl a2, .inr (.inr (.inl 91)), .inl a4, .inl x5, .inl x6, .inl (jw32 ((jw32 (a4 * 6)) + x6)), .inl (jw32 (v6 - v8))] [] 229 jr0 g
            refine jGo_blk qX6_fitting_131 ?_
            have e18 : jw32 (x6 + 1) = x6 + 1 := j32e (by omega) (by omega)
            show jGo E l 109 229 229 _ 6 [.inr (.inr (.inl 97)), .inr (.inr (.inl 84)), .inl a2, .inr (.inr (.inl 91)), .inl a4, .inl x5, .inl (jw32 (x6 + 1)), .inl (jw32 ((jw32 (a4 * 6)) + x6)), .inl (jw32 (v6 - v8))] [] 229 jr0 g
            exact ih x5 (jw32 (x6 + 1)) (.inl (jw32 ((jw32 (a4 * 6)) + x6))) (.inl (jw32 (v6 - v8))) g (by omega) (by exact fun i h0 h1 hb => ⟨by have := (hx0 i h0 h1 hb).1; omega, (hx0 i h0 h1 hb).2⟩) (by omega) hf (by omega)
          · replace c17 : 0 ≤ jw32 (v6 - v8) := by first | exact c17 | exact Int.not_le.mp c17 | exact Int.not_lt.mp c17 | exact Decidable.not_not.mp c17
            refine st_gr jo_84 jr_84_2 ?_
            refine st_ai jo_86 (show 0 ≤ a2 by omega) (show a2 < ((40 : Nat) : Int) by omega) (fun v19 ev19 b20 => ?_)
            replace ev19 : v19 = g 86 a2 := ev19
            replace b20 := (jba_86 a2 _).1 b20
            refine st_gr jo_91 jr_91_2 ?_
            refine st_ai jo_94 (show 0 ≤ jw32 ((jw32 (a4 * 6)) + x6) by omega) (show jw32 ((jw32 (a4 * 6)) + x6) < ((18 : Nat) : Int) by omega) (fun v21 ev21 b22 => ?_)
            replace ev21 : v21 = g 94 (jw32 ((jw32 (a4 * 6)) + x6)) := ev21
            replace b22 := (jba_94 (jw32 ((jw32 (a4 * 6)) + x6)) _).1 b22
            have e23 : jw32 (v19 - v21) = v19 - v21 := j32e (by omega) (by omega)
            refine st_m2 rfl (fun v24 ev24 => ?_)
            refine st_gr jo_91 jr_91_3 ?_
            refine st_ai jo_95 (show 0 ≤ jw32 ((jw32 (a4 * 6)) + x6) by omega) (show jw32 ((jw32 (a4 * 6)) + x6) < ((18 : Nat) : Int) by omega) (fun v25 ev25 b26 => ?_)
            replace ev25 : v25 = g 95 (jw32 ((jw32 (a4 * 6)) + x6)) := ev25
            replace b26 := (jba_95 (jw32 ((jw32 (a4 * 6)) + x6)) _).1 b26
            refine And.intro (fun c27 => ?_) (fun c27 => ?_)
            · replace c27 : v25 < v24 := c27
              show jGo E l 109 229 229 _ 131 [.inr (.inr (.inl 97)), .inr (.inr (.inl 84)), .inl a2, .inr (.inr (.inl 91)), .inl a4, .inl x5, .inl x6, .inl (jw32 ((jw32 (a4 * 6)) + x6)), .inl (jw32 (v6 - v8))] [] 229 jr0 g
              refine jGo_blk qX6_fitting_131 ?_
              have e28 : jw32 (x6 + 1) = x6 + 1 := j32e (by omega) (by omega)
              show jGo E l 109 229 229 _ 6 [.inr (.inr (.inl 97)), .inr (.inr (.inl 84)), .inl a2, .inr (.inr (.inl 91)), .inl a4, .inl x5, .inl (jw32 (x6 + 1)), .inl (jw32 ((jw32 (a4 * 6)) + x6)), .inl (jw32 (v6 - v8))] [] 229 jr0 g
              exact ih x5 (jw32 (x6 + 1)) (.inl (jw32 ((jw32 (a4 * 6)) + x6))) (.inl (jw32 (v6 - v8))) g (by omega) (by exact fun i h0 h1 hb => ⟨by have := (hx0 i h0 h1 hb).1; omega, (hx0 i h0 h1 hb).2⟩) (by omega) hf (by omega)
            · replace c27 : v24 ≤ v25 := by first | exact c27 | exact Int.not_le.mp c27 | exact Int.not_lt.mp c27 | exact Decidable.not_not.mp c27
              have e29 := jshl1_5 x6 (by omega) (by omega)
              have e30 := jor63 x5 (jshl 1 x6) (by omega) (by omega) (by omega) (by omega)
              refine st_gr jo_97 jr_97_4 ?_
              have e31 : jw64 ((jw32 (v6 - v8)) * 4750104241) = (jw32 (v6 - v8)) * 4750104241 := j64e (by omega) (by omega)
              refine st_xl (by decide) jx_k6 (jx_l6 E) (show 0 ≤ x6 by omega) (show x6 < ((6 : Nat) : Int) by omega) (fun v32 ev32 => ?_)
              have bv32 : 1 ≤ v32 ∧ v32 ≤ 115856201 := by rw [ev32]; exact jx_w6 E x6 (by omega) (by omega)
              replace ev32 : v32 = jxv E (-6) x6 := ev32
              have e33 := jmul_b (a := a2) (b := v32) (A := 39) (B := 115856201) (by omega) (by omega) (by omega) (by omega)
              have e34 : jw64 (a2 * v32) = a2 * v32 := j64e (by omega) (by omega)
              have e35 : jw64 ((jw64 ((jw32 (v6 - v8)) * 4750104241)) + (jw64 (a2 * v32))) = (jw64 ((jw32 (v6 - v8)) * 4750104241)) + (jw64 (a2 * v32)) := j64e (by omega) (by omega)
              refine st_cs (na := 1) (st := [.inl x6, .inr (.inl (jw64 ((jw64 ((jw32 (v6 - v8)) * 4750104241)) + (jw64 (a2 * v32))))), .inl x6, .inr (.inr (.inl 100))]) rfl rfl rfl (c_X6_lackingNumber x6 g (by omega)) rfl ?_
              rintro _ _ _ ⟨rfl, rfl, t36, rfl, ht36, zt36⟩ kt36
              replace kt36 : -9223372036854775808 ≤ t36 ∧ t36 ≤ 9223372036854775807 := kt36
              replace ht36 : 19456426971176 ≤ t36 ∧ t36 ≤ 19461061219176 := ht36
              replace zt36 : t36 = jlk x6 := zt36
              have e38 : jw64 ((jw64 ((jw64 ((jw32 (v6 - v8)) * 4750104241)) + (jw64 (a2 * v32)))) - t36) = (jw64 ((jw64 ((jw32 (v6 - v8)) * 4750104241)) + (jw64 (a2 * v32)))) - t36 := j64e (by omega) (by omega)
              refine st_sl jo_100 (show 0 ≤ x6 by omega) (show x6 < ((6 : Nat) : Int) by omega) (fun hx => (jba_100 _ _).2 hx) (fun g39 eg39 => ?_)
              replace eg39 : g39 = jup g 100 x6 (jw64 ((jw64 ((jw64 ((jw32 (v6 - v8)) * 4750104241)) + (jw64 (a2 * v32)))) - t36)) := eg39
              have fg39 : jfr w_X6_fitting h g39 := jfr_up hf eg39 (by unfold w_X6_fitting; omega)
              show jGo E l 109 229 229 _ 131 [.inr (.inr (.inl 97)), .inr (.inr (.inl 84)), .inl a2, .inr (.inr (.inl 91)), .inl a4, .inl (jor x5 (jshl 1 x6)), .inl x6, .inl (jw32 ((jw32 (a4 * 6)) + x6)), .inl (jw32 (v6 - v8))] [] 229 jr0 g39
              refine jGo_blk qX6_fitting_131 ?_
              have e40 : jw32 (x6 + 1) = x6 + 1 := j32e (by omega) (by omega)
              show jGo E l 109 229 229 _ 6 [.inr (.inr (.inl 97)), .inr (.inr (.inl 84)), .inl a2, .inr (.inr (.inl 91)), .inl a4, .inl (jor x5 (jshl 1 x6)), .inl (jw32 (x6 + 1)), .inl (jw32 ((jw32 (a4 * 6)) + x6)), .inl (jw32 (v6 - v8))] [] 229 jr0 g39
              have hc41 : jCok (jor x5 (jshl 1 x6)) (jw32 (x6 + 1)) g39 := by
                intro i h0 h1 hb
                rcases jm_or x5 x6 i (by omega) (by omega) (by omega) (by omega) h0 h1 hb with q | q
                · have q2 := hx0 i h0 h1 q
                  rw [jup_o eg39 (by omega)]
                  exact ⟨by omega, q2.2⟩
                · subst q
                  rw [jup_s eg39]
                  have hk := jlk_b x6 h0 h1
                  exact ⟨by omega, by omega, by omega⟩
              exact ih (jor x5 (jshl 1 x6)) (jw32 (x6 + 1)) (.inl (jw32 ((jw32 (a4 * 6)) + x6))) (.inl (jw32 (v6 - v8))) g39 (by omega) (by exact hc41) (by omega) fg39 (by omega)
  refine jGo_blk qX6_fitting_0 ?_
  show jGo E l 109 229 229 _ 6 [.inr (.inr (.inl 97)), .inr (.inr (.inl 84)), .inl a2, .inr (.inr (.inl 91)), .inl a4, .inl 0, .inl 0, .inr (.inr (.inr ())), .inr (.inr (.inr ()))] [] 229 jr0 h
  exact (key 1000000000000) 0 0 (.inr (.inr (.inr ()))) (.inr (.inr (.inr ()))) h (by omega) (by exact fun i _ _ hb => absurd hb (by unfold jbt; simp)) (by omega) f0 (by omega)
