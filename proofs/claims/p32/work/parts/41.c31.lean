def w_X10_drink_119 (i k : Int) : Prop := (i = 120) ∨ (i = 119 ∧ k = 8)
def k_X10_drink_119 (a1 : Int) (h : JH) (v : Option JV) (r' g : JH) : Prop := r' = jr0 ∧ jfr w_X10_drink_119 h g ∧ v = none ∧ (g = jDk 119 120 a1 h)
set_option maxHeartbeats 4000000 in
theorem c_X10_drink_119 {E : JE} {l : Launch} (a1 : Int) (h : JH) : jMt E l 82 [.inr (.inr (.inl 119)), .inl a1] 229 jr0 h (k_X10_drink_119 a1 h) := by
  refine jMt0 (nL := 3) (ls := [.inr (.inr (.inl 119)), .inl a1, .inr (.inr (.inr ()))]) (by decide +kernel) (by decide +kernel) (by decide +kernel) rfl rfl ?_
  have f0 : jfr w_X10_drink_119 h h := jfr_rf _ _
  refine jGo_blk qX10_drink_0 ?_
  refine st_gr jo_119 jr_119_0 ?_
  refine st_ai jo_120 (show 0 ≤ 5 by omega) (show 5 < ((6 : Nat) : Int) by omega) (fun v1 ev1 b2 => ?_)
  replace ev1 : v1 = h 120 5 := ev1
  replace b2 := (jba_120 5 _).1 b2
  refine st_m0 rfl (fun v3 m1v3 m2v3 m3v3 => ?_)
  replace m1v3 : v3 ≤ a1 := m1v3; replace m2v3 : v3 ≤ v1 := m2v3; replace m3v3 : v3 = a1 ∨ v3 = v1 := m3v3
  have ev3 : v3 = jmin a1 v1 := by unfold jmin; omega
  refine st_gr jo_119 jr_119_0 ?_
  refine st_ai jo_120 (show 0 ≤ 5 by omega) (show 5 < ((6 : Nat) : Int) by omega) (fun v4 ev4 b5 => ?_)
  replace ev4 : v4 = h 120 5 := ev4
  replace b5 := (jba_120 5 _).1 b5
  refine st_si jo_120 (show 0 ≤ 5 by omega) (show 5 < ((6 : Nat) : Int) by omega) (fun hx => (jba_120 _ _).2 hx) (fun g6 eg6 => ?_)
  replace eg6 : g6 = jup h 120 5 (jw32 (v4 - v3)) := eg6
  have fg6 : jfr w_X10_drink_119 h g6 := jfr_up f0 eg6 (by unfold w_X10_drink_119; omega)
  have e7 : g6 120 5 = jw32 (v4 - v3) := jup_s eg6
  refine st_gi jo_119 (fun v8 ev8 b9 => ?_)
  replace ev8 : v8 = g6 119 8 := ev8
  replace b9 := (jbf_10_8 jo_119 _).1 b9
  have e10 : g6 119 8 = h 119 8 := jup_o eg6 (by omega)
  refine st_pi jo_119 (fun hx => (jbf_10_8 jo_119 _).2 hx) (fun g11 eg11 => ?_)
  replace eg11 : g11 = jup g6 119 8 (jw32 (v8 + (jw32 (a1 - v3)))) := eg11
  have fg11 : jfr w_X10_drink_119 h g11 := jfr_up fg6 eg11 (by unfold w_X10_drink_119; omega)
  have e12 : g11 119 8 = jw32 (v8 + (jw32 (a1 - v3))) := jup_s eg11
  exact ⟨rfl, rfl, fg11, rfl, (by subst eg11 ev8 eg6 ev4 ev3 ev1; unfold jDk; (repeat (first | rw [if_pos (by omega)] | rw [if_neg (by omega)])); all_goals ((try rfl)))⟩

def w_X10_passDay_119_113 (i k : Int) : Prop := (120 ≤ i ∧ i ≤ 121) ∨ (125 ≤ i ∧ i ≤ 173) ∨ (i = 119 ∧ 7 ≤ k ∧ k ≤ 10)
def k_X10_passDay_119_113 (a1 : Int) (a3 : Int) (h : JH) (v : Option JV) (r' g : JH) : Prop := r' = jr0 ∧ jfr w_X10_passDay_119_113 h g ∧ ∃ x : Int, v = some (.inl x) ∧ (True) ∧ ((x = jMc 121 126 h) ∧ g = jPD 119 120 121 126 124 125 114 115 116 117 a1 a3 h)
set_option maxHeartbeats 4000000 in
theorem c_X10_passDay_119_113 {E : JE} {l : Launch} (a1 : Int) (a3 : Int) (h : JH) (p1 : 0 ≤ a1 ∧ a1 ≤ 2400) (p3 : 0 ≤ a3 ∧ a3 ≤ 299) : jMt E l 83 [.inr (.inr (.inl 119)), .inl a1, .inr (.inr (.inl 113)), .inl a3, .inr (.inr (.inl 16))] 229 jr0 h (k_X10_passDay_119_113 a1 a3 h) := by
  refine jMt0 (nL := 6) (ls := [.inr (.inr (.inl 119)), .inl a1, .inr (.inr (.inl 113)), .inl a3, .inr (.inr (.inl 16)), .inr (.inr (.inr ()))]) (by decide +kernel) (by decide +kernel) (by decide +kernel) rfl rfl ?_
  have f0 : jfr w_X10_passDay_119_113 h h := jfr_rf _ _
  refine jGo_blk qX10_passDay_0 ?_
  refine st_pi jo_119 (fun hx => (jbf_10_10 jo_119 _).2 (show 0 ≤ 0 ∧ 0 ≤ 1 by omega)) (fun g1 eg1 => ?_)
  replace eg1 : g1 = jup h 119 10 0 := eg1
  have fg1 : jfr w_X10_passDay_119_113 h g1 := jfr_up f0 eg1 (by unfold w_X10_passDay_119_113; omega)
  have e2 : g1 119 10 = 0 := jup_s eg1
  refine st_cv (na := 2) (st := [.inr (.inr (.inl 16)), .inl a1, .inr (.inr (.inl 119))]) jo_119 rfl rfl rfl (c_X10_moveOn_119 a1 g1) rfl ?_
  rintro _ _ g4 ⟨rfl, ft3, t3, rfl, ht3, zt3⟩ kt3
  replace kt3 : -2147483648 ≤ t3 ∧ t3 ≤ 2147483647 := kt3
  have fg4 : jfr w_X10_passDay_119_113 h g4 := jfr_tr fg1 ft3 (fun i k q => by unfold w_X10_moveOn_119 at q; unfold w_X10_passDay_119_113; omega)
  replace zt3 : (t3 = jMc 121 126 g1) ∧ g4 = jit (jMvr 119 121 126 a1) 6 g1 := zt3
  have y5 := zt3.2
  refine st_cv (na := 1) (st := [.inr (.inr (.inl 16)), .inr (.inr (.inl 119))]) jo_119 rfl rfl rfl (c_X10_letIn_119 g4) rfl ?_
  rintro _ _ g7 ⟨rfl, ft6, rfl, zt6⟩ kt6
  have fg7 : jfr w_X10_passDay_119_113 h g7 := jfr_tr fg4 ft6 (fun i k q => by unfold w_X10_letIn_119 at q; unfold w_X10_passDay_119_113; omega)
  replace zt6 : g7 = jP2 119 121 126 124 g4 := zt6
  refine st_cv (na := 0) (st := [.inr (.inr (.inl 119))]) jo_119 rfl rfl rfl (c_X10_takeGoods_119 g7) rfl ?_
  rintro _ _ g9 ⟨rfl, ft8, rfl, zt8⟩ kt8
  have fg9 : jfr w_X10_passDay_119_113 h g9 := jfr_tr fg7 ft8 (fun i k q => by unfold w_X10_takeGoods_119 at q; unfold w_X10_passDay_119_113; omega)
  replace zt8 : g9 = jP3 119 120 126 124 g7 := zt8
  refine st_gr jo_113 jr_113_0 ?_
  have e10 : jw32 (a3 * 4) = a3 * 4 := j32e (by omega) (by omega)
  refine st_gr jo_113 jr_113_1 ?_
  refine st_ai jo_115 (show 0 ≤ a3 by omega) (show a3 < ((300 : Nat) : Int) by omega) (fun v11 ev11 b12 => ?_)
  replace ev11 : v11 = g9 115 a3 := ev11
  replace b12 := (jba_115 a3 _).1 b12
  refine st_cv (na := 3) (st := [.inl v11, .inl (jw32 (a3 * 4)), .inr (.inr (.inl 114)), .inr (.inr (.inl 119))]) jo_119 rfl rfl rfl (c_X10_doWork_119_114 (jw32 (a3 * 4)) v11 g9 (by omega)) rfl ?_
  rintro _ _ g14 ⟨rfl, ft13, rfl, zt13⟩ kt13
  have fg14 : jfr w_X10_passDay_119_113 h g14 := jfr_tr fg9 ft13 (fun i k q => by unfold w_X10_doWork_119_114 at q; unfold w_X10_passDay_119_113; omega)
  replace zt13 : g14 = jP4 119 125 126 124 114 (jw32 (a3 * 4)) v11 g9 := zt13
  refine st_gi jo_119 (fun v15 ev15 b16 => ?_)
  replace ev15 : v15 = g14 119 7 := ev15
  replace b16 := (jbf_10_7 jo_119 _).1 b16
  have e17 : g14 119 7 = g9 119 7 := ft13 119 7 (by unfold w_X10_doWork_119_114; omega)
  have e18 : g9 119 7 = g7 119 7 := ft8 119 7 (by unfold w_X10_takeGoods_119; omega)
  have e19 : g7 119 7 = g4 119 7 := ft6 119 7 (by unfold w_X10_letIn_119; omega)
  have e20 : g4 119 7 = g1 119 7 := ft3 119 7 (by unfold w_X10_moveOn_119; omega)
  have e21 : g1 119 7 = h 119 7 := jup_o eg1 (by omega)
  refine st_gr jo_113 jr_113_2 ?_
  refine st_ai jo_116 (show 0 ≤ a3 by omega) (show a3 < ((300 : Nat) : Int) by omega) (fun v22 ev22 b23 => ?_)
  replace ev22 : v22 = g14 116 a3 := ev22
  replace b23 := (jba_116 a3 _).1 b23
  refine st_pi jo_119 (fun hx => (jbf_10_7 jo_119 _).2 hx) (fun g24 eg24 => ?_)
  replace eg24 : g24 = jup g14 119 7 (jw32 (v15 + v22)) := eg24
  have fg24 : jfr w_X10_passDay_119_113 h g24 := jfr_up fg14 eg24 (by unfold w_X10_passDay_119_113; omega)
  have e25 : g24 119 7 = jw32 (v15 + v22) := jup_s eg24
  refine st_gr jo_113 jr_113_3 ?_
  refine st_ai jo_117 (show 0 ≤ a3 by omega) (show a3 < ((300 : Nat) : Int) by omega) (fun v26 ev26 b27 => ?_)
  replace ev26 : v26 = g24 117 a3 := ev26
  replace b27 := (jba_117 a3 _).1 b27
  refine st_cv (na := 1) (st := [.inl v26, .inr (.inr (.inl 119))]) jo_119 rfl rfl rfl (c_X10_drink_119 v26 g24) rfl ?_
  rintro _ _ g29 ⟨rfl, ft28, rfl, zt28⟩ kt28
  have fg29 : jfr w_X10_passDay_119_113 h g29 := jfr_tr fg24 ft28 (fun i k q => by unfold w_X10_drink_119 at q; unfold w_X10_passDay_119_113; omega)
  replace zt28 : g29 = jDk 119 120 v26 g24 := zt28
  have hc30 : t3 = jMc 121 126 h := by
    rw [zt3.1]; unfold jMc; rw [eg1, jup_ne (by omega), jup_ne (by omega), jup_ne (by omega)]
  exact st_r0 (ls := []) ⟨rfl, rfl, fg29, t3, rfl, trivial, (by refine ⟨hc30, ?_⟩; subst zt28 ev26 eg24 ev22 ev15 zt13 ev11 zt8 zt6 y5 eg1; unfold jPD jQ5 jQ4 jQ3 jP1 jP5; (repeat (first | rw [if_pos (by omega)] | rw [if_neg (by omega)])); all_goals ((try rw [e10]); (try rfl)))⟩

def k_X7_workIsAhead (a1 : Int) (h : JH) (v : Option JV) (r' g : JH) : Prop := r' = jr0 ∧ h = g ∧ ∃ x : Int, v = some (.inl x) ∧ (0 ≤ x ∧ x ≤ 1) ∧ (x = 1 ∨ (x = 0 ∧ ∀ i : Int, 0 ≤ i → i < h 119 6 → ¬ (h (126 + 3 * h 124 i) 3 = 1 ∧ ¬ h (126 + 3 * h 124 i) 7 = 0 ∧ 0 < h (126 + 3 * h 124 i) 6 ∧ a1 < h 118 (h (126 + 3 * h 124 i) 5))))
set_option maxHeartbeats 4000000 in
theorem c_X7_workIsAhead {E : JE} {l : Launch} (a1 : Int) (h : JH) : jMt E l 143 [.inr (.inr (.inl 111)), .inl a1] 229 jr0 h (k_X7_workIsAhead a1 h) := by
  refine jMt0 (nL := 4) (ls := [.inr (.inr (.inl 111)), .inl a1, .inr (.inr (.inr ())), .inr (.inr (.inr ()))]) (by decide +kernel) (by decide +kernel) (by decide +kernel) rfl rfl ?_
  have key : ∀ N : Nat, (∀ (x2 : Int) (x3 : JV), (0 ≤ x2 ∧ x2 ≤ 16) → (∀ i : Int, 0 ≤ i → i < x2 → ¬ (h (126 + 3 * h 124 i) 3 = 1 ∧ ¬ h (126 + 3 * h 124 i) 7 = 0 ∧ 0 < h (126 + 3 * h 124 i) 6 ∧ a1 < h 118 (h (126 + 3 * h 124 i) 5))) → (16 - x2) < (N : Int) → jGo E l 143 229 229 (jRK (k_X7_workIsAhead a1 h)) 2 [.inr (.inr (.inl 111)), .inl a1, .inl x2, x3] [] 229 jr0 h) := by
    intro N
    induction N with
    | zero => exact fun _ _ hi hx0 hN => absurd hN (by omega)
    | succ N ih =>
      intro x2 x3 hi hx0 hN
      refine jGo_blk qX7_workIsAhead_2 ?_
      refine st_gr jo_111 jr_111_6 ?_
      refine st_gi jo_119 (fun v1 ev1 b2 => ?_)
      replace ev1 : v1 = h 119 6 := ev1
      replace b2 := (jbf_10_6 jo_119 _).1 b2
      refine And.intro (fun c3 => ?_) (fun c3 => ?_)
      · replace c3 : v1 ≤ x2 := c3
        show jGo E l 143 229 229 _ 74 [.inr (.inr (.inl 111)), .inl a1, .inl x2, x3] [] 229 jr0 h
        refine jGo_blk qX7_workIsAhead_74 ?_
        exact st_r1 (ls := []) (show (0 : Int) = 0 ∨ (0 : Int) = 1 by omega) ⟨rfl, rfl, rfl, 0, rfl, (by omega), (by exact Or.inr ⟨rfl, fun i p1 p2 => hx0 i p1 (by omega)⟩)⟩
      · replace c3 : x2 < v1 := by first | exact c3 | exact Int.not_le.mp c3 | exact Int.not_lt.mp c3 | exact Decidable.not_not.mp c3
        refine st_gr jo_111 jr_111_6 ?_
        refine st_gr jo_119 jr_119_3 ?_
        refine st_gr jo_111 jr_111_6 ?_
        refine st_gr jo_119 jr_119_5 ?_
        refine st_ai jo_124 (show 0 ≤ x2 by omega) (show x2 < ((16 : Nat) : Int) by omega) (fun v4 ev4 b5 => ?_)
        replace ev4 : v4 = h 124 x2 := ev4
        replace b5 := (jba_124 x2 _).1 b5
        refine st_ar jo_123 (by decide) (show 0 ≤ v4 by omega) (show v4 < ((16 : Nat) : Int) by omega) (fun u6 eu6 => ?_)
        replace eu6 : u6 = jr0 123 v4 := eu6
        have qu6 : u6 = 126 + 3 * v4 := eu6.trans (jhul_123 v4 (by omega) (by omega)).1
        have hu6 : jHl u6 := by rw [eu6]; exact (jhul_123 v4 (by omega) (by omega)).2
        refine And.intro (show u6 ≠ -1 by omega) ?_
        refine st_gi hu6.1 (fun v7 ev7 b8 => ?_)
        replace ev7 : v7 = h u6 3 := ev7
        replace b8 := (jbf_4_3 hu6.1 _).1 b8
        refine And.intro (fun c9 => ?_) (fun c9 => ?_)
        · replace c9 : ¬ v7 = 1 := c9
          show jGo E l 143 229 229 _ 68 [.inr (.inr (.inl 111)), .inl a1, .inl x2, .inr (.inr (.inl u6))] [] 229 jr0 h
          refine jGo_blk qX7_workIsAhead_68 ?_
          have e10 : jw32 (x2 + 1) = x2 + 1 := j32e (by omega) (by omega)
          show jGo E l 143 229 229 _ 2 [.inr (.inr (.inl 111)), .inl a1, .inl (jw32 (x2 + 1)), .inr (.inr (.inl u6))] [] 229 jr0 h
          have hc11 : ∀ i : Int, 0 ≤ i → i < jw32 (x2 + 1) → ¬ (h (126 + 3 * h 124 i) 3 = 1 ∧ ¬ h (126 + 3 * h 124 i) 7 = 0 ∧ 0 < h (126 + 3 * h 124 i) 6 ∧ a1 < h 118 (h (126 + 3 * h 124 i) 5)) := by
            intro i p1 p2
            by_cases y : i = x2
            · rw [y, show h 124 x2 = v4 by omega, show 126 + 3 * v4 = u6 by omega]
              intro w
              omega
            · exact hx0 i p1 (by omega)
          exact ih (jw32 (x2 + 1)) (.inr (.inr (.inl u6))) (by omega) (by exact hc11) (by omega)
        · replace c9 : v7 = 1 := by first | exact c9 | exact Int.not_le.mp c9 | exact Int.not_lt.mp c9 | exact Decidable.not_not.mp c9
          refine st_gi hu6.1 (fun v12 ev12 b13 => ?_)
          replace ev12 : v12 = h u6 7 := ev12
          replace b13 := (jbf_4_7 hu6.1 _).1 b13
          refine And.intro (fun c14 => ?_) (fun c14 => ?_)
          · replace c14 : v12 = 0 := c14
            show jGo E l 143 229 229 _ 68 [.inr (.inr (.inl 111)), .inl a1, .inl x2, .inr (.inr (.inl u6))] [] 229 jr0 h
            refine jGo_blk qX7_workIsAhead_68 ?_
            have e15 : jw32 (x2 + 1) = x2 + 1 := j32e (by omega) (by omega)
            show jGo E l 143 229 229 _ 2 [.inr (.inr (.inl 111)), .inl a1, .inl (jw32 (x2 + 1)), .inr (.inr (.inl u6))] [] 229 jr0 h
            have hc16 : ∀ i : Int, 0 ≤ i → i < jw32 (x2 + 1) → ¬ (h (126 + 3 * h 124 i) 3 = 1 ∧ ¬ h (126 + 3 * h 124 i) 7 = 0 ∧ 0 < h (126 + 3 * h 124 i) 6 ∧ a1 < h 118 (h (126 + 3 * h 124 i) 5)) := by
              intro i p1 p2
              by_cases y : i = x2
              · rw [y, show h 124 x2 = v4 by omega, show 126 + 3 * v4 = u6 by omega]
                intro w
                omega
              · exact hx0 i p1 (by omega)
            exact ih (jw32 (x2 + 1)) (.inr (.inr (.inl u6))) (by omega) (by exact hc16) (by omega)
          · replace c14 : ¬ v12 = 0 := by first | exact c14 | exact Int.not_le.mp c14 | exact Int.not_lt.mp c14 | exact Decidable.not_not.mp c14
            refine st_gi hu6.1 (fun v17 ev17 b18 => ?_)
            replace ev17 : v17 = h u6 6 := ev17
            replace b18 := (jbf_4_6 hu6.1 _).1 b18
            refine And.intro (fun c19 => ?_) (fun c19 => ?_)
            · replace c19 : v17 ≤ 0 := c19
              show jGo E l 143 229 229 _ 68 [.inr (.inr (.inl 111)), .inl a1, .inl x2, .inr (.inr (.inl u6))] [] 229 jr0 h
              refine jGo_blk qX7_workIsAhead_68 ?_
              have e20 : jw32 (x2 + 1) = x2 + 1 := j32e (by omega) (by omega)
              show jGo E l 143 229 229 _ 2 [.inr (.inr (.inl 111)), .inl a1, .inl (jw32 (x2 + 1)), .inr (.inr (.inl u6))] [] 229 jr0 h
              have hc21 : ∀ i : Int, 0 ≤ i → i < jw32 (x2 + 1) → ¬ (h (126 + 3 * h 124 i) 3 = 1 ∧ ¬ h (126 + 3 * h 124 i) 7 = 0 ∧ 0 < h (126 + 3 * h 124 i) 6 ∧ a1 < h 118 (h (126 + 3 * h 124 i) 5)) := by
                intro i p1 p2
                by_cases y : i = x2
                · rw [y, show h 124 x2 = v4 by omega, show 126 + 3 * v4 = u6 by omega]
                  intro w
                  omega
                · exact hx0 i p1 (by omega)
              exact ih (jw32 (x2 + 1)) (.inr (.inr (.inl u6))) (by omega) (by exact hc21) (by omega)
            · replace c19 : 0 < v17 := by first | exact c19 | exact Int.not_le.mp c19 | exact Int.not_lt.mp c19 | exact Decidable.not_not.mp c19
              refine st_gr jo_111 jr_111_5 ?_
              refine st_gi hu6.1 (fun v22 ev22 b23 => ?_)
              replace ev22 : v22 = h u6 5 := ev22
              replace b23 := (jbf_4_5 hu6.1 _).1 b23
              refine st_ai jo_118 (show 0 ≤ v22 by omega) (show v22 < ((4 : Nat) : Int) by omega) (fun v24 ev24 b25 => ?_)
              replace ev24 : v24 = h 118 v22 := ev24
              replace b25 := (jba_118 v22 _).1 b25
              refine And.intro (fun c26 => ?_) (fun c26 => ?_)
              · replace c26 : v24 ≤ a1 := c26
                show jGo E l 143 229 229 _ 68 [.inr (.inr (.inl 111)), .inl a1, .inl x2, .inr (.inr (.inl u6))] [] 229 jr0 h
                refine jGo_blk qX7_workIsAhead_68 ?_
                have e27 : jw32 (x2 + 1) = x2 + 1 := j32e (by omega) (by omega)
                show jGo E l 143 229 229 _ 2 [.inr (.inr (.inl 111)), .inl a1, .inl (jw32 (x2 + 1)), .inr (.inr (.inl u6))] [] 229 jr0 h
                have hc28 : ∀ i : Int, 0 ≤ i → i < jw32 (x2 + 1) → ¬ (h (126 + 3 * h 124 i) 3 = 1 ∧ ¬ h (126 + 3 * h 124 i) 7 = 0 ∧ 0 < h (126 + 3 * h 124 i) 6 ∧ a1 < h 118 (h (126 + 3 * h 124 i) 5)) := by
                  intro i p1 p2
                  by_cases y : i = x2
                  · rw [y, show h 124 x2 = v4 by omega, show 126 + 3 * v4 = u6 by omega]
                    intro w
                    have w4 := w.2.2.2; rw [show h u6 5 = v22 by omega] at w4; omega
                  · exact hx0 i p1 (by omega)
                exact ih (jw32 (x2 + 1)) (.inr (.inr (.inl u6))) (by omega) (by exact hc28) (by omega)
              · replace c26 : a1 < v24 := by first | exact c26 | exact Int.not_le.mp c26 | exact Int.not_lt.mp c26 | exact Decidable.not_not.mp c26
                exact st_r1 (ls := []) (show (1 : Int) = 0 ∨ (1 : Int) = 1 by omega) ⟨rfl, rfl, rfl, 1, rfl, (by omega), (by exact Or.inl rfl)⟩
  refine jGo_blk qX7_workIsAhead_0 ?_
  show jGo E l 143 229 229 _ 2 [.inr (.inr (.inl 111)), .inl a1, .inl 0, .inr (.inr (.inr ()))] [] 229 jr0 h
  exact (key 1000000000000) 0 (.inr (.inr (.inr ()))) (by omega) (by exact fun i p1 p2 => absurd p2 (by omega)) (by omega)
