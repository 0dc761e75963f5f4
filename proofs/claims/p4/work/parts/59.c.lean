def w_X10_drink_119 (i k : Int) : Prop := (i = 120) ∨ (i = 119 ∧ k = 8)
def k_X10_drink_119 (a1 : Int) (h : JH) (v : Option JV) (r' g : JH) : Prop := r' = jr0 ∧ jfr w_X10_drink_119 h g ∧ v = none ∧ (True)
set_option maxHeartbeats 4000000 in
theorem c_X10_drink_119 {E : JE} {l : Launch} (a1 : Int) (h : JH) : jMt E l 82 [.inr (.inr (.inl 119)), .inl a1] 229 jr0 h (k_X10_drink_119 a1 h) := by
  refine jMt0 (nL := 3) (ls := [.inr (.inr (.inl 119)), .inl a1, .inr (.inr (.inr ()))]) (by decide +kernel) (by decide +kernel) (by decide +kernel) rfl rfl ?_
  have f0 : jfr w_X10_drink_119 h h := jfr_rf _ _
  refine jGo_blk qX10_drink_0 ?_
  refine st_gr jo_119 jr_119_0 ?_
  refine st_ai jo_120 (show 0 ≤ 5 by omega) (show 5 < ((6 : Nat) : Int) by omega) (fun v1 ev1 b2 => ?_)
  have ev1 : v1 = h 120 5 := ev1
  have b2 := (jba_120 5 _).1 b2
  refine st_m0 rfl (fun v3 m1v3 m2v3 m3v3 => ?_)
  have m1v3 : v3 ≤ a1 := m1v3; have m2v3 : v3 ≤ v1 := m2v3; have m3v3 : v3 = a1 ∨ v3 = v1 := m3v3
  refine st_gr jo_119 jr_119_0 ?_
  refine st_ai jo_120 (show 0 ≤ 5 by omega) (show 5 < ((6 : Nat) : Int) by omega) (fun v4 ev4 b5 => ?_)
  have ev4 : v4 = h 120 5 := ev4
  have b5 := (jba_120 5 _).1 b5
  refine st_si jo_120 (show 0 ≤ 5 by omega) (show 5 < ((6 : Nat) : Int) by omega) (fun hx => (jba_120 _ _).2 hx) (fun g6 eg6 => ?_)
  have eg6 : g6 = jup h 120 5 (jw32 (v4 - v3)) := eg6
  have fg6 : jfr w_X10_drink_119 h g6 := jfr_up f0 eg6 (by unfold w_X10_drink_119; omega)
  have e7 : g6 120 5 = jw32 (v4 - v3) := jup_s eg6
  refine st_gi jo_119 (fun v8 ev8 b9 => ?_)
  have ev8 : v8 = g6 119 8 := ev8
  have b9 := (jbf_10_8 jo_119 _).1 b9
  have e10 : g6 119 8 = h 119 8 := jup_o eg6 (by omega)
  refine st_pi jo_119 (fun hx => (jbf_10_8 jo_119 _).2 hx) (fun g11 eg11 => ?_)
  have eg11 : g11 = jup g6 119 8 (jw32 (v8 + (jw32 (a1 - v3)))) := eg11
  have fg11 : jfr w_X10_drink_119 h g11 := jfr_up fg6 eg11 (by unfold w_X10_drink_119; omega)
  have e12 : g11 119 8 = jw32 (v8 + (jw32 (a1 - v3))) := jup_s eg11
  exact ⟨rfl, rfl, fg11, rfl, trivial⟩

def w_X10_passDay_119_113 (i k : Int) : Prop := (120 ≤ i ∧ i ≤ 121) ∨ (125 ≤ i ∧ i ≤ 173) ∨ (i = 119 ∧ 7 ≤ k ∧ k ≤ 10)
def k_X10_passDay_119_113 (a1 : Int) (a3 : Int) (h : JH) (v : Option JV) (r' g : JH) : Prop := r' = jr0 ∧ jfr w_X10_passDay_119_113 h g ∧ ∃ x : Int, v = some (.inl x) ∧ (True) ∧ (True)
set_option maxHeartbeats 4000000 in
theorem c_X10_passDay_119_113 {E : JE} {l : Launch} (a1 : Int) (a3 : Int) (h : JH) (p1 : 0 ≤ a1 ∧ a1 ≤ 2400) (p3 : 0 ≤ a3 ∧ a3 ≤ 299) : jMt E l 83 [.inr (.inr (.inl 119)), .inl a1, .inr (.inr (.inl 113)), .inl a3, .inr (.inr (.inl 16))] 229 jr0 h (k_X10_passDay_119_113 a1 a3 h) := by
  refine jMt0 (nL := 6) (ls := [.inr (.inr (.inl 119)), .inl a1, .inr (.inr (.inl 113)), .inl a3, .inr (.inr (.inl 16)), .inr (.inr (.inr ()))]) (by decide +kernel) (by decide +kernel) (by decide +kernel) rfl rfl ?_
  have f0 : jfr w_X10_passDay_119_113 h h := jfr_rf _ _
  refine jGo_blk qX10_passDay_0 ?_
  refine st_pi jo_119 (fun hx => (jbf_10_10 jo_119 _).2 (show 0 ≤ 0 ∧ 0 ≤ 1 by omega)) (fun g1 eg1 => ?_)
  have eg1 : g1 = jup h 119 10 0 := eg1
  have fg1 : jfr w_X10_passDay_119_113 h g1 := jfr_up f0 eg1 (by unfold w_X10_passDay_119_113; omega)
  have e2 : g1 119 10 = 0 := jup_s eg1
  refine st_cv (na := 2) (st := [.inr (.inr (.inl 16)), .inl a1, .inr (.inr (.inl 119))]) jo_119 rfl rfl rfl (c_X10_moveOn_119 a1 g1) rfl ?_
  rintro _ _ g4 ⟨rfl, ft3, t3, rfl, ht3, zt3⟩ kt3
  have kt3 : -2147483648 ≤ t3 ∧ t3 ≤ 2147483647 := kt3
  have fg4 : jfr w_X10_passDay_119_113 h g4 := jfr_tr fg1 ft3 (fun i k q => by unfold w_X10_moveOn_119 at q; unfold w_X10_passDay_119_113; omega)
  refine st_cv (na := 1) (st := [.inr (.inr (.inl 16)), .inr (.inr (.inl 119))]) jo_119 rfl rfl rfl (c_X10_letIn_119 g4) rfl ?_
  rintro _ _ g6 ⟨rfl, ft5, rfl, zt5⟩ kt5
  have fg6 : jfr w_X10_passDay_119_113 h g6 := jfr_tr fg4 ft5 (fun i k q => by unfold w_X10_letIn_119 at q; unfold w_X10_passDay_119_113; omega)
  refine st_cv (na := 0) (st := [.inr (.inr (.inl 119))]) jo_119 rfl rfl rfl (c_X10_takeGoods_119 g6) rfl ?_
  rintro _ _ g8 ⟨rfl, ft7, rfl, zt7⟩ kt7
  have fg8 : jfr w_X10_passDay_119_113 h g8 := jfr_tr fg6 ft7 (fun i k q => by unfold w_X10_takeGoods_119 at q; unfold w_X10_passDay_119_113; omega)
  refine st_gr jo_113 jr_113_0 ?_
  have e9 : jw32 (a3 * 4) = a3 * 4 := j32e (by omega) (by omega)
  refine st_gr jo_113 jr_113_1 ?_
  refine st_ai jo_115 (show 0 ≤ a3 by omega) (show a3 < ((300 : Nat) : Int) by omega) (fun v10 ev10 b11 => ?_)
  have ev10 : v10 = g8 115 a3 := ev10
  have b11 := (jba_115 a3 _).1 b11
  refine st_cv (na := 3) (st := [.inl v10, .inl (jw32 (a3 * 4)), .inr (.inr (.inl 114)), .inr (.inr (.inl 119))]) jo_119 rfl rfl rfl (c_X10_doWork_119_114 (jw32 (a3 * 4)) v10 g8 (by omega)) rfl ?_
  rintro _ _ g13 ⟨rfl, ft12, rfl, zt12⟩ kt12
  have fg13 : jfr w_X10_passDay_119_113 h g13 := jfr_tr fg8 ft12 (fun i k q => by unfold w_X10_doWork_119_114 at q; unfold w_X10_passDay_119_113; omega)
  refine st_gi jo_119 (fun v14 ev14 b15 => ?_)
  have ev14 : v14 = g13 119 7 := ev14
  have b15 := (jbf_10_7 jo_119 _).1 b15
  have e16 : g13 119 7 = g8 119 7 := ft12 119 7 (by unfold w_X10_doWork_119_114; omega)
  have e17 : g8 119 7 = g6 119 7 := ft7 119 7 (by unfold w_X10_takeGoods_119; omega)
  have e18 : g6 119 7 = g4 119 7 := ft5 119 7 (by unfold w_X10_letIn_119; omega)
  have e19 : g4 119 7 = g1 119 7 := ft3 119 7 (by unfold w_X10_moveOn_119; omega)
  have e20 : g1 119 7 = h 119 7 := jup_o eg1 (by omega)
  refine st_gr jo_113 jr_113_2 ?_
  refine st_ai jo_116 (show 0 ≤ a3 by omega) (show a3 < ((300 : Nat) : Int) by omega) (fun v21 ev21 b22 => ?_)
  have ev21 : v21 = g13 116 a3 := ev21
  have b22 := (jba_116 a3 _).1 b22
  refine st_pi jo_119 (fun hx => (jbf_10_7 jo_119 _).2 hx) (fun g23 eg23 => ?_)
  have eg23 : g23 = jup g13 119 7 (jw32 (v14 + v21)) := eg23
  have fg23 : jfr w_X10_passDay_119_113 h g23 := jfr_up fg13 eg23 (by unfold w_X10_passDay_119_113; omega)
  have e24 : g23 119 7 = jw32 (v14 + v21) := jup_s eg23
  refine st_gr jo_113 jr_113_3 ?_
  refine st_ai jo_117 (show 0 ≤ a3 by omega) (show a3 < ((300 : Nat) : Int) by omega) (fun v25 ev25 b26 => ?_)
  have ev25 : v25 = g23 117 a3 := ev25
  have b26 := (jba_117 a3 _).1 b26
  refine st_cv (na := 1) (st := [.inl v25, .inr (.inr (.inl 119))]) jo_119 rfl rfl rfl (c_X10_drink_119 v25 g23) rfl ?_
  rintro _ _ g28 ⟨rfl, ft27, rfl, zt27⟩ kt27
  have fg28 : jfr w_X10_passDay_119_113 h g28 := jfr_tr fg23 ft27 (fun i k q => by unfold w_X10_drink_119 at q; unfold w_X10_passDay_119_113; omega)
  exact st_r0 (ls := []) ⟨rfl, rfl, fg28, t3, rfl, trivial, trivial⟩

def k_X7_workIsAhead (a1 : Int) (h : JH) (v : Option JV) (r' g : JH) : Prop := r' = jr0 ∧ h = g ∧ ∃ x : Int, v = some (.inl x) ∧ (0 ≤ x ∧ x ≤ 1) ∧ (True)
set_option maxHeartbeats 4000000 in
theorem c_X7_workIsAhead {E : JE} {l : Launch} (a1 : Int) (h : JH) : jMt E l 143 [.inr (.inr (.inl 111)), .inl a1] 229 jr0 h (k_X7_workIsAhead a1 h) := by
  refine jMt0 (nL := 4) (ls := [.inr (.inr (.inl 111)), .inl a1, .inr (.inr (.inr ())), .inr (.inr (.inr ()))]) (by decide +kernel) (by decide +kernel) (by decide +kernel) rfl rfl ?_
  have key : ∀ N : Nat, (∀ (x2 : Int) (x3 : JV), (0 ≤ x2 ∧ x2 ≤ 16) → (16 - x2) < (N : Int) → jGo E l 143 229 229 (jRK (k_X7_workIsAhead a1 h)) 2 [.inr (.inr (.inl 111)), .inl a1, .inl x2, x3] [] 229 jr0 h) := by
    intro N
    induction N with
    | zero => exact fun _ _ hi hN => absurd hN (by omega)
    | succ N ih =>
      intro x2 x3 hi hN
      refine jGo_blk qX7_workIsAhead_2 ?_
      refine st_gr jo_111 jr_111_6 ?_
      refine st_gi jo_119 (fun v1 ev1 b2 => ?_)
      have ev1 : v1 = h 119 6 := ev1
      have b2 := (jbf_10_6 jo_119 _).1 b2
      refine And.intro (fun c3 => ?_) (fun c3 => ?_)
      · have c3 : v1 ≤ x2 := c3
        show jGo E l 143 229 229 _ 74 [.inr (.inr (.inl 111)), .inl a1, .inl x2, x3] [] 229 jr0 h
        refine jGo_blk qX7_workIsAhead_74 ?_
        exact st_r1 (ls := []) (show (0 : Int) = 0 ∨ (0 : Int) = 1 by omega) ⟨rfl, rfl, rfl, 0, rfl, (by omega), trivial⟩
      · have c3 : x2 < v1 := by first | exact c3 | exact Int.not_le.mp c3 | exact Int.not_lt.mp c3 | exact Decidable.not_not.mp c3
        refine st_gr jo_111 jr_111_6 ?_
        refine st_gr jo_119 jr_119_3 ?_
        refine st_gr jo_111 jr_111_6 ?_
        refine st_gr jo_119 jr_119_5 ?_
        refine st_ai jo_124 (show 0 ≤ x2 by omega) (show x2 < ((16 : Nat) : Int) by omega) (fun v4 ev4 b5 => ?_)
        have ev4 : v4 = h 124 x2 := ev4
        have b5 := (jba_124 x2 _).1 b5
        refine st_ar jo_123 (by decide) (show 0 ≤ v4 by omega) (show v4 < ((16 : Nat) : Int) by omega) (fun u6 eu6 => ?_)
        have eu6 : u6 = jr0 123 v4 := eu6
        have qu6 : u6 = 126 + 3 * v4 := eu6.trans (jhul_123 v4 (by omega) (by omega)).1
        have hu6 : jHl u6 := by rw [eu6]; exact (jhul_123 v4 (by omega) (by omega)).2
        refine And.intro (show u6 ≠ -1 by omega) ?_
        refine st_gi hu6.1 (fun v7 ev7 b8 => ?_)
        have ev7 : v7 = h u6 3 := ev7
        have b8 := (jbf_4_3 hu6.1 _).1 b8
        refine And.intro (fun c9 => ?_) (fun c9 => ?_)
        · have c9 : ¬ v7 = 1 := c9
          show jGo E l 143 229 229 _ 68 [.inr (.inr (.inl 111)), .inl a1, .inl x2, .inr (.inr (.inl u6))] [] 229 jr0 h
          refine jGo_blk qX7_workIsAhead_68 ?_
          have e10 : jw32 (x2 + 1) = x2 + 1 := j32e (by omega) (by omega)
          show jGo E l 143 229 229 _ 2 [.inr (.inr (.inl 111)), .inl a1, .inl (jw32 (x2 + 1)), .inr (.inr (.inl u6))] [] 229 jr0 h
          exact ih (jw32 (x2 + 1)) (.inr (.inr (.inl u6))) (by omega) (by omega)
        · have c9 : v7 = 1 := by first | exact c9 | exact Int.not_le.mp c9 | exact Int.not_lt.mp c9 | exact Decidable.not_not.mp c9
          refine st_gi hu6.1 (fun v11 ev11 b12 => ?_)
          have ev11 : v11 = h u6 7 := ev11
          have b12 := (jbf_4_7 hu6.1 _).1 b12
          refine And.intro (fun c13 => ?_) (fun c13 => ?_)
          · have c13 : v11 = 0 := c13
            show jGo E l 143 229 229 _ 68 [.inr (.inr (.inl 111)), .inl a1, .inl x2, .inr (.inr (.inl u6))] [] 229 jr0 h
            refine jGo_blk qX7_workIsAhead_68 ?_
            have e14 : jw32 (x2 + 1) = x2 + 1 := j32e (by omega) (by omega)
            show jGo E l 143 229 229 _ 2 [.inr (.inr (.inl 111)), .inl a1, .inl (jw32 (x2 + 1)), .inr (.inr (.inl u6))] [] 229 jr0 h
            exact ih (jw32 (x2 + 1)) (.inr (.inr (.inl u6))) (by omega) (by omega)
          · have c13 : ¬ v11 = 0 := by first | exact c13 | exact Int.not_le.mp c13 | exact Int.not_lt.mp c13 | exact Decidable.not_not.mp c13
            refine st_gi hu6.1 (fun v15 ev15 b16 => ?_)
            have ev15 : v15 = h u6 6 := ev15
            have b16 := (jbf_4_6 hu6.1 _).1 b16
            refine And.intro (fun c17 => ?_) (fun c17 => ?_)
            · have c17 : v15 ≤ 0 := c17
              show jGo E l 143 229 229 _ 68 [.inr (.inr (.inl 111)), .inl a1, .inl x2, .inr (.inr (.inl u6))] [] 229 jr0 h
              refine jGo_blk qX7_workIsAhead_68 ?_
              have e18 : jw32 (x2 + 1) = x2 + 1 := j32e (by omega) (by omega)
              show jGo E l 143 229 229 _ 2 [.inr (.inr (.inl 111)), .inl a1, .inl (jw32 (x2 + 1)), .inr (.inr (.inl u6))] [] 229 jr0 h
              exact ih (jw32 (x2 + 1)) (.inr (.inr (.inl u6))) (by omega) (by omega)
            · have c17 : 0 < v15 := by first | exact c17 | exact Int.not_le.mp c17 | exact Int.not_lt.mp c17 | exact Decidable.not_not.mp c17
              refine st_gr jo_111 jr_111_5 ?_
              refine st_gi hu6.1 (fun v19 ev19 b20 => ?_)
              have ev19 : v19 = h u6 5 := ev19
              have b20 := (jbf_4_5 hu6.1 _).1 b20
              refine st_ai jo_118 (show 0 ≤ v19 by omega) (show v19 < ((4 : Nat) : Int) by omega) (fun v21 ev21 b22 => ?_)
              have ev21 : v21 = h 118 v19 := ev21
              have b22 := (jba_118 v19 _).1 b22
              refine And.intro (fun c23 => ?_) (fun c23 => ?_)
              · have c23 : v21 ≤ a1 := c23
                show jGo E l 143 229 229 _ 68 [.inr (.inr (.inl 111)), .inl a1, .inl x2, .inr (.inr (.inl u6))] [] 229 jr0 h
                refine jGo_blk qX7_workIsAhead_68 ?_
                have e24 : jw32 (x2 + 1) = x2 + 1 := j32e (by omega) (by omega)
                show jGo E l 143 229 229 _ 2 [.inr (.inr (.inl 111)), .inl a1, .inl (jw32 (x2 + 1)), .inr (.inr (.inl u6))] [] 229 jr0 h
                exact ih (jw32 (x2 + 1)) (.inr (.inr (.inl u6))) (by omega) (by omega)
              · have c23 : a1 < v21 := by first | exact c23 | exact Int.not_le.mp c23 | exact Int.not_lt.mp c23 | exact Decidable.not_not.mp c23
                exact st_r1 (ls := []) (show (1 : Int) = 0 ∨ (1 : Int) = 1 by omega) ⟨rfl, rfl, rfl, 1, rfl, (by omega), trivial⟩
  refine jGo_blk qX7_workIsAhead_0 ?_
  show jGo E l 143 229 229 _ 2 [.inr (.inr (.inl 111)), .inl a1, .inl 0, .inr (.inr (.inr ()))] [] 229 jr0 h
  exact (key 1000000000000) 0 (.inr (.inr (.inr ()))) (by omega) (by omega)

def w_X7_tryOut_29_34 (i k : Int) : Prop := (120 ≤ i ∧ i ≤ 121) ∨ (124 ≤ i ∧ i ≤ 173) ∨ (i = 119 ∧ 6 ≤ k ∧ k ≤ 10)
def k_X7_tryOut_29_34 (a3 : Int) (h : JH) (v : Option JV) (r' g : JH) : Prop := r' = jr0 ∧ jfr w_X7_tryOut_29_34 h g ∧ v = none ∧ (True)
set_option maxHeartbeats 4000000 in
theorem c_X7_tryOut_29_34 {E : JE} {l : Launch} (a3 : Int) (h : JH) (p3 : 0 ≤ a3 ∧ a3 ≤ 16) : jMt E l 144 [.inr (.inr (.inl 111)), .inr (.inr (.inl 29)), .inr (.inr (.inl 34)), .inl a3, .inr (.inr (.inl 16))] 229 jr0 h (k_X7_tryOut_29_34 a3 h) := by
  refine jMt0 (nL := 8) (ls := [.inr (.inr (.inl 111)), .inr (.inr (.inl 29)), .inr (.inr (.inl 34)), .inl a3, .inr (.inr (.inl 16)), .inr (.inr (.inr ())), .inr (.inr (.inr ())), .inr (.inr (.inr ()))]) (by decide +kernel) (by decide +kernel) (by decide +kernel) rfl rfl ?_
  have f0 : jfr w_X7_tryOut_29_34 h h := jfr_rf _ _
  have key : ∀ N : Nat, (∀ (x5 : Int) (x6 : Int) (x7 : Int) (g : JH), (0 ≤ x6 ∧ x6 ≤ 1 ∧ 0 ≤ x7 ∧ x7 ≤ 300) → jfr w_X7_tryOut_29_34 h g → (300 - x7) < (N : Int) → jGo E l 144 229 229 (jRK (k_X7_tryOut_29_34 a3 h)) 19 [.inr (.inr (.inl 111)), .inr (.inr (.inl 29)), .inr (.inr (.inl 34)), .inl a3, .inr (.inr (.inl 16)), .inl x5, .inl x6, .inl x7] [] 229 jr0 g) := by
    intro N
    induction N with
    | zero => exact fun _ _ _ _ hi _ hN => absurd hN (by omega)
    | succ N ih =>
      intro x5 x6 x7 g hi hf hN
      refine jGo_ok (fun hls _ => ?_)
      have rx5 : -2147483648 ≤ x5 ∧ x5 ≤ 2147483647 := hls (.inl x5) (by simp)
      refine jGo_blk qX7_tryOut_19 ?_
      refine And.intro (fun c1 => ?_) (fun c1 => ?_)
      · have c1 : 300 ≤ x7 := c1
        show jGo E l 144 229 229 _ 99 [.inr (.inr (.inl 111)), .inr (.inr (.inl 29)), .inr (.inr (.inl 34)), .inl a3, .inr (.inr (.inl 16)), .inl x5, .inl x6, .inl x7] [] 229 jr0 g
        refine jGo_blk qX7_tryOut_99 ?_
        exact ⟨rfl, rfl, hf, rfl, trivial⟩
      · have c1 : x7 < 300 := by first | exact c1 | exact Int.not_le.mp c1 | exact Int.not_lt.mp c1 | exact Decidable.not_not.mp c1
        refine And.intro (fun c2 => ?_) (fun c2 => ?_)
        · have c2 : a3 ≤ x5 := c2
          show jGo E l 144 229 229 _ 99 [.inr (.inr (.inl 111)), .inr (.inr (.inl 29)), .inr (.inr (.inl 34)), .inl a3, .inr (.inr (.inl 16)), .inl x5, .inl x6, .inl x7] [] 229 jr0 g
          refine jGo_blk qX7_tryOut_99 ?_
          exact ⟨rfl, rfl, hf, rfl, trivial⟩
        · have c2 : x5 < a3 := by first | exact c2 | exact Int.not_le.mp c2 | exact Int.not_lt.mp c2 | exact Decidable.not_not.mp c2
          refine And.intro (fun c3 => ?_) (fun c3 => ?_)
          · have c3 : x6 = 0 := c3
            show jGo E l 144 229 229 _ 99 [.inr (.inr (.inl 111)), .inr (.inr (.inl 29)), .inr (.inr (.inl 34)), .inl a3, .inr (.inr (.inl 16)), .inl x5, .inl x6, .inl x7] [] 229 jr0 g
            refine jGo_blk qX7_tryOut_99 ?_
            exact ⟨rfl, rfl, hf, rfl, trivial⟩
          · have c3 : ¬ x6 = 0 := by first | exact c3 | exact Int.not_le.mp c3 | exact Int.not_lt.mp c3 | exact Decidable.not_not.mp c3
            refine st_gr jo_111 jr_111_6 ?_
            refine st_gi jo_111 (fun v4 ev4 b5 => ?_)
            have ev4 : v4 = g 111 3 := ev4
            have b5 := (jbf_7_3 jo_111 _).1 b5
            have e6 : jw32 (v4 + 1) = v4 + 1 := j32e (by omega) (by omega)
            have e7 : jw32 ((jw32 (v4 + 1)) + x7) = (jw32 (v4 + 1)) + x7 := j32e (by omega) (by omega)
            refine st_gr jo_111 jr_111_4 ?_
            refine st_cv (na := 4) (st := [.inr (.inr (.inl 16)), .inl x7, .inr (.inr (.inl 113)), .inl (jw32 ((jw32 (v4 + 1)) + x7)), .inr (.inr (.inl 119)), .inl x5]) jo_119 rfl rfl rfl (c_X10_passDay_119_113 (jw32 ((jw32 (v4 + 1)) + x7)) x7 g (by omega) (by omega)) rfl ?_
            rintro _ _ g9 ⟨rfl, ft8, t8, rfl, ht8, zt8⟩ kt8
            have kt8 : -2147483648 ≤ t8 ∧ t8 ≤ 2147483647 := kt8
            have fg9 : jfr w_X7_tryOut_29_34 h g9 := jfr_tr hf ft8 (fun i k q => by unfold w_X10_passDay_119_113 at q; unfold w_X7_tryOut_29_34; omega)
            refine st_gr jo_111 jr_111_6 ?_
            refine st_gi jo_119 (fun v10 ev10 b11 => ?_)
            have ev10 : v10 = g9 119 10 := ev10
            have b11 := (jbf_10_10 jo_119 _).1 b11
            refine And.intro (fun c12 => ?_) (fun c12 => ?_)
            · have c12 : ¬ v10 = 0 := c12
              show jGo E l 144 229 229 _ 86 [.inr (.inr (.inl 111)), .inr (.inr (.inl 29)), .inr (.inr (.inl 34)), .inl a3, .inr (.inr (.inl 16)), .inl (jw32 (x5 + t8)), .inl x6, .inl x7] [] 229 jr0 g9
              refine jGo_blk qX7_tryOut_86 ?_
              show jGo E l 144 229 229 _ 91 [.inr (.inr (.inl 111)), .inr (.inr (.inl 29)), .inr (.inr (.inl 34)), .inl a3, .inr (.inr (.inl 16)), .inl (jw32 (x5 + t8)), .inl x6, .inl x7] [.inl 1] 229 jr0 g9
              refine jGo_blk qX7_tryOut_91 ?_
              have e13 : jw32 (x7 + 1) = x7 + 1 := j32e (by omega) (by omega)
              show jGo E l 144 229 229 _ 19 [.inr (.inr (.inl 111)), .inr (.inr (.inl 29)), .inr (.inr (.inl 34)), .inl a3, .inr (.inr (.inl 16)), .inl (jw32 (x5 + t8)), .inl 1, .inl (jw32 (x7 + 1))] [] 229 jr0 g9
              exact ih (jw32 (x5 + t8)) 1 (jw32 (x7 + 1)) g9 (by omega) fg9 (by omega)
            · have c12 : v10 = 0 := by first | exact c12 | exact Int.not_le.mp c12 | exact Int.not_lt.mp c12 | exact Decidable.not_not.mp c12
              refine st_cv (na := 1) (st := [.inl x7, .inr (.inr (.inl 111))]) jo_111 rfl rfl rfl (c_X7_workIsAhead x7 g9) rfl ?_
              rintro _ _ _ ⟨rfl, rfl, t14, rfl, ht14, zt14⟩ kt14
              have kt14 : -2147483648 ≤ t14 ∧ t14 ≤ 2147483647 := kt14
              have ht14 : 0 ≤ t14 ∧ t14 ≤ 1 := ht14
              refine And.intro (fun c16 => ?_) (fun c16 => ?_)
              · have c16 : t14 = 0 := c16
                show jGo E l 144 229 229 _ 90 [.inr (.inr (.inl 111)), .inr (.inr (.inl 29)), .inr (.inr (.inl 34)), .inl a3, .inr (.inr (.inl 16)), .inl (jw32 (x5 + t8)), .inl x6, .inl x7] [] 229 jr0 g9
                refine jGo_blk qX7_tryOut_90 ?_
                show jGo E l 144 229 229 _ 91 [.inr (.inr (.inl 111)), .inr (.inr (.inl 29)), .inr (.inr (.inl 34)), .inl a3, .inr (.inr (.inl 16)), .inl (jw32 (x5 + t8)), .inl x6, .inl x7] [.inl 0] 229 jr0 g9
                refine jGo_blk qX7_tryOut_91 ?_
                have e17 : jw32 (x7 + 1) = x7 + 1 := j32e (by omega) (by omega)
                show jGo E l 144 229 229 _ 19 [.inr (.inr (.inl 111)), .inr (.inr (.inl 29)), .inr (.inr (.inl 34)), .inl a3, .inr (.inr (.inl 16)), .inl (jw32 (x5 + t8)), .inl 0, .inl (jw32 (x7 + 1))] [] 229 jr0 g9
                exact ih (jw32 (x5 + t8)) 0 (jw32 (x7 + 1)) g9 (by omega) fg9 (by omega)
              · have c16 : ¬ t14 = 0 := by first | exact c16 | exact Int.not_le.mp c16 | exact Int.not_lt.mp c16 | exact Decidable.not_not.mp c16
                show jGo E l 144 229 229 _ 86 [.inr (.inr (.inl 111)), .inr (.inr (.inl 29)), .inr (.inr (.inl 34)), .inl a3, .inr (.inr (.inl 16)), .inl (jw32 (x5 + t8)), .inl x6, .inl x7] [] 229 jr0 g9
                refine jGo_blk qX7_tryOut_86 ?_
                show jGo E l 144 229 229 _ 91 [.inr (.inr (.inl 111)), .inr (.inr (.inl 29)), .inr (.inr (.inl 34)), .inl a3, .inr (.inr (.inl 16)), .inl (jw32 (x5 + t8)), .inl x6, .inl x7] [.inl 1] 229 jr0 g9
                refine jGo_blk qX7_tryOut_91 ?_
                have e18 : jw32 (x7 + 1) = x7 + 1 := j32e (by omega) (by omega)
                show jGo E l 144 229 229 _ 19 [.inr (.inr (.inl 111)), .inr (.inr (.inl 29)), .inr (.inr (.inl 34)), .inl a3, .inr (.inr (.inl 16)), .inl (jw32 (x5 + t8)), .inl 1, .inl (jw32 (x7 + 1))] [] 229 jr0 g9
                exact ih (jw32 (x5 + t8)) 1 (jw32 (x7 + 1)) g9 (by omega) fg9 (by omega)
  refine jGo_blk qX7_tryOut_0 ?_
  refine st_gr jo_111 jr_111_6 ?_
  refine st_cv (na := 3) (st := [.inl a3, .inr (.inr (.inl 34)), .inr (.inr (.inl 29)), .inr (.inr (.inl 119))]) jo_119 rfl rfl rfl (c_X10_become_119_29_34 a3 h (by omega)) rfl ?_
  rintro _ _ g20 ⟨rfl, ft19, rfl, zt19⟩ kt19
  have fg20 : jfr w_X7_tryOut_29_34 h g20 := jfr_tr f0 ft19 (fun i k q => by unfold w_X10_become_119_29_34 at q; unfold w_X7_tryOut_29_34; omega)
  show jGo E l 144 229 229 _ 19 [.inr (.inr (.inl 111)), .inr (.inr (.inl 29)), .inr (.inr (.inl 34)), .inl a3, .inr (.inr (.inl 16)), .inl 0, .inl 1, .inl 0] [] 229 jr0 g20
  exact (key 1000000000000) 0 1 0 g20 (by omega) fg20 (by omega)

def w_X7_readyDay_29 (i k : Int) : Prop := (i = 34) ∨ (120 ≤ i ∧ i ≤ 121) ∨ (124 ≤ i ∧ i ≤ 174) ∨ (i = 29 ∧ k = 6) ∨ (i = 111 ∧ k = 10) ∨ (i = 119 ∧ 6 ≤ k ∧ k ≤ 10)
def k_X7_readyDay_29 (a1 : Int) (h : JH) (v : Option JV) (r' g : JH) : Prop := r' = jr0 ∧ jfr w_X7_readyDay_29 h g ∧ ∃ x : Int, v = some (.inl x) ∧ (True) ∧ (True)
set_option maxHeartbeats 4000000 in
theorem c_X7_readyDay_29 {E : JE} {l : Launch} (a1 : Int) (h : JH) (p1 : 0 ≤ a1 ∧ a1 ≤ 15) : jMt E l 145 [.inr (.inr (.inl 111)), .inl a1, .inr (.inr (.inl 29)), .inr (.inr (.inl 16))] 229 jr0 h (k_X7_readyDay_29 a1 h) := by
  refine jMt0 (nL := 5) (ls := [.inr (.inr (.inl 111)), .inl a1, .inr (.inr (.inl 29)), .inr (.inr (.inl 16)), .inr (.inr (.inr ()))]) (by decide +kernel) (by decide +kernel) (by decide +kernel) rfl rfl ?_
  have f0 : jfr w_X7_readyDay_29 h h := jfr_rf _ _
  have key : ∀ N : Nat, (∀ (x4 : Int) (g : JH), (0 ≤ x4 ∧ x4 ≤ 16) → jfr w_X7_readyDay_29 h g → (16 - x4) < (N : Int) → jGo E l 145 229 229 (jRK (k_X7_readyDay_29 a1 h)) 28 [.inr (.inr (.inl 111)), .inl a1, .inr (.inr (.inl 29)), .inr (.inr (.inl 16)), .inl x4] [] 229 jr0 g) := by
    intro N
    induction N with
    | zero => exact fun _ _ hi _ hN => absurd hN (by omega)
    | succ N ih =>
      intro x4 g hi hf hN
      refine jGo_blk qX7_readyDay_28 ?_
      refine st_gi jo_29 (fun v1 ev1 b2 => ?_)
      have ev1 : v1 = g 29 6 := ev1
      have b2 := (jbf_10_6 jo_29 _).1 b2
      refine And.intro (fun c3 => ?_) (fun c3 => ?_)
      · have c3 : v1 ≤ x4 := c3
        show jGo E l 145 229 229 _ 73 [.inr (.inr (.inl 111)), .inl a1, .inr (.inr (.inl 29)), .inr (.inr (.inl 16)), .inl x4] [] 229 jr0 g
        refine jGo_blk qX7_readyDay_73 ?_
        refine st_pi jo_111 (fun hx => (jbf_7_10 jo_111 _).2 (show 0 ≤ 1 ∧ 1 ≤ 1 by omega)) (fun g4 eg4 => ?_)
        have eg4 : g4 = jup g 111 10 1 := eg4
        have fg4 : jfr w_X7_readyDay_29 h g4 := jfr_up hf eg4 (by unfold w_X7_readyDay_29; omega)
        have e5 : g4 111 10 = 1 := jup_s eg4
        show jGo E l 145 229 229 _ 78 [.inr (.inr (.inl 111)), .inl a1, .inr (.inr (.inl 29)), .inr (.inr (.inl 16)), .inl x4] [] 229 jr0 g4
        refine jGo_blk qX7_readyDay_78 ?_
        refine st_gr jo_111 jr_111_7 ?_
        refine st_ai jo_174 (show 0 ≤ a1 by omega) (show a1 < ((16 : Nat) : Int) by omega) (fun v6 ev6 b7 => ?_)
        have ev6 : v6 = g4 174 a1 := ev6
        have b7 := (jba_174 a1 _).1 b7
        exact st_r0 (ls := []) ⟨rfl, rfl, fg4, v6, rfl, trivial, trivial⟩
      · have c3 : x4 < v1 := by first | exact c3 | exact Int.not_le.mp c3 | exact Int.not_lt.mp c3 | exact Decidable.not_not.mp c3
        refine st_gr jo_111 jr_111_7 ?_
        refine st_gr jo_29 jr_29_5 ?_
        refine st_ai jo_34 (show 0 ≤ x4 by omega) (show x4 < ((16 : Nat) : Int) by omega) (fun v8 ev8 b9 => ?_)
        have ev8 : v8 = g 34 x4 := ev8
        have b9 := (jba_34 x4 _).1 b9
        refine st_gr jo_111 jr_111_6 ?_
        refine st_gr jo_119 jr_119_3 ?_
        refine st_gr jo_29 jr_29_5 ?_
        refine st_ai jo_34 (show 0 ≤ x4 by omega) (show x4 < ((16 : Nat) : Int) by omega) (fun v10 ev10 b11 => ?_)
        have ev10 : v10 = g 34 x4 := ev10
        have b11 := (jba_34 x4 _).1 b11
        refine st_ar jo_123 (by decide) (show 0 ≤ v10 by omega) (show v10 < ((16 : Nat) : Int) by omega) (fun u12 eu12 => ?_)
        have eu12 : u12 = jr0 123 v10 := eu12
        have qu12 : u12 = 126 + 3 * v10 := eu12.trans (jhul_123 v10 (by omega) (by omega)).1
        have hu12 : jHl u12 := by rw [eu12]; exact (jhul_123 v10 (by omega) (by omega)).2
        refine st_gi hu12.1 (fun v13 ev13 b14 => ?_)
        have ev13 : v13 = g u12 9 := ev13
        have b14 := (jbf_4_9 hu12.1 _).1 b14
        refine st_si jo_174 (show 0 ≤ v8 by omega) (show v8 < ((16 : Nat) : Int) by omega) (fun hx => (jba_174 _ _).2 hx) (fun g15 eg15 => ?_)
        have eg15 : g15 = jup g 174 v8 v13 := eg15
        have fg15 : jfr w_X7_readyDay_29 h g15 := jfr_up hf eg15 (by unfold w_X7_readyDay_29; omega)
        have e16 : g15 174 v8 = v13 := jup_s eg15
        have e17 : jw32 (x4 + 1) = x4 + 1 := j32e (by omega) (by omega)
        show jGo E l 145 229 229 _ 28 [.inr (.inr (.inl 111)), .inl a1, .inr (.inr (.inl 29)), .inr (.inr (.inl 16)), .inl (jw32 (x4 + 1))] [] 229 jr0 g15
        exact ih (jw32 (x4 + 1)) g15 (by omega) fg15 (by omega)
  refine jGo_blk qX7_readyDay_0 ?_
  refine st_gi jo_111 (fun v18 ev18 b19 => ?_)
  have ev18 : v18 = h 111 10 := ev18
  have b19 := (jbf_7_10 jo_111 _).1 b19
  refine And.intro (fun c20 => ?_) (fun c20 => ?_)
  · have c20 : ¬ v18 = 0 := c20
    show jGo E l 145 229 229 _ 78 [.inr (.inr (.inl 111)), .inl a1, .inr (.inr (.inl 29)), .inr (.inr (.inl 16)), .inr (.inr (.inr ()))] [] 229 jr0 h
    refine jGo_blk qX7_readyDay_78 ?_
    refine st_gr jo_111 jr_111_7 ?_
    refine st_ai jo_174 (show 0 ≤ a1 by omega) (show a1 < ((16 : Nat) : Int) by omega) (fun v21 ev21 b22 => ?_)
    have ev21 : v21 = h 174 a1 := ev21
    have b22 := (jba_174 a1 _).1 b22
    exact st_r0 (ls := []) ⟨rfl, rfl, f0, v21, rfl, trivial, trivial⟩
  · have c20 : v18 = 0 := by first | exact c20 | exact Int.not_le.mp c20 | exact Int.not_lt.mp c20 | exact Decidable.not_not.mp c20
    refine st_cv (na := 0) (st := [.inr (.inr (.inl 29))]) jo_29 rfl rfl rfl (c_X10_lineUp_29 h) rfl ?_
    rintro _ _ g24 ⟨rfl, ft23, rfl, zt23⟩ kt23
    have fg24 : jfr w_X7_readyDay_29 h g24 := jfr_tr f0 ft23 (fun i k q => by unfold w_X10_lineUp_29 at q; unfold w_X7_readyDay_29; omega)
    refine st_gr jo_29 jr_29_5 ?_
    refine st_gi jo_29 (fun v25 ev25 b26 => ?_)
    have ev25 : v25 = g24 29 6 := ev25
    have b26 := (jbf_10_6 jo_29 _).1 b26
    refine st_cv (na := 4) (st := [.inr (.inr (.inl 16)), .inl v25, .inr (.inr (.inl 34)), .inr (.inr (.inl 29)), .inr (.inr (.inl 111))]) jo_111 rfl rfl rfl (c_X7_tryOut_29_34 v25 g24 (by omega)) rfl ?_
    rintro _ _ g28 ⟨rfl, ft27, rfl, zt27⟩ kt27
    have fg28 : jfr w_X7_readyDay_29 h g28 := jfr_tr fg24 ft27 (fun i k q => by unfold w_X7_tryOut_29_34 at q; unfold w_X7_readyDay_29; omega)
    show jGo E l 145 229 229 _ 28 [.inr (.inr (.inl 111)), .inl a1, .inr (.inr (.inl 29)), .inr (.inr (.inl 16)), .inl 0] [] 229 jr0 g28
    exact (key 1000000000000) 0 g28 (by omega) fg28 (by omega)

def w_X11_readyAhead (i k : Int) : Prop := (i = 15) ∨ (i = 34) ∨ (114 ≤ i ∧ i ≤ 118) ∨ (120 ≤ i ∧ i ≤ 121) ∨ (124 ≤ i ∧ i ≤ 174) ∨ (i = 11 ∧ k = 5) ∨ (i = 29 ∧ k = 6) ∨ (i = 111 ∧ k = 3) ∨ (i = 111 ∧ 9 ≤ k ∧ k ≤ 10) ∨ (i = 119 ∧ 6 ≤ k ∧ k ≤ 10)
def k_X11_readyAhead (a1 : Int) (h : JH) (v : Option JV) (r' g : JH) : Prop := r' = jr0 ∧ jfr w_X11_readyAhead h g ∧ ∃ x : Int, v = some (.inl x) ∧ (True) ∧ (True)
set_option maxHeartbeats 4000000 in
theorem c_X11_readyAhead {E : JE} {l : Launch} (a1 : Int) (h : JH) (p1 : 0 ≤ a1 ∧ a1 ≤ 15) : jMt E l 146 [.inr (.inr (.inl 0)), .inl a1] 229 jr0 h (k_X11_readyAhead a1 h) := by
  refine jMt0 (nL := 2) (ls := [.inr (.inr (.inl 0)), .inl a1]) (by decide +kernel) (by decide +kernel) (by decide +kernel) rfl rfl ?_
  have f0 : jfr w_X11_readyAhead h h := jfr_rf _ _
  refine jGo_blk qX11_readyAhead_0 ?_
  refine st_gr jo_0 jr_0_11 ?_
  refine st_gi jo_0 (fun v1 ev1 b2 => ?_)
  have ev1 : v1 = h 0 0 := ev1
  have b2 := (jbf_11_0 jo_0 _).1 b2
  refine st_gr jo_0 jr_0_2 ?_
  refine st_gr jo_0 jr_0_3 ?_
  refine st_cv (na := 3) (st := [.inr (.inr (.inl 11)), .inr (.inr (.inl 2)), .inl v1, .inr (.inr (.inl 111))]) jo_111 rfl rfl rfl (c_X7_standAt v1 h (by omega)) rfl ?_
  rintro _ _ g4 ⟨rfl, ft3, rfl, zt3⟩ kt3
  have fg4 : jfr w_X11_readyAhead h g4 := jfr_tr f0 ft3 (fun i k q => by unfold w_X7_standAt at q; unfold w_X11_readyAhead; omega)
  refine st_gr jo_0 jr_0_11 ?_
  refine st_gr jo_0 jr_0_5 ?_
  refine st_gr jo_0 jr_0_4 ?_
  refine st_cv (na := 3) (st := [.inr (.inr (.inl 16)), .inr (.inr (.inl 29)), .inl a1, .inr (.inr (.inl 111))]) jo_111 rfl rfl rfl (c_X7_readyDay_29 a1 g4 (by omega)) rfl ?_
  rintro _ _ g6 ⟨rfl, ft5, t5, rfl, ht5, zt5⟩ kt5
  have kt5 : -2147483648 ≤ t5 ∧ t5 ≤ 2147483647 := kt5
  have fg6 : jfr w_X11_readyAhead h g6 := jfr_tr fg4 ft5 (fun i k q => by unfold w_X7_readyDay_29 at q; unfold w_X11_readyAhead; omega)
  exact st_r0 (ls := []) ⟨rfl, rfl, fg6, t5, rfl, trivial, trivial⟩

def w_X11_ready (i k : Int) : Prop := (i = 1) ∨ (i = 15) ∨ (i = 34) ∨ (114 ≤ i ∧ i ≤ 118) ∨ (120 ≤ i ∧ i ≤ 121) ∨ (124 ≤ i ∧ i ≤ 174) ∨ (i = 11 ∧ k = 5) ∨ (i = 29 ∧ k = 6) ∨ (i = 111 ∧ k = 3) ∨ (i = 111 ∧ 9 ≤ k ∧ k ≤ 10) ∨ (i = 119 ∧ 6 ≤ k ∧ k ≤ 10)
def k_X11_ready (a1 : Int) (h : JH) (v : Option JV) (r' g : JH) : Prop := r' = jr0 ∧ jfr w_X11_ready h g ∧ ∃ x : Int, v = some (.inl x) ∧ (True) ∧ (True)
set_option maxHeartbeats 4000000 in
theorem c_X11_ready {E : JE} {l : Launch} (a1 : Int) (h : JH) : jMt E l 147 [.inr (.inr (.inl 0)), .inl a1] 229 jr0 h (k_X11_ready a1 h) := by
  refine jMt0 (nL := 3) (ls := [.inr (.inr (.inl 0)), .inl a1, .inr (.inr (.inr ()))]) (by decide +kernel) (by decide +kernel) (by decide +kernel) rfl rfl ?_
  have f0 : jfr w_X11_ready h h := jfr_rf _ _
  refine jGo_blk qX11_ready_0 ?_
  refine st_cv (na := 1) (st := [.inl a1, .inr (.inr (.inl 0))]) jo_0 rfl rfl rfl (c_X11_isHull a1 h) rfl ?_
  rintro _ _ _ ⟨rfl, rfl, t1, rfl, ht1, zt1⟩ kt1
  have kt1 : -2147483648 ≤ t1 ∧ t1 ≤ 2147483647 := kt1
  have ht1 : 0 ≤ t1 ∧ t1 ≤ 1 := ht1
  have zt1 : (t1 = 1 ∧ 0 ≤ a1 ∧ a1 < h 29 4 ∧ h 29 4 ≤ 16) ∨ (t1 = 0 ∧ ¬ (0 ≤ a1 ∧ a1 < h 29 4)) := zt1
  refine And.intro (fun c3 => ?_) (fun c3 => ?_)
  · have c3 : ¬ t1 = 0 := c3
    show jGo E l 147 229 229 _ 12 [.inr (.inr (.inl 0)), .inl a1, .inr (.inr (.inr ()))] [] 229 jr0 h
    refine jGo_blk qX11_ready_12 ?_
    refine st_gr jo_0 jr_0_5 ?_
    refine st_gr jo_29 jr_29_3 ?_
    refine st_ar jo_33 (by decide) (show 0 ≤ a1 by omega) (show a1 < ((16 : Nat) : Int) by omega) (fun u4 eu4 => ?_)
    have eu4 : u4 = jr0 33 a1 := eu4
    have qu4 : u4 = 36 + 3 * a1 := eu4.trans (jhul_33 a1 (by omega) (by omega)).1
    have hu4 : jHl u4 := by rw [eu4]; exact (jhul_33 a1 (by omega) (by omega)).2
    refine st_gi hu4.1 (fun v5 ev5 b6 => ?_)
    have ev5 : v5 = h u4 3 := ev5
    have b6 := (jbf_4_3 hu4.1 _).1 b6
    refine And.intro (fun c7 => ?_) (fun c7 => ?_)
    · have c7 : ¬ v5 = 3 := c7
      show jGo E l 147 229 229 _ 33 [.inr (.inr (.inl 0)), .inl a1, .inr (.inr (.inr ()))] [] 229 jr0 h
      refine jGo_blk qX11_ready_33 ?_
      show jGo E l 147 229 229 _ 34 [.inr (.inr (.inl 0)), .inl a1, .inr (.inr (.inr ()))] [.inl 0] 229 jr0 h
      refine jGo_blk qX11_ready_34 ?_
      refine And.intro (fun c8 => ?_) (fun c8 => ?_)
      · have c8 : (0 : Int) = 0 := c8
        show jGo E l 147 229 229 _ 45 [.inr (.inr (.inl 0)), .inl a1, .inl 0] [] 229 jr0 h
        refine jGo_blk qX11_ready_45 ?_
        refine st_gr jo_0 jr_0_5 ?_
        refine st_gr jo_29 jr_29_3 ?_
        refine st_ar jo_33 (by decide) (show 0 ≤ a1 by omega) (show a1 < ((16 : Nat) : Int) by omega) (fun u9 eu9 => ?_)
        have eu9 : u9 = jr0 33 a1 := eu9
        have qu9 : u9 = 36 + 3 * a1 := eu9.trans (jhul_33 a1 (by omega) (by omega)).1
        have hu9 : jHl u9 := by rw [eu9]; exact (jhul_33 a1 (by omega) (by omega)).2
        refine st_gi hu9.1 (fun v10 ev10 b11 => ?_)
        have ev10 : v10 = h u9 3 := ev10
        have b11 := (jbf_4_3 hu9.1 _).1 b11
        refine And.intro (fun c12 => ?_) (fun c12 => ?_)
        · have c12 : ¬ v10 = 2 := c12
          show jGo E l 147 229 229 _ 74 [.inr (.inr (.inl 0)), .inl a1, .inl 0] [] 229 jr0 h
          refine jGo_blk qX11_ready_74 ?_
          refine st_cv (na := 1) (st := [.inl a1, .inr (.inr (.inl 0))]) jo_0 rfl rfl rfl (c_X11_readyAhead a1 h (by omega)) rfl ?_
          rintro _ _ g14 ⟨rfl, ft13, t13, rfl, ht13, zt13⟩ kt13
          have kt13 : -2147483648 ≤ t13 ∧ t13 ≤ 2147483647 := kt13
          have fg14 : jfr w_X11_ready h g14 := jfr_tr f0 ft13 (fun i k q => by unfold w_X11_readyAhead at q; unfold w_X11_ready; omega)
          exact st_r0 (ls := []) ⟨rfl, rfl, fg14, t13, rfl, trivial, trivial⟩
        · have c12 : v10 = 2 := by first | exact c12 | exact Int.not_le.mp c12 | exact Int.not_lt.mp c12 | exact Decidable.not_not.mp c12
          refine st_gr jo_0 jr_0_5 ?_
          refine st_gr jo_29 jr_29_3 ?_
          refine st_ar jo_33 (by decide) (show 0 ≤ a1 by omega) (show a1 < ((16 : Nat) : Int) by omega) (fun u15 eu15 => ?_)
          have eu15 : u15 = jr0 33 a1 := eu15
          have qu15 : u15 = 36 + 3 * a1 := eu15.trans (jhul_33 a1 (by omega) (by omega)).1
          have hu15 : jHl u15 := by rw [eu15]; exact (jhul_33 a1 (by omega) (by omega)).2
          refine st_gi hu15.1 (fun v16 ev16 b17 => ?_)
          have ev16 : v16 = h u15 9 := ev16
          have b17 := (jbf_4_9 hu15.1 _).1 b17
          exact st_r0 (ls := []) ⟨rfl, rfl, f0, v16, rfl, trivial, trivial⟩
      · have c8 : ¬ (0 : Int) = 0 := by first | exact c8 | exact Int.not_le.mp c8 | exact Int.not_lt.mp c8 | exact Decidable.not_not.mp c8
        exfalso; omega
    · have c7 : v5 = 3 := by first | exact c7 | exact Int.not_le.mp c7 | exact Int.not_lt.mp c7 | exact Decidable.not_not.mp c7
      show jGo E l 147 229 229 _ 34 [.inr (.inr (.inl 0)), .inl a1, .inr (.inr (.inr ()))] [.inl (-3)] 229 jr0 h
      refine jGo_blk qX11_ready_34 ?_
      refine And.intro (fun c18 => ?_) (fun c18 => ?_)
      · have c18 : (-3 : Int) = 0 := c18
        exfalso; omega
      · have c18 : ¬ (-3 : Int) = 0 := by first | exact c18 | exact Int.not_le.mp c18 | exact Int.not_lt.mp c18 | exact Decidable.not_not.mp c18
        refine st_cv (na := 1) (st := [.inl (-3), .inr (.inr (.inl 0))]) jo_0 rfl rfl rfl (c_X11_refused (-3) h (by omega)) rfl ?_
        rintro _ _ g20 ⟨rfl, ft19, t19, rfl, ht19, zt19⟩ kt19
        have kt19 : -2147483648 ≤ t19 ∧ t19 ≤ 2147483647 := kt19
        have ht19 : -7 ≤ t19 ∧ t19 ≤ -1 := ht19
        have fg20 : jfr w_X11_ready h g20 := jfr_tr f0 ft19 (fun i k q => by unfold w_X11_refused at q; unfold w_X11_ready; omega)
        have zt19 : t19 = (-3 : Int) := zt19
        exact st_r0 (ls := []) ⟨rfl, rfl, fg20, t19, rfl, trivial, trivial⟩
  · have c3 : t1 = 0 := by first | exact c3 | exact Int.not_le.mp c3 | exact Int.not_lt.mp c3 | exact Decidable.not_not.mp c3
    show jGo E l 147 229 229 _ 34 [.inr (.inr (.inl 0)), .inl a1, .inr (.inr (.inr ()))] [.inl (-1)] 229 jr0 h
    refine jGo_blk qX11_ready_34 ?_
    refine And.intro (fun c21 => ?_) (fun c21 => ?_)
    · have c21 : (-1 : Int) = 0 := c21
      exfalso; omega
    · have c21 : ¬ (-1 : Int) = 0 := by first | exact c21 | exact Int.not_le.mp c21 | exact Int.not_lt.mp c21 | exact Decidable.not_not.mp c21
      refine st_cv (na := 1) (st := [.inl (-1), .inr (.inr (.inl 0))]) jo_0 rfl rfl rfl (c_X11_refused (-1) h (by omega)) rfl ?_
      rintro _ _ g23 ⟨rfl, ft22, t22, rfl, ht22, zt22⟩ kt22
      have kt22 : -2147483648 ≤ t22 ∧ t22 ≤ 2147483647 := kt22
      have ht22 : -7 ≤ t22 ∧ t22 ≤ -1 := ht22
      have fg23 : jfr w_X11_ready h g23 := jfr_tr f0 ft22 (fun i k q => by unfold w_X11_refused at q; unfold w_X11_ready; omega)
      have zt22 : t22 = (-1 : Int) := zt22
      exact st_r0 (ls := []) ⟨rfl, rfl, fg23, t22, rfl, trivial, trivial⟩

def w_X12_swap (i k : Int) : Prop := (i = 224)
def k_X12_swap (a1 : Int) (a2 : Int) (a3 : Int) (h : JH) (v : Option JV) (r' g : JH) : Prop := r' = jr0 ∧ jfr w_X12_swap h g ∧ ∃ x : Int, v = some (.inl x) ∧ (True) ∧ (jbd 224 a1 x ∧ (a3 = 0 → x = a2 ∧ g = jup h 224 a1 a2) ∧ (¬ a3 = 0 → x = h 224 a1 ∧ g = h) ∧ (∀ j : Int, j ≠ a1 → g 224 j = h 224 j))
set_option maxHeartbeats 4000000 in
theorem c_X12_swap {E : JE} {l : Launch} (a1 : Int) (a2 : Int) (a3 : Int) (h : JH) (p1 : 0 ≤ a1 ∧ a1 ≤ 399) (p3 : a3 = 0 ∨ a3 = 1) (q0 : jR32 a2 → jbd 224 a1 a2) : jMt E l 148 [.inr (.inr (.inl 176)), .inl a1, .inl a2, .inl a3] 229 jr0 h (k_X12_swap a1 a2 a3 h) := by
  refine jMt0 (nL := 4) (ls := [.inr (.inr (.inl 176)), .inl a1, .inl a2, .inl a3]) (by decide +kernel) (by decide +kernel) (by decide +kernel) rfl rfl ?_
  have f0 : jfr w_X12_swap h h := jfr_rf _ _
  refine jGo_blk qX12_swap_0 ?_
  refine And.intro (fun c1 => ?_) (fun c1 => ?_)
  · have c1 : ¬ a3 = 0 := c1
    show jGo E l 148 229 229 _ 11 [.inr (.inr (.inl 176)), .inl a1, .inl a2, .inl a3] [] 229 jr0 h
    refine jGo_blk qX12_swap_11 ?_
    refine st_gr jo_176 jr_176_59 ?_
    refine st_ai jo_224 (show 0 ≤ a1 by omega) (show a1 < ((400 : Nat) : Int) by omega) (fun v2 ev2 b3 => ?_)
    have ev2 : v2 = h 224 a1 := ev2
    exact st_r0 (ls := []) ⟨rfl, rfl, f0, v2, rfl, trivial, (by exact ⟨by assumption, fun q => absurd q (by assumption), fun _ => ⟨ev2, rfl⟩, fun _ _ => rfl⟩)⟩
  · have c1 : a3 = 0 := by first | exact c1 | exact Int.not_le.mp c1 | exact Int.not_lt.mp c1 | exact Decidable.not_not.mp c1
    refine st_gr jo_176 jr_176_59 ?_
    refine st_si jo_224 (show 0 ≤ a1 by omega) (show a1 < ((400 : Nat) : Int) by omega) (q0) (fun g4 eg4 => ?_)
    have eg4 : g4 = jup h 224 a1 a2 := eg4
    have fg4 : jfr w_X12_swap h g4 := jfr_up f0 eg4 (by unfold w_X12_swap; omega)
    have e5 : g4 224 a1 = a2 := jup_s eg4
    show jGo E l 148 229 229 _ 11 [.inr (.inr (.inl 176)), .inl a1, .inl a2, .inl a3] [] 229 jr0 g4
    refine jGo_blk qX12_swap_11 ?_
    refine st_gr jo_176 jr_176_59 ?_
    refine st_ai jo_224 (show 0 ≤ a1 by omega) (show a1 < ((400 : Nat) : Int) by omega) (fun v6 ev6 b7 => ?_)
    have ev6 : v6 = g4 224 a1 := ev6
    exact st_r0 (ls := []) ⟨rfl, rfl, fg4, v6, rfl, trivial, (by exact ⟨by assumption, fun _ => ⟨ev6.trans (jup_s eg4), eg4⟩, fun q => absurd (by assumption) q, fun j hj => jup_o eg4 (by omega)⟩)⟩

def w_X12_aside (i k : Int) : Prop := (i = 181) ∨ (i = 190) ∨ (192 ≤ i ∧ i ≤ 200) ∨ (i = 202) ∨ (224 ≤ i ∧ i ≤ 225) ∨ (i = 176 ∧ k = 0) ∨ (i = 176 ∧ 30 ≤ k ∧ k ≤ 32)
def k_X12_aside (a1 : Int) (h : JH) (v : Option JV) (r' g : JH) : Prop := r' = jr0 ∧ jfr w_X12_aside h g ∧ v = none ∧ ((a1 = 0 → g 224 0 = h 176 0 ∧ g 176 0 = h 176 0) ∧ (¬ a1 = 0 → g 176 0 = h 224 0))
set_option maxHeartbeats 4000000 in
theorem c_X12_aside {E : JE} {l : Launch} (a1 : Int) (h : JH) (p1 : a1 = 0 ∨ a1 = 1) : jMt E l 149 [.inr (.inr (.inl 176)), .inl a1] 229 jr0 h (k_X12_aside a1 h) := by
  refine jMt0 (nL := 5) (ls := [.inr (.inr (.inl 176)), .inl a1, .inr (.inr (.inr ())), .inr (.inr (.inr ())), .inr (.inr (.inr ()))]) (by decide +kernel) (by decide +kernel) (by decide +kernel) rfl rfl ?_
  have f0 : jfr w_X12_aside h h := jfr_rf _ _
  have key : ∀ N : Nat, (∀ (x2 : Int) (g : JH), (0 ≤ x2 ∧ x2 ≤ 6) → ((a1 = 0 → g 224 0 = h 176 0 ∧ g 176 0 = h 176 0) ∧ (¬ a1 = 0 → g 176 0 = h 224 0)) → jfr w_X12_aside h g → ((6 - x2) + 40000) * 1000000 + 999999 < (N : Int) → jGo E l 149 229 229 (jRK (k_X12_aside a1 h)) 58 [.inr (.inr (.inl 176)), .inl a1, .inl x2, .inr (.inr (.inr ())), .inr (.inr (.inr ()))] [] 229 jr0 g) ∧
      (∀ (x2 : Int) (x3 : JV) (x4 : JV) (g : JH), (0 ≤ x2 ∧ x2 ≤ 16) → ((a1 = 0 → g 224 0 = h 176 0 ∧ g 176 0 = h 176 0) ∧ (¬ a1 = 0 → g 176 0 = h 224 0)) → jfr w_X12_aside h g → ((16 - x2) + 20000) * 1000000 + 999999 < (N : Int) → jGo E l 149 229 229 (jRK (k_X12_aside a1 h)) 113 [.inr (.inr (.inl 176)), .inl a1, .inl x2, x3, x4] [] 229 jr0 g) ∧
      (∀ (x2 : Int) (x3 : Int) (x4 : Int) (g : JH), (0 ≤ x2 ∧ x2 ≤ 15 ∧ 20 ≤ x3 ∧ x3 ≤ 260 ∧ 0 ≤ x4 ∧ x4 ≤ 6) → ((a1 = 0 → g 224 0 = h 176 0 ∧ g 176 0 = h 176 0) ∧ (¬ a1 = 0 → g 176 0 = h 224 0)) → (x3 = 20 + 16 * x2) → jfr w_X12_aside h g → ((16 - x2) + 20000) * 1000000 + (6 - x4) < (N : Int) → jGo E l 149 229 229 (jRK (k_X12_aside a1 h)) 307 [.inr (.inr (.inl 176)), .inl a1, .inl x2, .inl x3, .inl x4] [] 229 jr0 g) ∧
      (∀ (x2 : Int) (x3 : JV) (x4 : JV) (g : JH), (0 ≤ x2 ∧ x2 ≤ 96) → ((a1 = 0 → g 224 0 = h 176 0 ∧ g 176 0 = h 176 0) ∧ (¬ a1 = 0 → g 176 0 = h 224 0)) → jfr w_X12_aside h g → (96 - x2) * 1000000 + 999999 < (N : Int) → jGo E l 149 229 229 (jRK (k_X12_aside a1 h)) 364 [.inr (.inr (.inl 176)), .inl a1, .inl x2, x3, x4] [] 229 jr0 g) := by
    intro N
    induction N with
    | zero => exact ⟨fun _ _ hi hx0 _ hN => absurd hN (by omega), fun _ _ _ _ hi hx0 _ hN => absurd hN (by omega), fun _ _ _ _ hi hx0 hx1 _ hN => absurd hN (by omega), fun _ _ _ _ hi hx0 _ hN => absurd hN (by omega)⟩
    | succ N ih =>
      refine ⟨?_, ?_, ?_, ?_⟩
      · intro x2 g hi hx0 hf hN
        refine jGo_blk qX12_aside_58 ?_
        refine And.intro (fun c1 => ?_) (fun c1 => ?_)
        · have c1 : 6 ≤ x2 := c1
          show jGo E l 149 229 229 _ 111 [.inr (.inr (.inl 176)), .inl a1, .inl x2, .inr (.inr (.inr ())), .inr (.inr (.inr ()))] [] 229 jr0 g
          refine jGo_blk qX12_aside_111 ?_
          show jGo E l 149 229 229 _ 113 [.inr (.inr (.inl 176)), .inl a1, .inl 0, .inr (.inr (.inr ())), .inr (.inr (.inr ()))] [] 229 jr0 g
          exact ih.2.1 0 (.inr (.inr (.inr ()))) (.inr (.inr (.inr ()))) g (by omega) (by omega) hf (by omega)
        · have c1 : x2 < 6 := by first | exact c1 | exact Int.not_le.mp c1 | exact Int.not_lt.mp c1 | exact Decidable.not_not.mp c1
          refine st_gr jo_176 jr_176_5 ?_
          have e2 : jw32 (4 + x2) = 4 + x2 := j32e (by omega) (by omega)
          refine st_gr jo_176 jr_176_5 ?_
          refine st_ai jo_181 (show 0 ≤ x2 by omega) (show x2 < ((6 : Nat) : Int) by omega) (fun v3 ev3 b4 => ?_)
          have ev3 : v3 = g 181 x2 := ev3
          have b4 := (jba_181 x2 _).1 b4
          refine st_cv (na := 3) (st := [.inl a1, .inl v3, .inl (jw32 (4 + x2)), .inr (.inr (.inl 176)), .inl x2, .inr (.inr (.inl 181))]) jo_176 rfl rfl rfl (c_X12_swap (jw32 (4 + x2)) v3 a1 g (by omega) (by omega) (fun hx => (jk_df (by omega) (by omega) (by omega) _).2 hx)) rfl ?_
          rintro _ _ g6 ⟨rfl, ft5, t5, rfl, ht5, zt5⟩ kt5
          have kt5 : -2147483648 ≤ t5 ∧ t5 ≤ 2147483647 := kt5
          have fg6 : jfr w_X12_aside h g6 := jfr_tr hf ft5 (fun i k q => by unfold w_X12_swap at q; unfold w_X12_aside; omega)
          have zt5 : jbd 224 (jw32 (4 + x2)) t5 ∧ (a1 = 0 → t5 = v3 ∧ g6 = jup g 224 (jw32 (4 + x2)) v3) ∧ (¬ a1 = 0 → t5 = g 224 (jw32 (4 + x2)) ∧ g6 = g) ∧ (∀ j : Int, j ≠ (jw32 (4 + x2)) → g6 224 j = g 224 j) := zt5
          have jst5 : g6 224 0 = g 224 0 := zt5.2.2.2 0 (by omega)
          refine st_si jo_181 (show 0 ≤ x2 by omega) (show x2 < ((6 : Nat) : Int) by omega) (fun hx => (jba_181 _ _).2 hx) (fun g7 eg7 => ?_)
          have eg7 : g7 = jup g6 181 x2 t5 := eg7
          have fg7 : jfr w_X12_aside h g7 := jfr_up fg6 eg7 (by unfold w_X12_aside; omega)
          have e8 : g7 181 x2 = t5 := jup_s eg7
          refine st_gr jo_176 jr_176_28 ?_
          have e9 : jw32 (10 + x2) = 10 + x2 := j32e (by omega) (by omega)
          refine st_gr jo_176 jr_176_28 ?_
          refine st_ai jo_202 (show 0 ≤ x2 by omega) (show x2 < ((6 : Nat) : Int) by omega) (fun v10 ev10 b11 => ?_)
          have ev10 : v10 = g7 202 x2 := ev10
          have b11 := (jba_202 x2 _).1 b11
          refine st_cv (na := 3) (st := [.inl a1, .inl v10, .inl (jw32 (10 + x2)), .inr (.inr (.inl 176)), .inl x2, .inr (.inr (.inl 202))]) jo_176 rfl rfl rfl (c_X12_swap (jw32 (10 + x2)) v10 a1 g7 (by omega) (by omega) (fun hx => (jk_bas (by omega) _).2 (by omega))) rfl ?_
          rintro _ _ g13 ⟨rfl, ft12, t12, rfl, ht12, zt12⟩ kt12
          have kt12 : -2147483648 ≤ t12 ∧ t12 ≤ 2147483647 := kt12
          have fg13 : jfr w_X12_aside h g13 := jfr_tr fg7 ft12 (fun i k q => by unfold w_X12_swap at q; unfold w_X12_aside; omega)
          have zt12 : jbd 224 (jw32 (10 + x2)) t12 ∧ (a1 = 0 → t12 = v10 ∧ g13 = jup g7 224 (jw32 (10 + x2)) v10) ∧ (¬ a1 = 0 → t12 = g7 224 (jw32 (10 + x2)) ∧ g13 = g7) ∧ (∀ j : Int, j ≠ (jw32 (10 + x2)) → g13 224 j = g7 224 j) := zt12
          have jct12 := (jk_bas (by omega) _).1 zt12.1
          have jst12 : g13 224 0 = g7 224 0 := zt12.2.2.2 0 (by omega)
          refine st_si jo_202 (show 0 ≤ x2 by omega) (show x2 < ((6 : Nat) : Int) by omega) (fun hx => (jba_202 _ _).2 (show (-1 ≤ t12 ∧ t12 ≤ 15) ∨ t12 = 100 by omega)) (fun g14 eg14 => ?_)
          have eg14 : g14 = jup g13 202 x2 t12 := eg14
          have fg14 : jfr w_X12_aside h g14 := jfr_up fg13 eg14 (by unfold w_X12_aside; omega)
          have e15 : g14 202 x2 = t12 := jup_s eg14
          have e16 : jw32 (x2 + 1) = x2 + 1 := j32e (by omega) (by omega)
          show jGo E l 149 229 229 _ 58 [.inr (.inr (.inl 176)), .inl a1, .inl (jw32 (x2 + 1)), .inr (.inr (.inr ())), .inr (.inr (.inr ()))] [] 229 jr0 g14
          have e17 : g14 224 0 = g13 224 0 := jup_o eg14 (by omega)
          have e18 : g7 224 0 = g6 224 0 := jup_o eg7 (by omega)
          have e19 : g14 176 0 = g13 176 0 := jup_o eg14 (by omega)
          have e20 : g13 176 0 = g7 176 0 := ft12 176 0 (by unfold w_X12_swap; omega)
          have e21 : g7 176 0 = g6 176 0 := jup_o eg7 (by omega)
          have e22 : g6 176 0 = g 176 0 := ft5 176 0 (by unfold w_X12_swap; omega)
          have e23 : g14 176 0 = g13 176 0 := jup_o eg14 (by omega)
          have e24 : g13 176 0 = g7 176 0 := ft12 176 0 (by unfold w_X12_swap; omega)
          have e25 : g7 176 0 = g6 176 0 := jup_o eg7 (by omega)
          have e26 : g6 176 0 = g 176 0 := ft5 176 0 (by unfold w_X12_swap; omega)
          exact ih.1 (jw32 (x2 + 1)) g14 (by omega) (by omega) fg14 (by omega)
      · intro x2 x3 x4 g hi hx0 hf hN
        refine jGo_blk qX12_aside_113 ?_
        refine And.intro (fun c27 => ?_) (fun c27 => ?_)
        · have c27 : 16 ≤ x2 := c27
          show jGo E l 149 229 229 _ 362 [.inr (.inr (.inl 176)), .inl a1, .inl x2, x3, x4] [] 229 jr0 g
          refine jGo_blk qX12_aside_362 ?_
          show jGo E l 149 229 229 _ 364 [.inr (.inr (.inl 176)), .inl a1, .inl 0, x3, x4] [] 229 jr0 g
          exact ih.2.2.2 0 x3 x4 g (by omega) (by omega) hf (by omega)
        · have c27 : x2 < 16 := by first | exact c27 | exact Int.not_le.mp c27 | exact Int.not_lt.mp c27 | exact Decidable.not_not.mp c27
          have e28 : jw32 (16 * x2) = 16 * x2 := j32e (by omega) (by omega)
          have e29 : jw32 (20 + (jw32 (16 * x2))) = 20 + (jw32 (16 * x2)) := j32e (by omega) (by omega)
          refine st_gr jo_176 jr_176_18 ?_
          refine st_gr jo_176 jr_176_18 ?_
          refine st_ai jo_192 (show 0 ≤ x2 by omega) (show x2 < ((16 : Nat) : Int) by omega) (fun v30 ev30 b31 => ?_)
          have ev30 : v30 = g 192 x2 := ev30
          have b31 := (jba_192 x2 _).1 b31
          refine st_cv (na := 3) (st := [.inl a1, .inl v30, .inl (jw32 (20 + (jw32 (16 * x2)))), .inr (.inr (.inl 176)), .inl x2, .inr (.inr (.inl 192))]) jo_176 rfl rfl rfl (c_X12_swap (jw32 (20 + (jw32 (16 * x2)))) v30 a1 g (by omega) (by omega) (fun hx => (jk_st (by omega) (by omega) _).2 (by omega))) rfl ?_
          rintro _ _ g33 ⟨rfl, ft32, t32, rfl, ht32, zt32⟩ kt32
          have kt32 : -2147483648 ≤ t32 ∧ t32 ≤ 2147483647 := kt32
          have fg33 : jfr w_X12_aside h g33 := jfr_tr hf ft32 (fun i k q => by unfold w_X12_swap at q; unfold w_X12_aside; omega)
          have zt32 : jbd 224 (jw32 (20 + (jw32 (16 * x2)))) t32 ∧ (a1 = 0 → t32 = v30 ∧ g33 = jup g 224 (jw32 (20 + (jw32 (16 * x2)))) v30) ∧ (¬ a1 = 0 → t32 = g 224 (jw32 (20 + (jw32 (16 * x2)))) ∧ g33 = g) ∧ (∀ j : Int, j ≠ (jw32 (20 + (jw32 (16 * x2)))) → g33 224 j = g 224 j) := zt32
          have jct32 := (jk_st (by omega) (by omega) _).1 zt32.1
          have jst32 : g33 224 0 = g 224 0 := zt32.2.2.2 0 (by omega)
          refine st_si jo_192 (show 0 ≤ x2 by omega) (show x2 < ((16 : Nat) : Int) by omega) (fun hx => (jba_192 _ _).2 (show 0 ≤ t32 ∧ t32 ≤ 3 by omega)) (fun g34 eg34 => ?_)
          have eg34 : g34 = jup g33 192 x2 t32 := eg34
          have fg34 : jfr w_X12_aside h g34 := jfr_up fg33 eg34 (by unfold w_X12_aside; omega)
          have e35 : g34 192 x2 = t32 := jup_s eg34
          refine st_gr jo_176 jr_176_19 ?_
          have e36 : jw32 ((jw32 (20 + (jw32 (16 * x2)))) + 1) = (jw32 (20 + (jw32 (16 * x2)))) + 1 := j32e (by omega) (by omega)
          refine st_gr jo_176 jr_176_19 ?_
          refine st_ai jo_193 (show 0 ≤ x2 by omega) (show x2 < ((16 : Nat) : Int) by omega) (fun v37 ev37 b38 => ?_)
          have ev37 : v37 = g34 193 x2 := ev37
          have b38 := (jba_193 x2 _).1 b38
          refine st_cv (na := 3) (st := [.inl a1, .inl v37, .inl (jw32 ((jw32 (20 + (jw32 (16 * x2)))) + 1)), .inr (.inr (.inl 176)), .inl x2, .inr (.inr (.inl 193))]) jo_176 rfl rfl rfl (c_X12_swap (jw32 ((jw32 (20 + (jw32 (16 * x2)))) + 1)) v37 a1 g34 (by omega) (by omega) (fun hx => (jk_at (by omega) (by omega) _).2 (by omega))) rfl ?_
          rintro _ _ g40 ⟨rfl, ft39, t39, rfl, ht39, zt39⟩ kt39
          have kt39 : -2147483648 ≤ t39 ∧ t39 ≤ 2147483647 := kt39
          have fg40 : jfr w_X12_aside h g40 := jfr_tr fg34 ft39 (fun i k q => by unfold w_X12_swap at q; unfold w_X12_aside; omega)
          have zt39 : jbd 224 (jw32 ((jw32 (20 + (jw32 (16 * x2)))) + 1)) t39 ∧ (a1 = 0 → t39 = v37 ∧ g40 = jup g34 224 (jw32 ((jw32 (20 + (jw32 (16 * x2)))) + 1)) v37) ∧ (¬ a1 = 0 → t39 = g34 224 (jw32 ((jw32 (20 + (jw32 (16 * x2)))) + 1)) ∧ g40 = g34) ∧ (∀ j : Int, j ≠ (jw32 ((jw32 (20 + (jw32 (16 * x2)))) + 1)) → g40 224 j = g34 224 j) := zt39
          have jct39 := (jk_at (by omega) (by omega) _).1 zt39.1
          have jst39 : g40 224 0 = g34 224 0 := zt39.2.2.2 0 (by omega)
          refine st_si jo_193 (show 0 ≤ x2 by omega) (show x2 < ((16 : Nat) : Int) by omega) (fun hx => (jba_193 _ _).2 (show -9 ≤ t39 ∧ t39 ≤ 5 by omega)) (fun g41 eg41 => ?_)
          have eg41 : g41 = jup g40 193 x2 t39 := eg41
          have fg41 : jfr w_X12_aside h g41 := jfr_up fg40 eg41 (by unfold w_X12_aside; omega)
          have e42 : g41 193 x2 = t39 := jup_s eg41
          refine st_gr jo_176 jr_176_20 ?_
          have e43 : jw32 ((jw32 (20 + (jw32 (16 * x2)))) + 2) = (jw32 (20 + (jw32 (16 * x2)))) + 2 := j32e (by omega) (by omega)
          refine st_gr jo_176 jr_176_20 ?_
          refine st_ai jo_194 (show 0 ≤ x2 by omega) (show x2 < ((16 : Nat) : Int) by omega) (fun v44 ev44 b45 => ?_)
          have ev44 : v44 = g41 194 x2 := ev44
          have b45 := (jba_194 x2 _).1 b45
          refine st_cv (na := 3) (st := [.inl a1, .inl v44, .inl (jw32 ((jw32 (20 + (jw32 (16 * x2)))) + 2)), .inr (.inr (.inl 176)), .inl x2, .inr (.inr (.inl 194))]) jo_176 rfl rfl rfl (c_X12_swap (jw32 ((jw32 (20 + (jw32 (16 * x2)))) + 2)) v44 a1 g41 (by omega) (by omega) (fun hx => (jk_cr (by omega) (by omega) _).2 (by omega))) rfl ?_
          rintro _ _ g47 ⟨rfl, ft46, t46, rfl, ht46, zt46⟩ kt46
          have kt46 : -2147483648 ≤ t46 ∧ t46 ≤ 2147483647 := kt46
          have fg47 : jfr w_X12_aside h g47 := jfr_tr fg41 ft46 (fun i k q => by unfold w_X12_swap at q; unfold w_X12_aside; omega)
          have zt46 : jbd 224 (jw32 ((jw32 (20 + (jw32 (16 * x2)))) + 2)) t46 ∧ (a1 = 0 → t46 = v44 ∧ g47 = jup g41 224 (jw32 ((jw32 (20 + (jw32 (16 * x2)))) + 2)) v44) ∧ (¬ a1 = 0 → t46 = g41 224 (jw32 ((jw32 (20 + (jw32 (16 * x2)))) + 2)) ∧ g47 = g41) ∧ (∀ j : Int, j ≠ (jw32 ((jw32 (20 + (jw32 (16 * x2)))) + 2)) → g47 224 j = g41 224 j) := zt46
          have jct46 := (jk_cr (by omega) (by omega) _).1 zt46.1
          have jst46 : g47 224 0 = g41 224 0 := zt46.2.2.2 0 (by omega)
          refine st_si jo_194 (show 0 ≤ x2 by omega) (show x2 < ((16 : Nat) : Int) by omega) (fun hx => (jba_194 _ _).2 (show 0 ≤ t46 ∧ t46 ≤ 3 by omega)) (fun g48 eg48 => ?_)
          have eg48 : g48 = jup g47 194 x2 t46 := eg48
          have fg48 : jfr w_X12_aside h g48 := jfr_up fg47 eg48 (by unfold w_X12_aside; omega)
          have e49 : g48 194 x2 = t46 := jup_s eg48
          refine st_gr jo_176 jr_176_21 ?_
          have e50 : jw32 ((jw32 (20 + (jw32 (16 * x2)))) + 3) = (jw32 (20 + (jw32 (16 * x2)))) + 3 := j32e (by omega) (by omega)
          refine st_gr jo_176 jr_176_21 ?_
          refine st_ai jo_195 (show 0 ≤ x2 by omega) (show x2 < ((16 : Nat) : Int) by omega) (fun v51 ev51 b52 => ?_)
          have ev51 : v51 = g48 195 x2 := ev51
          have b52 := (jba_195 x2 _).1 b52
          refine st_cv (na := 3) (st := [.inl a1, .inl v51, .inl (jw32 ((jw32 (20 + (jw32 (16 * x2)))) + 3)), .inr (.inr (.inl 176)), .inl x2, .inr (.inr (.inl 195))]) jo_176 rfl rfl rfl (c_X12_swap (jw32 ((jw32 (20 + (jw32 (16 * x2)))) + 3)) v51 a1 g48 (by omega) (by omega) (fun hx => (jk_df (by omega) (by omega) (by omega) _).2 hx)) rfl ?_
          rintro _ _ g54 ⟨rfl, ft53, t53, rfl, ht53, zt53⟩ kt53
          have kt53 : -2147483648 ≤ t53 ∧ t53 ≤ 2147483647 := kt53
          have fg54 : jfr w_X12_aside h g54 := jfr_tr fg48 ft53 (fun i k q => by unfold w_X12_swap at q; unfold w_X12_aside; omega)
          have zt53 : jbd 224 (jw32 ((jw32 (20 + (jw32 (16 * x2)))) + 3)) t53 ∧ (a1 = 0 → t53 = v51 ∧ g54 = jup g48 224 (jw32 ((jw32 (20 + (jw32 (16 * x2)))) + 3)) v51) ∧ (¬ a1 = 0 → t53 = g48 224 (jw32 ((jw32 (20 + (jw32 (16 * x2)))) + 3)) ∧ g54 = g48) ∧ (∀ j : Int, j ≠ (jw32 ((jw32 (20 + (jw32 (16 * x2)))) + 3)) → g54 224 j = g48 224 j) := zt53
          have jst53 : g54 224 0 = g48 224 0 := zt53.2.2.2 0 (by omega)
          refine st_si jo_195 (show 0 ≤ x2 by omega) (show x2 < ((16 : Nat) : Int) by omega) (fun hx => (jba_195 _ _).2 hx) (fun g55 eg55 => ?_)
          have eg55 : g55 = jup g54 195 x2 t53 := eg55
          have fg55 : jfr w_X12_aside h g55 := jfr_up fg54 eg55 (by unfold w_X12_aside; omega)
          have e56 : g55 195 x2 = t53 := jup_s eg55
          refine st_gr jo_176 jr_176_22 ?_
          have e57 : jw32 ((jw32 (20 + (jw32 (16 * x2)))) + 4) = (jw32 (20 + (jw32 (16 * x2)))) + 4 := j32e (by omega) (by omega)
          refine st_gr jo_176 jr_176_22 ?_
          refine st_bi jo_196 (show 0 ≤ x2 by omega) (show x2 < ((16 : Nat) : Int) by omega) (fun v58 ev58 b59 => ?_)
          have ev58 : v58 = g55 196 x2 := ev58
          have b59 := (jba_196 x2 _).1 b59
          refine And.intro (fun c60 => ?_) (fun c60 => ?_)
          · have c60 : v58 = 0 := c60
            show jGo E l 149 229 229 _ 227 [.inr (.inr (.inl 176)), .inl a1, .inl x2, .inl (jw32 (20 + (jw32 (16 * x2)))), x4] [.inl (jw32 ((jw32 (20 + (jw32 (16 * x2)))) + 4)), .inr (.inr (.inl 176)), .inl x2, .inr (.inr (.inl 196))] 229 jr0 g55
            refine jGo_blk qX12_aside_227 ?_
            show jGo E l 149 229 229 _ 228 [.inr (.inr (.inl 176)), .inl a1, .inl x2, .inl (jw32 (20 + (jw32 (16 * x2)))), x4] [.inl 0, .inl (jw32 ((jw32 (20 + (jw32 (16 * x2)))) + 4)), .inr (.inr (.inl 176)), .inl x2, .inr (.inr (.inl 196))] 229 jr0 g55
            refine jGo_blk qX12_aside_228 ?_
            refine st_cv (na := 3) (st := [.inl a1, .inl 0, .inl (jw32 ((jw32 (20 + (jw32 (16 * x2)))) + 4)), .inr (.inr (.inl 176)), .inl x2, .inr (.inr (.inl 196))]) jo_176 rfl rfl rfl (c_X12_swap (jw32 ((jw32 (20 + (jw32 (16 * x2)))) + 4)) 0 a1 g55 (by omega) (by omega) (fun hx => (jk_df (by omega) (by omega) (by omega) _).2 hx)) rfl ?_
            rintro _ _ g62 ⟨rfl, ft61, t61, rfl, ht61, zt61⟩ kt61
            have kt61 : -2147483648 ≤ t61 ∧ t61 ≤ 2147483647 := kt61
            have fg62 : jfr w_X12_aside h g62 := jfr_tr fg55 ft61 (fun i k q => by unfold w_X12_swap at q; unfold w_X12_aside; omega)
            have zt61 : jbd 224 (jw32 ((jw32 (20 + (jw32 (16 * x2)))) + 4)) t61 ∧ (a1 = 0 → t61 = (0 : Int) ∧ g62 = jup g55 224 (jw32 ((jw32 (20 + (jw32 (16 * x2)))) + 4)) (0 : Int)) ∧ (¬ a1 = 0 → t61 = g55 224 (jw32 ((jw32 (20 + (jw32 (16 * x2)))) + 4)) ∧ g62 = g55) ∧ (∀ j : Int, j ≠ (jw32 ((jw32 (20 + (jw32 (16 * x2)))) + 4)) → g62 224 j = g55 224 j) := zt61
            have jst61 : g62 224 0 = g55 224 0 := zt61.2.2.2 0 (by omega)
            refine And.intro (fun c63 => ?_) (fun c63 => ?_)
            · have c63 : ¬ t61 = 1 := c63
              show jGo E l 149 229 229 _ 240 [.inr (.inr (.inl 176)), .inl a1, .inl x2, .inl (jw32 (20 + (jw32 (16 * x2)))), x4] [.inl x2, .inr (.inr (.inl 196))] 229 jr0 g62
              refine jGo_blk qX12_aside_240 ?_
              show jGo E l 149 229 229 _ 241 [.inr (.inr (.inl 176)), .inl a1, .inl x2, .inl (jw32 (20 + (jw32 (16 * x2)))), x4] [.inl 0, .inl x2, .inr (.inr (.inl 196))] 229 jr0 g62
              refine jGo_blk qX12_aside_241 ?_
              refine st_sb jo_196 (show 0 ≤ x2 by omega) (show x2 < ((16 : Nat) : Int) by omega) (fun hx => (jba_196 _ _).2 (show 0 ≤ 0 ∧ 0 ≤ 1 by omega)) (fun g64 eg64 => ?_)
              have eg64 : g64 = jup g62 196 x2 0 := eg64
              have fg64 : jfr w_X12_aside h g64 := jfr_up fg62 eg64 (by unfold w_X12_aside; omega)
              have e65 : g64 196 x2 = 0 := jup_s eg64
              refine st_gr jo_176 jr_176_23 ?_
              have e66 : jw32 ((jw32 (20 + (jw32 (16 * x2)))) + 5) = (jw32 (20 + (jw32 (16 * x2)))) + 5 := j32e (by omega) (by omega)
              refine st_gr jo_176 jr_176_23 ?_
              refine st_ai jo_197 (show 0 ≤ x2 by omega) (show x2 < ((16 : Nat) : Int) by omega) (fun v67 ev67 b68 => ?_)
              have ev67 : v67 = g64 197 x2 := ev67
              have b68 := (jba_197 x2 _).1 b68
              refine st_cv (na := 3) (st := [.inl a1, .inl v67, .inl (jw32 ((jw32 (20 + (jw32 (16 * x2)))) + 5)), .inr (.inr (.inl 176)), .inl x2, .inr (.inr (.inl 197))]) jo_176 rfl rfl rfl (c_X12_swap (jw32 ((jw32 (20 + (jw32 (16 * x2)))) + 5)) v67 a1 g64 (by omega) (by omega) (fun hx => (jk_df (by omega) (by omega) (by omega) _).2 hx)) rfl ?_
              rintro _ _ g70 ⟨rfl, ft69, t69, rfl, ht69, zt69⟩ kt69
              have kt69 : -2147483648 ≤ t69 ∧ t69 ≤ 2147483647 := kt69
              have fg70 : jfr w_X12_aside h g70 := jfr_tr fg64 ft69 (fun i k q => by unfold w_X12_swap at q; unfold w_X12_aside; omega)
              have zt69 : jbd 224 (jw32 ((jw32 (20 + (jw32 (16 * x2)))) + 5)) t69 ∧ (a1 = 0 → t69 = v67 ∧ g70 = jup g64 224 (jw32 ((jw32 (20 + (jw32 (16 * x2)))) + 5)) v67) ∧ (¬ a1 = 0 → t69 = g64 224 (jw32 ((jw32 (20 + (jw32 (16 * x2)))) + 5)) ∧ g70 = g64) ∧ (∀ j : Int, j ≠ (jw32 ((jw32 (20 + (jw32 (16 * x2)))) + 5)) → g70 224 j = g64 224 j) := zt69
              have jst69 : g70 224 0 = g64 224 0 := zt69.2.2.2 0 (by omega)
              refine st_si jo_197 (show 0 ≤ x2 by omega) (show x2 < ((16 : Nat) : Int) by omega) (fun hx => (jba_197 _ _).2 hx) (fun g71 eg71 => ?_)
              have eg71 : g71 = jup g70 197 x2 t69 := eg71
              have fg71 : jfr w_X12_aside h g71 := jfr_up fg70 eg71 (by unfold w_X12_aside; omega)
              have e72 : g71 197 x2 = t69 := jup_s eg71
              refine st_gr jo_176 jr_176_24 ?_
              have e73 : jw32 ((jw32 (20 + (jw32 (16 * x2)))) + 6) = (jw32 (20 + (jw32 (16 * x2)))) + 6 := j32e (by omega) (by omega)
              refine st_gr jo_176 jr_176_24 ?_
              refine st_ai jo_198 (show 0 ≤ x2 by omega) (show x2 < ((16 : Nat) : Int) by omega) (fun v74 ev74 b75 => ?_)
              have ev74 : v74 = g71 198 x2 := ev74
              have b75 := (jba_198 x2 _).1 b75
              refine st_cv (na := 3) (st := [.inl a1, .inl v74, .inl (jw32 ((jw32 (20 + (jw32 (16 * x2)))) + 6)), .inr (.inr (.inl 176)), .inl x2, .inr (.inr (.inl 198))]) jo_176 rfl rfl rfl (c_X12_swap (jw32 ((jw32 (20 + (jw32 (16 * x2)))) + 6)) v74 a1 g71 (by omega) (by omega) (fun hx => (jk_df (by omega) (by omega) (by omega) _).2 hx)) rfl ?_
              rintro _ _ g77 ⟨rfl, ft76, t76, rfl, ht76, zt76⟩ kt76
              have kt76 : -2147483648 ≤ t76 ∧ t76 ≤ 2147483647 := kt76
              have fg77 : jfr w_X12_aside h g77 := jfr_tr fg71 ft76 (fun i k q => by unfold w_X12_swap at q; unfold w_X12_aside; omega)
              have zt76 : jbd 224 (jw32 ((jw32 (20 + (jw32 (16 * x2)))) + 6)) t76 ∧ (a1 = 0 → t76 = v74 ∧ g77 = jup g71 224 (jw32 ((jw32 (20 + (jw32 (16 * x2)))) + 6)) v74) ∧ (¬ a1 = 0 → t76 = g71 224 (jw32 ((jw32 (20 + (jw32 (16 * x2)))) + 6)) ∧ g77 = g71) ∧ (∀ j : Int, j ≠ (jw32 ((jw32 (20 + (jw32 (16 * x2)))) + 6)) → g77 224 j = g71 224 j) := zt76
              have jst76 : g77 224 0 = g71 224 0 := zt76.2.2.2 0 (by omega)
              refine st_si jo_198 (show 0 ≤ x2 by omega) (show x2 < ((16 : Nat) : Int) by omega) (fun hx => (jba_198 _ _).2 hx) (fun g78 eg78 => ?_)
              have eg78 : g78 = jup g77 198 x2 t76 := eg78
              have fg78 : jfr w_X12_aside h g78 := jfr_up fg77 eg78 (by unfold w_X12_aside; omega)
              have e79 : g78 198 x2 = t76 := jup_s eg78
              refine st_gr jo_176 jr_176_16 ?_
              have e80 : jw32 ((jw32 (20 + (jw32 (16 * x2)))) + 7) = (jw32 (20 + (jw32 (16 * x2)))) + 7 := j32e (by omega) (by omega)
              refine st_gr jo_176 jr_176_16 ?_
              refine st_ai jo_190 (show 0 ≤ x2 by omega) (show x2 < ((16 : Nat) : Int) by omega) (fun v81 ev81 b82 => ?_)
              have ev81 : v81 = g78 190 x2 := ev81
              have b82 := (jba_190 x2 _).1 b82
              refine st_cv (na := 3) (st := [.inl a1, .inl v81, .inl (jw32 ((jw32 (20 + (jw32 (16 * x2)))) + 7)), .inr (.inr (.inl 176)), .inl x2, .inr (.inr (.inl 190))]) jo_176 rfl rfl rfl (c_X12_swap (jw32 ((jw32 (20 + (jw32 (16 * x2)))) + 7)) v81 a1 g78 (by omega) (by omega) (fun hx => (jk_pr (by omega) (by omega) _).2 (by omega))) rfl ?_
              rintro _ _ g84 ⟨rfl, ft83, t83, rfl, ht83, zt83⟩ kt83
              have kt83 : -2147483648 ≤ t83 ∧ t83 ≤ 2147483647 := kt83
              have fg84 : jfr w_X12_aside h g84 := jfr_tr fg78 ft83 (fun i k q => by unfold w_X12_swap at q; unfold w_X12_aside; omega)
              have zt83 : jbd 224 (jw32 ((jw32 (20 + (jw32 (16 * x2)))) + 7)) t83 ∧ (a1 = 0 → t83 = v81 ∧ g84 = jup g78 224 (jw32 ((jw32 (20 + (jw32 (16 * x2)))) + 7)) v81) ∧ (¬ a1 = 0 → t83 = g78 224 (jw32 ((jw32 (20 + (jw32 (16 * x2)))) + 7)) ∧ g84 = g78) ∧ (∀ j : Int, j ≠ (jw32 ((jw32 (20 + (jw32 (16 * x2)))) + 7)) → g84 224 j = g78 224 j) := zt83
              have jct83 := (jk_pr (by omega) (by omega) _).1 zt83.1
              have jst83 : g84 224 0 = g78 224 0 := zt83.2.2.2 0 (by omega)
              refine st_si jo_190 (show 0 ≤ x2 by omega) (show x2 < ((16 : Nat) : Int) by omega) (fun hx => (jba_190 _ _).2 (show 0 ≤ t83 ∧ t83 ≤ 99 by omega)) (fun g85 eg85 => ?_)
              have eg85 : g85 = jup g84 190 x2 t83 := eg85
              have fg85 : jfr w_X12_aside h g85 := jfr_up fg84 eg85 (by unfold w_X12_aside; omega)
              have e86 : g85 190 x2 = t83 := jup_s eg85
              show jGo E l 149 229 229 _ 307 [.inr (.inr (.inl 176)), .inl a1, .inl x2, .inl (jw32 (20 + (jw32 (16 * x2)))), .inl 0] [] 229 jr0 g85
              have e87 : g85 224 0 = g84 224 0 := jup_o eg85 (by omega)
              have e88 : g78 224 0 = g77 224 0 := jup_o eg78 (by omega)
              have e89 : g71 224 0 = g70 224 0 := jup_o eg71 (by omega)
              have e90 : g64 224 0 = g62 224 0 := jup_o eg64 (by omega)
              have e91 : g55 224 0 = g54 224 0 := jup_o eg55 (by omega)
              have e92 : g48 224 0 = g47 224 0 := jup_o eg48 (by omega)
              have e93 : g41 224 0 = g40 224 0 := jup_o eg41 (by omega)
              have e94 : g34 224 0 = g33 224 0 := jup_o eg34 (by omega)
              have e95 : g85 176 0 = g84 176 0 := jup_o eg85 (by omega)
              have e96 : g84 176 0 = g78 176 0 := ft83 176 0 (by unfold w_X12_swap; omega)
              have e97 : g78 176 0 = g77 176 0 := jup_o eg78 (by omega)
              have e98 : g77 176 0 = g71 176 0 := ft76 176 0 (by unfold w_X12_swap; omega)
              have e99 : g71 176 0 = g70 176 0 := jup_o eg71 (by omega)
              have e100 : g70 176 0 = g64 176 0 := ft69 176 0 (by unfold w_X12_swap; omega)
              have e101 : g64 176 0 = g62 176 0 := jup_o eg64 (by omega)
              have e102 : g62 176 0 = g55 176 0 := ft61 176 0 (by unfold w_X12_swap; omega)
              have e103 : g55 176 0 = g54 176 0 := jup_o eg55 (by omega)
              have e104 : g54 176 0 = g48 176 0 := ft53 176 0 (by unfold w_X12_swap; omega)
              have e105 : g48 176 0 = g47 176 0 := jup_o eg48 (by omega)
              have e106 : g47 176 0 = g41 176 0 := ft46 176 0 (by unfold w_X12_swap; omega)
              have e107 : g41 176 0 = g40 176 0 := jup_o eg41 (by omega)
              have e108 : g40 176 0 = g34 176 0 := ft39 176 0 (by unfold w_X12_swap; omega)
              have e109 : g34 176 0 = g33 176 0 := jup_o eg34 (by omega)
              have e110 : g33 176 0 = g 176 0 := ft32 176 0 (by unfold w_X12_swap; omega)
              have e111 : g85 176 0 = g84 176 0 := jup_o eg85 (by omega)
              have e112 : g84 176 0 = g78 176 0 := ft83 176 0 (by unfold w_X12_swap; omega)
              have e113 : g78 176 0 = g77 176 0 := jup_o eg78 (by omega)
              have e114 : g77 176 0 = g71 176 0 := ft76 176 0 (by unfold w_X12_swap; omega)
              have e115 : g71 176 0 = g70 176 0 := jup_o eg71 (by omega)
              have e116 : g70 176 0 = g64 176 0 := ft69 176 0 (by unfold w_X12_swap; omega)
              have e117 : g64 176 0 = g62 176 0 := jup_o eg64 (by omega)
              have e118 : g62 176 0 = g55 176 0 := ft61 176 0 (by unfold w_X12_swap; omega)
              have e119 : g55 176 0 = g54 176 0 := jup_o eg55 (by omega)
              have e120 : g54 176 0 = g48 176 0 := ft53 176 0 (by unfold w_X12_swap; omega)
              have e121 : g48 176 0 = g47 176 0 := jup_o eg48 (by omega)
              have e122 : g47 176 0 = g41 176 0 := ft46 176 0 (by unfold w_X12_swap; omega)
              have e123 : g41 176 0 = g40 176 0 := jup_o eg41 (by omega)
              have e124 : g40 176 0 = g34 176 0 := ft39 176 0 (by unfold w_X12_swap; omega)
              have e125 : g34 176 0 = g33 176 0 := jup_o eg34 (by omega)
              have e126 : g33 176 0 = g 176 0 := ft32 176 0 (by unfold w_X12_swap; omega)
              exact ih.2.2.1 x2 (jw32 (20 + (jw32 (16 * x2)))) 0 g85 (by omega) (by omega) (by omega) fg85 (by omega)
            · have c63 : t61 = 1 := by first | exact c63 | exact Int.not_le.mp c63 | exact Int.not_lt.mp c63 | exact Decidable.not_not.mp c63
              show jGo E l 149 229 229 _ 241 [.inr (.inr (.inl 176)), .inl a1, .inl x2, .inl (jw32 (20 + (jw32 (16 * x2)))), x4] [.inl 1, .inl x2, .inr (.inr (.inl 196))] 229 jr0 g62
              refine jGo_blk qX12_aside_241 ?_
              refine st_sb jo_196 (show 0 ≤ x2 by omega) (show x2 < ((16 : Nat) : Int) by omega) (fun hx => (jba_196 _ _).2 (show 0 ≤ 1 ∧ 1 ≤ 1 by omega)) (fun g127 eg127 => ?_)
              have eg127 : g127 = jup g62 196 x2 1 := eg127
              have fg127 : jfr w_X12_aside h g127 := jfr_up fg62 eg127 (by unfold w_X12_aside; omega)
              have e128 : g127 196 x2 = 1 := jup_s eg127
              refine st_gr jo_176 jr_176_23 ?_
              have e129 : jw32 ((jw32 (20 + (jw32 (16 * x2)))) + 5) = (jw32 (20 + (jw32 (16 * x2)))) + 5 := j32e (by omega) (by omega)
              refine st_gr jo_176 jr_176_23 ?_
              refine st_ai jo_197 (show 0 ≤ x2 by omega) (show x2 < ((16 : Nat) : Int) by omega) (fun v130 ev130 b131 => ?_)
              have ev130 : v130 = g127 197 x2 := ev130
              have b131 := (jba_197 x2 _).1 b131
              refine st_cv (na := 3) (st := [.inl a1, .inl v130, .inl (jw32 ((jw32 (20 + (jw32 (16 * x2)))) + 5)), .inr (.inr (.inl 176)), .inl x2, .inr (.inr (.inl 197))]) jo_176 rfl rfl rfl (c_X12_swap (jw32 ((jw32 (20 + (jw32 (16 * x2)))) + 5)) v130 a1 g127 (by omega) (by omega) (fun hx => (jk_df (by omega) (by omega) (by omega) _).2 hx)) rfl ?_
              rintro _ _ g133 ⟨rfl, ft132, t132, rfl, ht132, zt132⟩ kt132
              have kt132 : -2147483648 ≤ t132 ∧ t132 ≤ 2147483647 := kt132
              have fg133 : jfr w_X12_aside h g133 := jfr_tr fg127 ft132 (fun i k q => by unfold w_X12_swap at q; unfold w_X12_aside; omega)
              have zt132 : jbd 224 (jw32 ((jw32 (20 + (jw32 (16 * x2)))) + 5)) t132 ∧ (a1 = 0 → t132 = v130 ∧ g133 = jup g127 224 (jw32 ((jw32 (20 + (jw32 (16 * x2)))) + 5)) v130) ∧ (¬ a1 = 0 → t132 = g127 224 (jw32 ((jw32 (20 + (jw32 (16 * x2)))) + 5)) ∧ g133 = g127) ∧ (∀ j : Int, j ≠ (jw32 ((jw32 (20 + (jw32 (16 * x2)))) + 5)) → g133 224 j = g127 224 j) := zt132
              have jst132 : g133 224 0 = g127 224 0 := zt132.2.2.2 0 (by omega)
              refine st_si jo_197 (show 0 ≤ x2 by omega) (show x2 < ((16 : Nat) : Int) by omega) (fun hx => (jba_197 _ _).2 hx) (fun g134 eg134 => ?_)
              have eg134 : g134 = jup g133 197 x2 t132 := eg134
              have fg134 : jfr w_X12_aside h g134 := jfr_up fg133 eg134 (by unfold w_X12_aside; omega)
              have e135 : g134 197 x2 = t132 := jup_s eg134
              refine st_gr jo_176 jr_176_24 ?_
              have e136 : jw32 ((jw32 (20 + (jw32 (16 * x2)))) + 6) = (jw32 (20 + (jw32 (16 * x2)))) + 6 := j32e (by omega) (by omega)
              refine st_gr jo_176 jr_176_24 ?_
              refine st_ai jo_198 (show 0 ≤ x2 by omega) (show x2 < ((16 : Nat) : Int) by omega) (fun v137 ev137 b138 => ?_)
              have ev137 : v137 = g134 198 x2 := ev137
              have b138 := (jba_198 x2 _).1 b138
              refine st_cv (na := 3) (st := [.inl a1, .inl v137, .inl (jw32 ((jw32 (20 + (jw32 (16 * x2)))) + 6)), .inr (.inr (.inl 176)), .inl x2, .inr (.inr (.inl 198))]) jo_176 rfl rfl rfl (c_X12_swap (jw32 ((jw32 (20 + (jw32 (16 * x2)))) + 6)) v137 a1 g134 (by omega) (by omega) (fun hx => (jk_df (by omega) (by omega) (by omega) _).2 hx)) rfl ?_
              rintro _ _ g140 ⟨rfl, ft139, t139, rfl, ht139, zt139⟩ kt139
              have kt139 : -2147483648 ≤ t139 ∧ t139 ≤ 2147483647 := kt139
              have fg140 : jfr w_X12_aside h g140 := jfr_tr fg134 ft139 (fun i k q => by unfold w_X12_swap at q; unfold w_X12_aside; omega)
              have zt139 : jbd 224 (jw32 ((jw32 (20 + (jw32 (16 * x2)))) + 6)) t139 ∧ (a1 = 0 → t139 = v137 ∧ g140 = jup g134 224 (jw32 ((jw32 (20 + (jw32 (16 * x2)))) + 6)) v137) ∧ (¬ a1 = 0 → t139 = g134 224 (jw32 ((jw32 (20 + (jw32 (16 * x2)))) + 6)) ∧ g140 = g134) ∧ (∀ j : Int, j ≠ (jw32 ((jw32 (20 + (jw32 (16 * x2)))) + 6)) → g140 224 j = g134 224 j) := zt139
              have jst139 : g140 224 0 = g134 224 0 := zt139.2.2.2 0 (by omega)
              refine st_si jo_198 (show 0 ≤ x2 by omega) (show x2 < ((16 : Nat) : Int) by omega) (fun hx => (jba_198 _ _).2 hx) (fun g141 eg141 => ?_)
              have eg141 : g141 = jup g140 198 x2 t139 := eg141
              have fg141 : jfr w_X12_aside h g141 := jfr_up fg140 eg141 (by unfold w_X12_aside; omega)
              have e142 : g141 198 x2 = t139 := jup_s eg141
              refine st_gr jo_176 jr_176_16 ?_
              have e143 : jw32 ((jw32 (20 + (jw32 (16 * x2)))) + 7) = (jw32 (20 + (jw32 (16 * x2)))) + 7 := j32e (by omega) (by omega)
              refine st_gr jo_176 jr_176_16 ?_
              refine st_ai jo_190 (show 0 ≤ x2 by omega) (show x2 < ((16 : Nat) : Int) by omega) (fun v144 ev144 b145 => ?_)
              have ev144 : v144 = g141 190 x2 := ev144
              have b145 := (jba_190 x2 _).1 b145
              refine st_cv (na := 3) (st := [.inl a1, .inl v144, .inl (jw32 ((jw32 (20 + (jw32 (16 * x2)))) + 7)), .inr (.inr (.inl 176)), .inl x2, .inr (.inr (.inl 190))]) jo_176 rfl rfl rfl (c_X12_swap (jw32 ((jw32 (20 + (jw32 (16 * x2)))) + 7)) v144 a1 g141 (by omega) (by omega) (fun hx => (jk_pr (by omega) (by omega) _).2 (by omega))) rfl ?_
              rintro _ _ g147 ⟨rfl, ft146, t146, rfl, ht146, zt146⟩ kt146
              have kt146 : -2147483648 ≤ t146 ∧ t146 ≤ 2147483647 := kt146
              have fg147 : jfr w_X12_aside h g147 := jfr_tr fg141 ft146 (fun i k q => by unfold w_X12_swap at q; unfold w_X12_aside; omega)
              have zt146 : jbd 224 (jw32 ((jw32 (20 + (jw32 (16 * x2)))) + 7)) t146 ∧ (a1 = 0 → t146 = v144 ∧ g147 = jup g141 224 (jw32 ((jw32 (20 + (jw32 (16 * x2)))) + 7)) v144) ∧ (¬ a1 = 0 → t146 = g141 224 (jw32 ((jw32 (20 + (jw32 (16 * x2)))) + 7)) ∧ g147 = g141) ∧ (∀ j : Int, j ≠ (jw32 ((jw32 (20 + (jw32 (16 * x2)))) + 7)) → g147 224 j = g141 224 j) := zt146
              have jct146 := (jk_pr (by omega) (by omega) _).1 zt146.1
              have jst146 : g147 224 0 = g141 224 0 := zt146.2.2.2 0 (by omega)
              refine st_si jo_190 (show 0 ≤ x2 by omega) (show x2 < ((16 : Nat) : Int) by omega) (fun hx => (jba_190 _ _).2 (show 0 ≤ t146 ∧ t146 ≤ 99 by omega)) (fun g148 eg148 => ?_)
              have eg148 : g148 = jup g147 190 x2 t146 := eg148
              have fg148 : jfr w_X12_aside h g148 := jfr_up fg147 eg148 (by unfold w_X12_aside; omega)
              have e149 : g148 190 x2 = t146 := jup_s eg148
              show jGo E l 149 229 229 _ 307 [.inr (.inr (.inl 176)), .inl a1, .inl x2, .inl (jw32 (20 + (jw32 (16 * x2)))), .inl 0] [] 229 jr0 g148
              have e150 : g148 224 0 = g147 224 0 := jup_o eg148 (by omega)
              have e151 : g141 224 0 = g140 224 0 := jup_o eg141 (by omega)
              have e152 : g134 224 0 = g133 224 0 := jup_o eg134 (by omega)
              have e153 : g127 224 0 = g62 224 0 := jup_o eg127 (by omega)
              have e154 : g55 224 0 = g54 224 0 := jup_o eg55 (by omega)
              have e155 : g48 224 0 = g47 224 0 := jup_o eg48 (by omega)
              have e156 : g41 224 0 = g40 224 0 := jup_o eg41 (by omega)
              have e157 : g34 224 0 = g33 224 0 := jup_o eg34 (by omega)
              have e158 : g148 176 0 = g147 176 0 := jup_o eg148 (by omega)
              have e159 : g147 176 0 = g141 176 0 := ft146 176 0 (by unfold w_X12_swap; omega)
              have e160 : g141 176 0 = g140 176 0 := jup_o eg141 (by omega)
              have e161 : g140 176 0 = g134 176 0 := ft139 176 0 (by unfold w_X12_swap; omega)
              have e162 : g134 176 0 = g133 176 0 := jup_o eg134 (by omega)
              have e163 : g133 176 0 = g127 176 0 := ft132 176 0 (by unfold w_X12_swap; omega)
              have e164 : g127 176 0 = g62 176 0 := jup_o eg127 (by omega)
              have e165 : g62 176 0 = g55 176 0 := ft61 176 0 (by unfold w_X12_swap; omega)
              have e166 : g55 176 0 = g54 176 0 := jup_o eg55 (by omega)
              have e167 : g54 176 0 = g48 176 0 := ft53 176 0 (by unfold w_X12_swap; omega)
              have e168 : g48 176 0 = g47 176 0 := jup_o eg48 (by omega)
              have e169 : g47 176 0 = g41 176 0 := ft46 176 0 (by unfold w_X12_swap; omega)
              have e170 : g41 176 0 = g40 176 0 := jup_o eg41 (by omega)
              have e171 : g40 176 0 = g34 176 0 := ft39 176 0 (by unfold w_X12_swap; omega)
              have e172 : g34 176 0 = g33 176 0 := jup_o eg34 (by omega)
              have e173 : g33 176 0 = g 176 0 := ft32 176 0 (by unfold w_X12_swap; omega)
              have e174 : g148 176 0 = g147 176 0 := jup_o eg148 (by omega)
              have e175 : g147 176 0 = g141 176 0 := ft146 176 0 (by unfold w_X12_swap; omega)
              have e176 : g141 176 0 = g140 176 0 := jup_o eg141 (by omega)
              have e177 : g140 176 0 = g134 176 0 := ft139 176 0 (by unfold w_X12_swap; omega)
              have e178 : g134 176 0 = g133 176 0 := jup_o eg134 (by omega)
              have e179 : g133 176 0 = g127 176 0 := ft132 176 0 (by unfold w_X12_swap; omega)
              have e180 : g127 176 0 = g62 176 0 := jup_o eg127 (by omega)
              have e181 : g62 176 0 = g55 176 0 := ft61 176 0 (by unfold w_X12_swap; omega)
              have e182 : g55 176 0 = g54 176 0 := jup_o eg55 (by omega)
              have e183 : g54 176 0 = g48 176 0 := ft53 176 0 (by unfold w_X12_swap; omega)
              have e184 : g48 176 0 = g47 176 0 := jup_o eg48 (by omega)
              have e185 : g47 176 0 = g41 176 0 := ft46 176 0 (by unfold w_X12_swap; omega)
              have e186 : g41 176 0 = g40 176 0 := jup_o eg41 (by omega)
              have e187 : g40 176 0 = g34 176 0 := ft39 176 0 (by unfold w_X12_swap; omega)
              have e188 : g34 176 0 = g33 176 0 := jup_o eg34 (by omega)
              have e189 : g33 176 0 = g 176 0 := ft32 176 0 (by unfold w_X12_swap; omega)
              exact ih.2.2.1 x2 (jw32 (20 + (jw32 (16 * x2)))) 0 g148 (by omega) (by omega) (by omega) fg148 (by omega)
          · have c60 : ¬ v58 = 0 := by first | exact c60 | exact Int.not_le.mp c60 | exact Int.not_lt.mp c60 | exact Decidable.not_not.mp c60
            show jGo E l 149 229 229 _ 228 [.inr (.inr (.inl 176)), .inl a1, .inl x2, .inl (jw32 (20 + (jw32 (16 * x2)))), x4] [.inl 1, .inl (jw32 ((jw32 (20 + (jw32 (16 * x2)))) + 4)), .inr (.inr (.inl 176)), .inl x2, .inr (.inr (.inl 196))] 229 jr0 g55
            refine jGo_blk qX12_aside_228 ?_
            refine st_cv (na := 3) (st := [.inl a1, .inl 1, .inl (jw32 ((jw32 (20 + (jw32 (16 * x2)))) + 4)), .inr (.inr (.inl 176)), .inl x2, .inr (.inr (.inl 196))]) jo_176 rfl rfl rfl (c_X12_swap (jw32 ((jw32 (20 + (jw32 (16 * x2)))) + 4)) 1 a1 g55 (by omega) (by omega) (fun hx => (jk_df (by omega) (by omega) (by omega) _).2 hx)) rfl ?_
            rintro _ _ g191 ⟨rfl, ft190, t190, rfl, ht190, zt190⟩ kt190
            have kt190 : -2147483648 ≤ t190 ∧ t190 ≤ 2147483647 := kt190
            have fg191 : jfr w_X12_aside h g191 := jfr_tr fg55 ft190 (fun i k q => by unfold w_X12_swap at q; unfold w_X12_aside; omega)
            have zt190 : jbd 224 (jw32 ((jw32 (20 + (jw32 (16 * x2)))) + 4)) t190 ∧ (a1 = 0 → t190 = (1 : Int) ∧ g191 = jup g55 224 (jw32 ((jw32 (20 + (jw32 (16 * x2)))) + 4)) (1 : Int)) ∧ (¬ a1 = 0 → t190 = g55 224 (jw32 ((jw32 (20 + (jw32 (16 * x2)))) + 4)) ∧ g191 = g55) ∧ (∀ j : Int, j ≠ (jw32 ((jw32 (20 + (jw32 (16 * x2)))) + 4)) → g191 224 j = g55 224 j) := zt190
            have jst190 : g191 224 0 = g55 224 0 := zt190.2.2.2 0 (by omega)
            refine And.intro (fun c192 => ?_) (fun c192 => ?_)
            · have c192 : ¬ t190 = 1 := c192
              show jGo E l 149 229 229 _ 240 [.inr (.inr (.inl 176)), .inl a1, .inl x2, .inl (jw32 (20 + (jw32 (16 * x2)))), x4] [.inl x2, .inr (.inr (.inl 196))] 229 jr0 g191
              refine jGo_blk qX12_aside_240 ?_
              show jGo E l 149 229 229 _ 241 [.inr (.inr (.inl 176)), .inl a1, .inl x2, .inl (jw32 (20 + (jw32 (16 * x2)))), x4] [.inl 0, .inl x2, .inr (.inr (.inl 196))] 229 jr0 g191
              refine jGo_blk qX12_aside_241 ?_
              refine st_sb jo_196 (show 0 ≤ x2 by omega) (show x2 < ((16 : Nat) : Int) by omega) (fun hx => (jba_196 _ _).2 (show 0 ≤ 0 ∧ 0 ≤ 1 by omega)) (fun g193 eg193 => ?_)
              have eg193 : g193 = jup g191 196 x2 0 := eg193
              have fg193 : jfr w_X12_aside h g193 := jfr_up fg191 eg193 (by unfold w_X12_aside; omega)
              have e194 : g193 196 x2 = 0 := jup_s eg193
              refine st_gr jo_176 jr_176_23 ?_
              have e195 : jw32 ((jw32 (20 + (jw32 (16 * x2)))) + 5) = (jw32 (20 + (jw32 (16 * x2)))) + 5 := j32e (by omega) (by omega)
              refine st_gr jo_176 jr_176_23 ?_
              refine st_ai jo_197 (show 0 ≤ x2 by omega) (show x2 < ((16 : Nat) : Int) by omega) (fun v196 ev196 b197 => ?_)
              have ev196 : v196 = g193 197 x2 := ev196
              have b197 := (jba_197 x2 _).1 b197
              refine st_cv (na := 3) (st := [.inl a1, .inl v196, .inl (jw32 ((jw32 (20 + (jw32 (16 * x2)))) + 5)), .inr (.inr (.inl 176)), .inl x2, .inr (.inr (.inl 197))]) jo_176 rfl rfl rfl (c_X12_swap (jw32 ((jw32 (20 + (jw32 (16 * x2)))) + 5)) v196 a1 g193 (by omega) (by omega) (fun hx => (jk_df (by omega) (by omega) (by omega) _).2 hx)) rfl ?_
              rintro _ _ g199 ⟨rfl, ft198, t198, rfl, ht198, zt198⟩ kt198
              have kt198 : -2147483648 ≤ t198 ∧ t198 ≤ 2147483647 := kt198
              have fg199 : jfr w_X12_aside h g199 := jfr_tr fg193 ft198 (fun i k q => by unfold w_X12_swap at q; unfold w_X12_aside; omega)
              have zt198 : jbd 224 (jw32 ((jw32 (20 + (jw32 (16 * x2)))) + 5)) t198 ∧ (a1 = 0 → t198 = v196 ∧ g199 = jup g193 224 (jw32 ((jw32 (20 + (jw32 (16 * x2)))) + 5)) v196) ∧ (¬ a1 = 0 → t198 = g193 224 (jw32 ((jw32 (20 + (jw32 (16 * x2)))) + 5)) ∧ g199 = g193) ∧ (∀ j : Int, j ≠ (jw32 ((jw32 (20 + (jw32 (16 * x2)))) + 5)) → g199 224 j = g193 224 j) := zt198
              have jst198 : g199 224 0 = g193 224 0 := zt198.2.2.2 0 (by omega)
              refine st_si jo_197 (show 0 ≤ x2 by omega) (show x2 < ((16 : Nat) : Int) by omega) (fun hx => (jba_197 _ _).2 hx) (fun g200 eg200 => ?_)
              have eg200 : g200 = jup g199 197 x2 t198 := eg200
              have fg200 : jfr w_X12_aside h g200 := jfr_up fg199 eg200 (by unfold w_X12_aside; omega)
              have e201 : g200 197 x2 = t198 := jup_s eg200
              refine st_gr jo_176 jr_176_24 ?_
              have e202 : jw32 ((jw32 (20 + (jw32 (16 * x2)))) + 6) = (jw32 (20 + (jw32 (16 * x2)))) + 6 := j32e (by omega) (by omega)
              refine st_gr jo_176 jr_176_24 ?_
              refine st_ai jo_198 (show 0 ≤ x2 by omega) (show x2 < ((16 : Nat) : Int) by omega) (fun v203 ev203 b204 => ?_)
              have ev203 : v203 = g200 198 x2 := ev203
              have b204 := (jba_198 x2 _).1 b204
              refine st_cv (na := 3) (st := [.inl a1, .inl v203, .inl (jw32 ((jw32 (20 + (jw32 (16 * x2)))) + 6)), .inr (.inr (.inl 176)), .inl x2, .inr (.inr (.inl 198))]) jo_176 rfl rfl rfl (c_X12_swap (jw32 ((jw32 (20 + (jw32 (16 * x2)))) + 6)) v203 a1 g200 (by omega) (by omega) (fun hx => (jk_df (by omega) (by omega) (by omega) _).2 hx)) rfl ?_
              rintro _ _ g206 ⟨rfl, ft205, t205, rfl, ht205, zt205⟩ kt205
              have kt205 : -2147483648 ≤ t205 ∧ t205 ≤ 2147483647 := kt205
              have fg206 : jfr w_X12_aside h g206 := jfr_tr fg200 ft205 (fun i k q => by unfold w_X12_swap at q; unfold w_X12_aside; omega)
              have zt205 : jbd 224 (jw32 ((jw32 (20 + (jw32 (16 * x2)))) + 6)) t205 ∧ (a1 = 0 → t205 = v203 ∧ g206 = jup g200 224 (jw32 ((jw32 (20 + (jw32 (16 * x2)))) + 6)) v203) ∧ (¬ a1 = 0 → t205 = g200 224 (jw32 ((jw32 (20 + (jw32 (16 * x2)))) + 6)) ∧ g206 = g200) ∧ (∀ j : Int, j ≠ (jw32 ((jw32 (20 + (jw32 (16 * x2)))) + 6)) → g206 224 j = g200 224 j) := zt205
              have jst205 : g206 224 0 = g200 224 0 := zt205.2.2.2 0 (by omega)
              refine st_si jo_198 (show 0 ≤ x2 by omega) (show x2 < ((16 : Nat) : Int) by omega) (fun hx => (jba_198 _ _).2 hx) (fun g207 eg207 => ?_)
              have eg207 : g207 = jup g206 198 x2 t205 := eg207
              have fg207 : jfr w_X12_aside h g207 := jfr_up fg206 eg207 (by unfold w_X12_aside; omega)
              have e208 : g207 198 x2 = t205 := jup_s eg207
              refine st_gr jo_176 jr_176_16 ?_
              have e209 : jw32 ((jw32 (20 + (jw32 (16 * x2)))) + 7) = (jw32 (20 + (jw32 (16 * x2)))) + 7 := j32e (by omega) (by omega)
              refine st_gr jo_176 jr_176_16 ?_
              refine st_ai jo_190 (show 0 ≤ x2 by omega) (show x2 < ((16 : Nat) : Int) by omega) (fun v210 ev210 b211 => ?_)
              have ev210 : v210 = g207 190 x2 := ev210
              have b211 := (jba_190 x2 _).1 b211
              refine st_cv (na := 3) (st := [.inl a1, .inl v210, .inl (jw32 ((jw32 (20 + (jw32 (16 * x2)))) + 7)), .inr (.inr (.inl 176)), .inl x2, .inr (.inr (.inl 190))]) jo_176 rfl rfl rfl (c_X12_swap (jw32 ((jw32 (20 + (jw32 (16 * x2)))) + 7)) v210 a1 g207 (by omega) (by omega) (fun hx => (jk_pr (by omega) (by omega) _).2 (by omega))) rfl ?_
              rintro _ _ g213 ⟨rfl, ft212, t212, rfl, ht212, zt212⟩ kt212
              have kt212 : -2147483648 ≤ t212 ∧ t212 ≤ 2147483647 := kt212
              have fg213 : jfr w_X12_aside h g213 := jfr_tr fg207 ft212 (fun i k q => by unfold w_X12_swap at q; unfold w_X12_aside; omega)
              have zt212 : jbd 224 (jw32 ((jw32 (20 + (jw32 (16 * x2)))) + 7)) t212 ∧ (a1 = 0 → t212 = v210 ∧ g213 = jup g207 224 (jw32 ((jw32 (20 + (jw32 (16 * x2)))) + 7)) v210) ∧ (¬ a1 = 0 → t212 = g207 224 (jw32 ((jw32 (20 + (jw32 (16 * x2)))) + 7)) ∧ g213 = g207) ∧ (∀ j : Int, j ≠ (jw32 ((jw32 (20 + (jw32 (16 * x2)))) + 7)) → g213 224 j = g207 224 j) := zt212
              have jct212 := (jk_pr (by omega) (by omega) _).1 zt212.1
              have jst212 : g213 224 0 = g207 224 0 := zt212.2.2.2 0 (by omega)
              refine st_si jo_190 (show 0 ≤ x2 by omega) (show x2 < ((16 : Nat) : Int) by omega) (fun hx => (jba_190 _ _).2 (show 0 ≤ t212 ∧ t212 ≤ 99 by omega)) (fun g214 eg214 => ?_)
              have eg214 : g214 = jup g213 190 x2 t212 := eg214
              have fg214 : jfr w_X12_aside h g214 := jfr_up fg213 eg214 (by unfold w_X12_aside; omega)
              have e215 : g214 190 x2 = t212 := jup_s eg214
              show jGo E l 149 229 229 _ 307 [.inr (.inr (.inl 176)), .inl a1, .inl x2, .inl (jw32 (20 + (jw32 (16 * x2)))), .inl 0] [] 229 jr0 g214
              have e216 : g214 224 0 = g213 224 0 := jup_o eg214 (by omega)
              have e217 : g207 224 0 = g206 224 0 := jup_o eg207 (by omega)
              have e218 : g200 224 0 = g199 224 0 := jup_o eg200 (by omega)
              have e219 : g193 224 0 = g191 224 0 := jup_o eg193 (by omega)
              have e220 : g55 224 0 = g54 224 0 := jup_o eg55 (by omega)
              have e221 : g48 224 0 = g47 224 0 := jup_o eg48 (by omega)
              have e222 : g41 224 0 = g40 224 0 := jup_o eg41 (by omega)
              have e223 : g34 224 0 = g33 224 0 := jup_o eg34 (by omega)
              have e224 : g214 176 0 = g213 176 0 := jup_o eg214 (by omega)
              have e225 : g213 176 0 = g207 176 0 := ft212 176 0 (by unfold w_X12_swap; omega)
              have e226 : g207 176 0 = g206 176 0 := jup_o eg207 (by omega)
              have e227 : g206 176 0 = g200 176 0 := ft205 176 0 (by unfold w_X12_swap; omega)
              have e228 : g200 176 0 = g199 176 0 := jup_o eg200 (by omega)
              have e229 : g199 176 0 = g193 176 0 := ft198 176 0 (by unfold w_X12_swap; omega)
              have e230 : g193 176 0 = g191 176 0 := jup_o eg193 (by omega)
              have e231 : g191 176 0 = g55 176 0 := ft190 176 0 (by unfold w_X12_swap; omega)
              have e232 : g55 176 0 = g54 176 0 := jup_o eg55 (by omega)
              have e233 : g54 176 0 = g48 176 0 := ft53 176 0 (by unfold w_X12_swap; omega)
              have e234 : g48 176 0 = g47 176 0 := jup_o eg48 (by omega)
              have e235 : g47 176 0 = g41 176 0 := ft46 176 0 (by unfold w_X12_swap; omega)
              have e236 : g41 176 0 = g40 176 0 := jup_o eg41 (by omega)
              have e237 : g40 176 0 = g34 176 0 := ft39 176 0 (by unfold w_X12_swap; omega)
              have e238 : g34 176 0 = g33 176 0 := jup_o eg34 (by omega)
              have e239 : g33 176 0 = g 176 0 := ft32 176 0 (by unfold w_X12_swap; omega)
              have e240 : g214 176 0 = g213 176 0 := jup_o eg214 (by omega)
              have e241 : g213 176 0 = g207 176 0 := ft212 176 0 (by unfold w_X12_swap; omega)
              have e242 : g207 176 0 = g206 176 0 := jup_o eg207 (by omega)
              have e243 : g206 176 0 = g200 176 0 := ft205 176 0 (by unfold w_X12_swap; omega)
              have e244 : g200 176 0 = g199 176 0 := jup_o eg200 (by omega)
              have e245 : g199 176 0 = g193 176 0 := ft198 176 0 (by unfold w_X12_swap; omega)
              have e246 : g193 176 0 = g191 176 0 := jup_o eg193 (by omega)
              have e247 : g191 176 0 = g55 176 0 := ft190 176 0 (by unfold w_X12_swap; omega)
              have e248 : g55 176 0 = g54 176 0 := jup_o eg55 (by omega)
              have e249 : g54 176 0 = g48 176 0 := ft53 176 0 (by unfold w_X12_swap; omega)
              have e250 : g48 176 0 = g47 176 0 := jup_o eg48 (by omega)
              have e251 : g47 176 0 = g41 176 0 := ft46 176 0 (by unfold w_X12_swap; omega)
              have e252 : g41 176 0 = g40 176 0 := jup_o eg41 (by omega)
              have e253 : g40 176 0 = g34 176 0 := ft39 176 0 (by unfold w_X12_swap; omega)
              have e254 : g34 176 0 = g33 176 0 := jup_o eg34 (by omega)
              have e255 : g33 176 0 = g 176 0 := ft32 176 0 (by unfold w_X12_swap; omega)
              exact ih.2.2.1 x2 (jw32 (20 + (jw32 (16 * x2)))) 0 g214 (by omega) (by omega) (by omega) fg214 (by omega)
            · have c192 : t190 = 1 := by first | exact c192 | exact Int.not_le.mp c192 | exact Int.not_lt.mp c192 | exact Decidable.not_not.mp c192
              show jGo E l 149 229 229 _ 241 [.inr (.inr (.inl 176)), .inl a1, .inl x2, .inl (jw32 (20 + (jw32 (16 * x2)))), x4] [.inl 1, .inl x2, .inr (.inr (.inl 196))] 229 jr0 g191
              refine jGo_blk qX12_aside_241 ?_
              refine st_sb jo_196 (show 0 ≤ x2 by omega) (show x2 < ((16 : Nat) : Int) by omega) (fun hx => (jba_196 _ _).2 (show 0 ≤ 1 ∧ 1 ≤ 1 by omega)) (fun g256 eg256 => ?_)
              have eg256 : g256 = jup g191 196 x2 1 := eg256
              have fg256 : jfr w_X12_aside h g256 := jfr_up fg191 eg256 (by unfold w_X12_aside; omega)
              have e257 : g256 196 x2 = 1 := jup_s eg256
              refine st_gr jo_176 jr_176_23 ?_
              have e258 : jw32 ((jw32 (20 + (jw32 (16 * x2)))) + 5) = (jw32 (20 + (jw32 (16 * x2)))) + 5 := j32e (by omega) (by omega)
              refine st_gr jo_176 jr_176_23 ?_
              refine st_ai jo_197 (show 0 ≤ x2 by omega) (show x2 < ((16 : Nat) : Int) by omega) (fun v259 ev259 b260 => ?_)
              have ev259 : v259 = g256 197 x2 := ev259
              have b260 := (jba_197 x2 _).1 b260
              refine st_cv (na := 3) (st := [.inl a1, .inl v259, .inl (jw32 ((jw32 (20 + (jw32 (16 * x2)))) + 5)), .inr (.inr (.inl 176)), .inl x2, .inr (.inr (.inl 197))]) jo_176 rfl rfl rfl (c_X12_swap (jw32 ((jw32 (20 + (jw32 (16 * x2)))) + 5)) v259 a1 g256 (by omega) (by omega) (fun hx => (jk_df (by omega) (by omega) (by omega) _).2 hx)) rfl ?_
              rintro _ _ g262 ⟨rfl, ft261, t261, rfl, ht261, zt261⟩ kt261
              have kt261 : -2147483648 ≤ t261 ∧ t261 ≤ 2147483647 := kt261
              have fg262 : jfr w_X12_aside h g262 := jfr_tr fg256 ft261 (fun i k q => by unfold w_X12_swap at q; unfold w_X12_aside; omega)
              have zt261 : jbd 224 (jw32 ((jw32 (20 + (jw32 (16 * x2)))) + 5)) t261 ∧ (a1 = 0 → t261 = v259 ∧ g262 = jup g256 224 (jw32 ((jw32 (20 + (jw32 (16 * x2)))) + 5)) v259) ∧ (¬ a1 = 0 → t261 = g256 224 (jw32 ((jw32 (20 + (jw32 (16 * x2)))) + 5)) ∧ g262 = g256) ∧ (∀ j : Int, j ≠ (jw32 ((jw32 (20 + (jw32 (16 * x2)))) + 5)) → g262 224 j = g256 224 j) := zt261
              have jst261 : g262 224 0 = g256 224 0 := zt261.2.2.2 0 (by omega)
              refine st_si jo_197 (show 0 ≤ x2 by omega) (show x2 < ((16 : Nat) : Int) by omega) (fun hx => (jba_197 _ _).2 hx) (fun g263 eg263 => ?_)
              have eg263 : g263 = jup g262 197 x2 t261 := eg263
              have fg263 : jfr w_X12_aside h g263 := jfr_up fg262 eg263 (by unfold w_X12_aside; omega)
              have e264 : g263 197 x2 = t261 := jup_s eg263
              refine st_gr jo_176 jr_176_24 ?_
              have e265 : jw32 ((jw32 (20 + (jw32 (16 * x2)))) + 6) = (jw32 (20 + (jw32 (16 * x2)))) + 6 := j32e (by omega) (by omega)
              refine st_gr jo_176 jr_176_24 ?_
              refine st_ai jo_198 (show 0 ≤ x2 by omega) (show x2 < ((16 : Nat) : Int) by omega) (fun v266 ev266 b267 => ?_)
              have ev266 : v266 = g263 198 x2 := ev266
              have b267 := (jba_198 x2 _).1 b267
              refine st_cv (na := 3) (st := [.inl a1, .inl v266, .inl (jw32 ((jw32 (20 + (jw32 (16 * x2)))) + 6)), .inr (.inr (.inl 176)), .inl x2, .inr (.inr (.inl 198))]) jo_176 rfl rfl rfl (c_X12_swap (jw32 ((jw32 (20 + (jw32 (16 * x2)))) + 6)) v266 a1 g263 (by omega) (by omega) (fun hx => (jk_df (by omega) (by omega) (by omega) _).2 hx)) rfl ?_
              rintro _ _ g269 ⟨rfl, ft268, t268, rfl, ht268, zt268⟩ kt268
              have kt268 : -2147483648 ≤ t268 ∧ t268 ≤ 2147483647 := kt268
              have fg269 : jfr w_X12_aside h g269 := jfr_tr fg263 ft268 (fun i k q => by unfold w_X12_swap at q; unfold w_X12_aside; omega)
              have zt268 : jbd 224 (jw32 ((jw32 (20 + (jw32 (16 * x2)))) + 6)) t268 ∧ (a1 = 0 → t268 = v266 ∧ g269 = jup g263 224 (jw32 ((jw32 (20 + (jw32 (16 * x2)))) + 6)) v266) ∧ (¬ a1 = 0 → t268 = g263 224 (jw32 ((jw32 (20 + (jw32 (16 * x2)))) + 6)) ∧ g269 = g263) ∧ (∀ j : Int, j ≠ (jw32 ((jw32 (20 + (jw32 (16 * x2)))) + 6)) → g269 224 j = g263 224 j) := zt268
              have jst268 : g269 224 0 = g263 224 0 := zt268.2.2.2 0 (by omega)
              refine st_si jo_198 (show 0 ≤ x2 by omega) (show x2 < ((16 : Nat) : Int) by omega) (fun hx => (jba_198 _ _).2 hx) (fun g270 eg270 => ?_)
              have eg270 : g270 = jup g269 198 x2 t268 := eg270
              have fg270 : jfr w_X12_aside h g270 := jfr_up fg269 eg270 (by unfold w_X12_aside; omega)
              have e271 : g270 198 x2 = t268 := jup_s eg270
              refine st_gr jo_176 jr_176_16 ?_
              have e272 : jw32 ((jw32 (20 + (jw32 (16 * x2)))) + 7) = (jw32 (20 + (jw32 (16 * x2)))) + 7 := j32e (by omega) (by omega)
              refine st_gr jo_176 jr_176_16 ?_
              refine st_ai jo_190 (show 0 ≤ x2 by omega) (show x2 < ((16 : Nat) : Int) by omega) (fun v273 ev273 b274 => ?_)
              have ev273 : v273 = g270 190 x2 := ev273
              have b274 := (jba_190 x2 _).1 b274
              refine st_cv (na := 3) (st := [.inl a1, .inl v273, .inl (jw32 ((jw32 (20 + (jw32 (16 * x2)))) + 7)), .inr (.inr (.inl 176)), .inl x2, .inr (.inr (.inl 190))]) jo_176 rfl rfl rfl (c_X12_swap (jw32 ((jw32 (20 + (jw32 (16 * x2)))) + 7)) v273 a1 g270 (by omega) (by omega) (fun hx => (jk_pr (by omega) (by omega) _).2 (by omega))) rfl ?_
              rintro _ _ g276 ⟨rfl, ft275, t275, rfl, ht275, zt275⟩ kt275
              have kt275 : -2147483648 ≤ t275 ∧ t275 ≤ 2147483647 := kt275
              have fg276 : jfr w_X12_aside h g276 := jfr_tr fg270 ft275 (fun i k q => by unfold w_X12_swap at q; unfold w_X12_aside; omega)
              have zt275 : jbd 224 (jw32 ((jw32 (20 + (jw32 (16 * x2)))) + 7)) t275 ∧ (a1 = 0 → t275 = v273 ∧ g276 = jup g270 224 (jw32 ((jw32 (20 + (jw32 (16 * x2)))) + 7)) v273) ∧ (¬ a1 = 0 → t275 = g270 224 (jw32 ((jw32 (20 + (jw32 (16 * x2)))) + 7)) ∧ g276 = g270) ∧ (∀ j : Int, j ≠ (jw32 ((jw32 (20 + (jw32 (16 * x2)))) + 7)) → g276 224 j = g270 224 j) := zt275
              have jct275 := (jk_pr (by omega) (by omega) _).1 zt275.1
              have jst275 : g276 224 0 = g270 224 0 := zt275.2.2.2 0 (by omega)
              refine st_si jo_190 (show 0 ≤ x2 by omega) (show x2 < ((16 : Nat) : Int) by omega) (fun hx => (jba_190 _ _).2 (show 0 ≤ t275 ∧ t275 ≤ 99 by omega)) (fun g277 eg277 => ?_)
              have eg277 : g277 = jup g276 190 x2 t275 := eg277
              have fg277 : jfr w_X12_aside h g277 := jfr_up fg276 eg277 (by unfold w_X12_aside; omega)
              have e278 : g277 190 x2 = t275 := jup_s eg277
              show jGo E l 149 229 229 _ 307 [.inr (.inr (.inl 176)), .inl a1, .inl x2, .inl (jw32 (20 + (jw32 (16 * x2)))), .inl 0] [] 229 jr0 g277
              have e279 : g277 224 0 = g276 224 0 := jup_o eg277 (by omega)
              have e280 : g270 224 0 = g269 224 0 := jup_o eg270 (by omega)
              have e281 : g263 224 0 = g262 224 0 := jup_o eg263 (by omega)
              have e282 : g256 224 0 = g191 224 0 := jup_o eg256 (by omega)
              have e283 : g55 224 0 = g54 224 0 := jup_o eg55 (by omega)
              have e284 : g48 224 0 = g47 224 0 := jup_o eg48 (by omega)
              have e285 : g41 224 0 = g40 224 0 := jup_o eg41 (by omega)
              have e286 : g34 224 0 = g33 224 0 := jup_o eg34 (by omega)
              have e287 : g277 176 0 = g276 176 0 := jup_o eg277 (by omega)
              have e288 : g276 176 0 = g270 176 0 := ft275 176 0 (by unfold w_X12_swap; omega)
              have e289 : g270 176 0 = g269 176 0 := jup_o eg270 (by omega)
              have e290 : g269 176 0 = g263 176 0 := ft268 176 0 (by unfold w_X12_swap; omega)
              have e291 : g263 176 0 = g262 176 0 := jup_o eg263 (by omega)
              have e292 : g262 176 0 = g256 176 0 := ft261 176 0 (by unfold w_X12_swap; omega)
              have e293 : g256 176 0 = g191 176 0 := jup_o eg256 (by omega)
              have e294 : g191 176 0 = g55 176 0 := ft190 176 0 (by unfold w_X12_swap; omega)
              have e295 : g55 176 0 = g54 176 0 := jup_o eg55 (by omega)
              have e296 : g54 176 0 = g48 176 0 := ft53 176 0 (by unfold w_X12_swap; omega)
              have e297 : g48 176 0 = g47 176 0 := jup_o eg48 (by omega)
              have e298 : g47 176 0 = g41 176 0 := ft46 176 0 (by unfold w_X12_swap; omega)
              have e299 : g41 176 0 = g40 176 0 := jup_o eg41 (by omega)
              have e300 : g40 176 0 = g34 176 0 := ft39 176 0 (by unfold w_X12_swap; omega)
              have e301 : g34 176 0 = g33 176 0 := jup_o eg34 (by omega)
              have e302 : g33 176 0 = g 176 0 := ft32 176 0 (by unfold w_X12_swap; omega)
              have e303 : g277 176 0 = g276 176 0 := jup_o eg277 (by omega)
              have e304 : g276 176 0 = g270 176 0 := ft275 176 0 (by unfold w_X12_swap; omega)
              have e305 : g270 176 0 = g269 176 0 := jup_o eg270 (by omega)
              have e306 : g269 176 0 = g263 176 0 := ft268 176 0 (by unfold w_X12_swap; omega)
              have e307 : g263 176 0 = g262 176 0 := jup_o eg263 (by omega)
              have e308 : g262 176 0 = g256 176 0 := ft261 176 0 (by unfold w_X12_swap; omega)
              have e309 : g256 176 0 = g191 176 0 := jup_o eg256 (by omega)
              have e310 : g191 176 0 = g55 176 0 := ft190 176 0 (by unfold w_X12_swap; omega)
              have e311 : g55 176 0 = g54 176 0 := jup_o eg55 (by omega)
              have e312 : g54 176 0 = g48 176 0 := ft53 176 0 (by unfold w_X12_swap; omega)
              have e313 : g48 176 0 = g47 176 0 := jup_o eg48 (by omega)
              have e314 : g47 176 0 = g41 176 0 := ft46 176 0 (by unfold w_X12_swap; omega)
              have e315 : g41 176 0 = g40 176 0 := jup_o eg41 (by omega)
              have e316 : g40 176 0 = g34 176 0 := ft39 176 0 (by unfold w_X12_swap; omega)
              have e317 : g34 176 0 = g33 176 0 := jup_o eg34 (by omega)
              have e318 : g33 176 0 = g 176 0 := ft32 176 0 (by unfold w_X12_swap; omega)
              exact ih.2.2.1 x2 (jw32 (20 + (jw32 (16 * x2)))) 0 g277 (by omega) (by omega) (by omega) fg277 (by omega)
      · intro x2 x3 x4 g hi hx0 hx1 hf hN
        refine jGo_blk qX12_aside_307 ?_
        refine And.intro (fun c319 => ?_) (fun c319 => ?_)
        · have c319 : 6 ≤ x4 := c319
          show jGo E l 149 229 229 _ 356 [.inr (.inr (.inl 176)), .inl a1, .inl x2, .inl x3, .inl x4] [] 229 jr0 g
          refine jGo_blk qX12_aside_356 ?_
          have e320 : jw32 (x2 + 1) = x2 + 1 := j32e (by omega) (by omega)
          show jGo E l 149 229 229 _ 113 [.inr (.inr (.inl 176)), .inl a1, .inl (jw32 (x2 + 1)), .inl x3, .inl x4] [] 229 jr0 g
          exact ih.2.1 (jw32 (x2 + 1)) (.inl x3) (.inl x4) g (by omega) (by omega) hf (by omega)
        · have c319 : x4 < 6 := by first | exact c319 | exact Int.not_le.mp c319 | exact Int.not_lt.mp c319 | exact Decidable.not_not.mp c319
          refine st_gr jo_176 jr_176_25 ?_
          have e321 : jw32 (6 * x2) = 6 * x2 := j32e (by omega) (by omega)
          have e322 : jw32 ((jw32 (6 * x2)) + x4) = (jw32 (6 * x2)) + x4 := j32e (by omega) (by omega)
          have e323 : jw32 (x3 + 8) = x3 + 8 := j32e (by omega) (by omega)
          have e324 : jw32 ((jw32 (x3 + 8)) + x4) = (jw32 (x3 + 8)) + x4 := j32e (by omega) (by omega)
          refine st_gr jo_176 jr_176_25 ?_
          have e325 : jw32 (6 * x2) = 6 * x2 := j32e (by omega) (by omega)
          have e326 : jw32 ((jw32 (6 * x2)) + x4) = (jw32 (6 * x2)) + x4 := j32e (by omega) (by omega)
          refine st_ai jo_199 (show 0 ≤ jw32 ((jw32 (6 * x2)) + x4) by omega) (show jw32 ((jw32 (6 * x2)) + x4) < ((96 : Nat) : Int) by omega) (fun v327 ev327 b328 => ?_)
          have ev327 : v327 = g 199 (jw32 ((jw32 (6 * x2)) + x4)) := ev327
          have b328 := (jba_199 (jw32 ((jw32 (6 * x2)) + x4)) _).1 b328
          refine st_cv (na := 3) (st := [.inl a1, .inl v327, .inl (jw32 ((jw32 (x3 + 8)) + x4)), .inr (.inr (.inl 176)), .inl (jw32 ((jw32 (6 * x2)) + x4)), .inr (.inr (.inl 199))]) jo_176 rfl rfl rfl (c_X12_swap (jw32 ((jw32 (x3 + 8)) + x4)) v327 a1 g (by omega) (by omega) (fun hx => (jk_df (by omega) (by omega) (by omega) _).2 hx)) rfl ?_
          rintro _ _ g330 ⟨rfl, ft329, t329, rfl, ht329, zt329⟩ kt329
          have kt329 : -2147483648 ≤ t329 ∧ t329 ≤ 2147483647 := kt329
          have fg330 : jfr w_X12_aside h g330 := jfr_tr hf ft329 (fun i k q => by unfold w_X12_swap at q; unfold w_X12_aside; omega)
          have zt329 : jbd 224 (jw32 ((jw32 (x3 + 8)) + x4)) t329 ∧ (a1 = 0 → t329 = v327 ∧ g330 = jup g 224 (jw32 ((jw32 (x3 + 8)) + x4)) v327) ∧ (¬ a1 = 0 → t329 = g 224 (jw32 ((jw32 (x3 + 8)) + x4)) ∧ g330 = g) ∧ (∀ j : Int, j ≠ (jw32 ((jw32 (x3 + 8)) + x4)) → g330 224 j = g 224 j) := zt329
          have jst329 : g330 224 0 = g 224 0 := zt329.2.2.2 0 (by omega)
          refine st_si jo_199 (show 0 ≤ jw32 ((jw32 (6 * x2)) + x4) by omega) (show jw32 ((jw32 (6 * x2)) + x4) < ((96 : Nat) : Int) by omega) (fun hx => (jba_199 _ _).2 hx) (fun g331 eg331 => ?_)
          have eg331 : g331 = jup g330 199 (jw32 ((jw32 (6 * x2)) + x4)) t329 := eg331
          have fg331 : jfr w_X12_aside h g331 := jfr_up fg330 eg331 (by unfold w_X12_aside; omega)
          have e332 : g331 199 (jw32 ((jw32 (6 * x2)) + x4)) = t329 := jup_s eg331
          have e333 : jw32 (x4 + 1) = x4 + 1 := j32e (by omega) (by omega)
          show jGo E l 149 229 229 _ 307 [.inr (.inr (.inl 176)), .inl a1, .inl x2, .inl x3, .inl (jw32 (x4 + 1))] [] 229 jr0 g331
          have e334 : g331 224 0 = g330 224 0 := jup_o eg331 (by omega)
          have e335 : g331 176 0 = g330 176 0 := jup_o eg331 (by omega)
          have e336 : g330 176 0 = g 176 0 := ft329 176 0 (by unfold w_X12_swap; omega)
          have e337 : g331 176 0 = g330 176 0 := jup_o eg331 (by omega)
          have e338 : g330 176 0 = g 176 0 := ft329 176 0 (by unfold w_X12_swap; omega)
          exact ih.2.2.1 x2 x3 (jw32 (x4 + 1)) g331 (by omega) (by omega) (by omega) fg331 (by omega)
      · intro x2 x3 x4 g hi hx0 hf hN
        refine jGo_blk qX12_aside_364 ?_
        refine And.intro (fun c339 => ?_) (fun c339 => ?_)
        · have c339 : 96 ≤ x2 := c339
          show jGo E l 149 229 229 _ 413 [.inr (.inr (.inl 176)), .inl a1, .inl x2, x3, x4] [] 229 jr0 g
          refine jGo_blk qX12_aside_413 ?_
          exact ⟨rfl, rfl, hf, rfl, (by omega)⟩
        · have c339 : x2 < 96 := by first | exact c339 | exact Int.not_le.mp c339 | exact Int.not_lt.mp c339 | exact Decidable.not_not.mp c339
          refine st_gr jo_176 jr_176_60 ?_
          refine And.intro (fun c340 => ?_) (fun c340 => ?_)
          · have c340 : a1 = 0 := c340
            show jGo E l 149 229 229 _ 388 [.inr (.inr (.inl 176)), .inl a1, .inl x2, x3, x4] [.inl x2, .inr (.inr (.inl 225))] 229 jr0 g
            refine jGo_blk qX12_aside_388 ?_
            refine st_gr jo_176 jr_176_26 ?_
            refine st_ai jo_200 (show 0 ≤ x2 by omega) (show x2 < ((96 : Nat) : Int) by omega) (fun v341 ev341 b342 => ?_)
            have ev341 : v341 = g 200 x2 := ev341
            have b342 := (jba_200 x2 _).1 b342
            show jGo E l 149 229 229 _ 394 [.inr (.inr (.inl 176)), .inl a1, .inl x2, x3, x4] [.inl v341, .inl x2, .inr (.inr (.inl 225))] 229 jr0 g
            refine jGo_blk qX12_aside_394 ?_
            refine st_si jo_225 (show 0 ≤ x2 by omega) (show x2 < ((96 : Nat) : Int) by omega) (fun hx => (jba_225 _ _).2 hx) (fun g343 eg343 => ?_)
            have eg343 : g343 = jup g 225 x2 v341 := eg343
            have fg343 : jfr w_X12_aside h g343 := jfr_up hf eg343 (by unfold w_X12_aside; omega)
            have e344 : g343 225 x2 = v341 := jup_s eg343
            refine st_gr jo_176 jr_176_26 ?_
            refine st_gr jo_176 jr_176_60 ?_
            refine st_ai jo_225 (show 0 ≤ x2 by omega) (show x2 < ((96 : Nat) : Int) by omega) (fun v345 ev345 b346 => ?_)
            have ev345 : v345 = g343 225 x2 := ev345
            have b346 := (jba_225 x2 _).1 b346
            refine st_si jo_200 (show 0 ≤ x2 by omega) (show x2 < ((96 : Nat) : Int) by omega) (fun hx => (jba_200 _ _).2 hx) (fun g347 eg347 => ?_)
            have eg347 : g347 = jup g343 200 x2 v345 := eg347
            have fg347 : jfr w_X12_aside h g347 := jfr_up fg343 eg347 (by unfold w_X12_aside; omega)
            have e348 : g347 200 x2 = v345 := jup_s eg347
            have e349 : jw32 (x2 + 1) = x2 + 1 := j32e (by omega) (by omega)
            show jGo E l 149 229 229 _ 364 [.inr (.inr (.inl 176)), .inl a1, .inl (jw32 (x2 + 1)), x3, x4] [] 229 jr0 g347
            have e350 : g347 224 0 = g343 224 0 := jup_o eg347 (by omega)
            have e351 : g343 224 0 = g 224 0 := jup_o eg343 (by omega)
            have e352 : g347 176 0 = g343 176 0 := jup_o eg347 (by omega)
            have e353 : g343 176 0 = g 176 0 := jup_o eg343 (by omega)
            have e354 : g347 176 0 = g343 176 0 := jup_o eg347 (by omega)
            have e355 : g343 176 0 = g 176 0 := jup_o eg343 (by omega)
            exact ih.2.2.2 (jw32 (x2 + 1)) x3 x4 g347 (by omega) (by omega) fg347 (by omega)
          · have c340 : ¬ a1 = 0 := by first | exact c340 | exact Int.not_le.mp c340 | exact Int.not_lt.mp c340 | exact Decidable.not_not.mp c340
            refine st_gr jo_176 jr_176_60 ?_
            refine st_ai jo_225 (show 0 ≤ x2 by omega) (show x2 < ((96 : Nat) : Int) by omega) (fun v356 ev356 b357 => ?_)
            have ev356 : v356 = g 225 x2 := ev356
            have b357 := (jba_225 x2 _).1 b357
            show jGo E l 149 229 229 _ 394 [.inr (.inr (.inl 176)), .inl a1, .inl x2, x3, x4] [.inl v356, .inl x2, .inr (.inr (.inl 225))] 229 jr0 g
            refine jGo_blk qX12_aside_394 ?_
            refine st_si jo_225 (show 0 ≤ x2 by omega) (show x2 < ((96 : Nat) : Int) by omega) (fun hx => (jba_225 _ _).2 hx) (fun g358 eg358 => ?_)
            have eg358 : g358 = jup g 225 x2 v356 := eg358
            have fg358 : jfr w_X12_aside h g358 := jfr_up hf eg358 (by unfold w_X12_aside; omega)
            have e359 : g358 225 x2 = v356 := jup_s eg358
            refine st_gr jo_176 jr_176_26 ?_
            refine st_gr jo_176 jr_176_60 ?_
            refine st_ai jo_225 (show 0 ≤ x2 by omega) (show x2 < ((96 : Nat) : Int) by omega) (fun v360 ev360 b361 => ?_)
            have ev360 : v360 = g358 225 x2 := ev360
            have b361 := (jba_225 x2 _).1 b361
            refine st_si jo_200 (show 0 ≤ x2 by omega) (show x2 < ((96 : Nat) : Int) by omega) (fun hx => (jba_200 _ _).2 hx) (fun g362 eg362 => ?_)
            have eg362 : g362 = jup g358 200 x2 v360 := eg362
            have fg362 : jfr w_X12_aside h g362 := jfr_up fg358 eg362 (by unfold w_X12_aside; omega)
            have e363 : g362 200 x2 = v360 := jup_s eg362
            have e364 : jw32 (x2 + 1) = x2 + 1 := j32e (by omega) (by omega)
            show jGo E l 149 229 229 _ 364 [.inr (.inr (.inl 176)), .inl a1, .inl (jw32 (x2 + 1)), x3, x4] [] 229 jr0 g362
            have e365 : g362 224 0 = g358 224 0 := jup_o eg362 (by omega)
            have e366 : g358 224 0 = g 224 0 := jup_o eg358 (by omega)
            have e367 : g362 176 0 = g358 176 0 := jup_o eg362 (by omega)
            have e368 : g358 176 0 = g 176 0 := jup_o eg358 (by omega)
            have e369 : g362 176 0 = g358 176 0 := jup_o eg362 (by omega)
            have e370 : g358 176 0 = g 176 0 := jup_o eg358 (by omega)
            exact ih.2.2.2 (jw32 (x2 + 1)) x3 x4 g362 (by omega) (by omega) fg362 (by omega)
  refine jGo_blk qX12_aside_0 ?_
  refine st_gi jo_176 (fun v371 ev371 b372 => ?_)
  have ev371 : v371 = h 176 0 := ev371
  have b372 := (jbf_12_0 jo_176 _).1 b372
  refine st_cv (na := 3) (st := [.inl a1, .inl v371, .inl 0, .inr (.inr (.inl 176)), .inr (.inr (.inl 176))]) jo_176 rfl rfl rfl (c_X12_swap 0 v371 a1 h (by omega) (by omega) (fun hx => (jk_day _).2 (by omega))) rfl ?_
  rintro _ _ g374 ⟨rfl, ft373, t373, rfl, ht373, zt373⟩ kt373
  have kt373 : -2147483648 ≤ t373 ∧ t373 ≤ 2147483647 := kt373
  have fg374 : jfr w_X12_aside h g374 := jfr_tr f0 ft373 (fun i k q => by unfold w_X12_swap at q; unfold w_X12_aside; omega)
  have zt373 : jbd 224 (0 : Int) t373 ∧ (a1 = 0 → t373 = v371 ∧ g374 = jup h 224 (0 : Int) v371) ∧ (¬ a1 = 0 → t373 = h 224 (0 : Int) ∧ g374 = h) ∧ (∀ j : Int, j ≠ (0 : Int) → g374 224 j = h 224 j) := zt373
  have jct373 := (jk_day _).1 zt373.1
  have jdt373 : (a1 = 0 → t373 = v371 ∧ g374 224 0 = v371) ∧ (¬ a1 = 0 → t373 = h 224 0) := ⟨fun q => ⟨(zt373.2.1 q).1, jup_s (zt373.2.1 q).2⟩, fun q => (zt373.2.2.1 q).1⟩
  refine st_pi jo_176 (fun hx => (jbf_12_0 jo_176 _).2 (show 0 ≤ t373 ∧ t373 ≤ 2300 by omega)) (fun g375 eg375 => ?_)
  have eg375 : g375 = jup g374 176 0 t373 := eg375
  have fg375 : jfr w_X12_aside h g375 := jfr_up fg374 eg375 (by unfold w_X12_aside; omega)
  have e376 : g375 176 0 = t373 := jup_s eg375
  refine st_gi jo_176 (fun v377 ev377 b378 => ?_)
  have ev377 : v377 = g375 176 30 := ev377
  have b378 := (jbf_12_30 jo_176 _).1 b378
  have e379 : g375 176 30 = g374 176 30 := jup_o eg375 (by omega)
  have e380 : g374 176 30 = h 176 30 := ft373 176 30 (by unfold w_X12_swap; omega)
  refine st_cv (na := 3) (st := [.inl a1, .inl v377, .inl 1, .inr (.inr (.inl 176)), .inr (.inr (.inl 176))]) jo_176 rfl rfl rfl (c_X12_swap 1 v377 a1 g375 (by omega) (by omega) (fun hx => (jk_df (by omega) (by omega) (by omega) _).2 hx)) rfl ?_
  rintro _ _ g382 ⟨rfl, ft381, t381, rfl, ht381, zt381⟩ kt381
  have kt381 : -2147483648 ≤ t381 ∧ t381 ≤ 2147483647 := kt381
  have fg382 : jfr w_X12_aside h g382 := jfr_tr fg375 ft381 (fun i k q => by unfold w_X12_swap at q; unfold w_X12_aside; omega)
  have zt381 : jbd 224 (1 : Int) t381 ∧ (a1 = 0 → t381 = v377 ∧ g382 = jup g375 224 (1 : Int) v377) ∧ (¬ a1 = 0 → t381 = g375 224 (1 : Int) ∧ g382 = g375) ∧ (∀ j : Int, j ≠ (1 : Int) → g382 224 j = g375 224 j) := zt381
  have jst381 : g382 224 0 = g375 224 0 := zt381.2.2.2 0 (by omega)
  refine st_pi jo_176 (fun hx => (jbf_12_30 jo_176 _).2 hx) (fun g383 eg383 => ?_)
  have eg383 : g383 = jup g382 176 30 t381 := eg383
  have fg383 : jfr w_X12_aside h g383 := jfr_up fg382 eg383 (by unfold w_X12_aside; omega)
  have e384 : g383 176 30 = t381 := jup_s eg383
  refine st_gi jo_176 (fun v385 ev385 b386 => ?_)
  have ev385 : v385 = g383 176 31 := ev385
  have b386 := (jbf_12_31 jo_176 _).1 b386
  have e387 : g383 176 31 = g382 176 31 := jup_o eg383 (by omega)
  have e388 : g382 176 31 = g375 176 31 := ft381 176 31 (by unfold w_X12_swap; omega)
  have e389 : g375 176 31 = g374 176 31 := jup_o eg375 (by omega)
  have e390 : g374 176 31 = h 176 31 := ft373 176 31 (by unfold w_X12_swap; omega)
  refine st_cv (na := 3) (st := [.inl a1, .inl v385, .inl 2, .inr (.inr (.inl 176)), .inr (.inr (.inl 176))]) jo_176 rfl rfl rfl (c_X12_swap 2 v385 a1 g383 (by omega) (by omega) (fun hx => (jk_df (by omega) (by omega) (by omega) _).2 hx)) rfl ?_
  rintro _ _ g392 ⟨rfl, ft391, t391, rfl, ht391, zt391⟩ kt391
  have kt391 : -2147483648 ≤ t391 ∧ t391 ≤ 2147483647 := kt391
  have fg392 : jfr w_X12_aside h g392 := jfr_tr fg383 ft391 (fun i k q => by unfold w_X12_swap at q; unfold w_X12_aside; omega)
  have zt391 : jbd 224 (2 : Int) t391 ∧ (a1 = 0 → t391 = v385 ∧ g392 = jup g383 224 (2 : Int) v385) ∧ (¬ a1 = 0 → t391 = g383 224 (2 : Int) ∧ g392 = g383) ∧ (∀ j : Int, j ≠ (2 : Int) → g392 224 j = g383 224 j) := zt391
  have jst391 : g392 224 0 = g383 224 0 := zt391.2.2.2 0 (by omega)
  refine st_pi jo_176 (fun hx => (jbf_12_31 jo_176 _).2 hx) (fun g393 eg393 => ?_)
  have eg393 : g393 = jup g392 176 31 t391 := eg393
  have fg393 : jfr w_X12_aside h g393 := jfr_up fg392 eg393 (by unfold w_X12_aside; omega)
  have e394 : g393 176 31 = t391 := jup_s eg393
  refine st_gi jo_176 (fun v395 ev395 b396 => ?_)
  have ev395 : v395 = g393 176 32 := ev395
  have b396 := (jbf_12_32 jo_176 _).1 b396
  have e397 : g393 176 32 = g392 176 32 := jup_o eg393 (by omega)
  have e398 : g392 176 32 = g383 176 32 := ft391 176 32 (by unfold w_X12_swap; omega)
  have e399 : g383 176 32 = g382 176 32 := jup_o eg383 (by omega)
  have e400 : g382 176 32 = g375 176 32 := ft381 176 32 (by unfold w_X12_swap; omega)
  have e401 : g375 176 32 = g374 176 32 := jup_o eg375 (by omega)
  have e402 : g374 176 32 = h 176 32 := ft373 176 32 (by unfold w_X12_swap; omega)
  refine st_cv (na := 3) (st := [.inl a1, .inl v395, .inl 3, .inr (.inr (.inl 176)), .inr (.inr (.inl 176))]) jo_176 rfl rfl rfl (c_X12_swap 3 v395 a1 g393 (by omega) (by omega) (fun hx => (jk_df (by omega) (by omega) (by omega) _).2 hx)) rfl ?_
  rintro _ _ g404 ⟨rfl, ft403, t403, rfl, ht403, zt403⟩ kt403
  have kt403 : -2147483648 ≤ t403 ∧ t403 ≤ 2147483647 := kt403
  have fg404 : jfr w_X12_aside h g404 := jfr_tr fg393 ft403 (fun i k q => by unfold w_X12_swap at q; unfold w_X12_aside; omega)
  have zt403 : jbd 224 (3 : Int) t403 ∧ (a1 = 0 → t403 = v395 ∧ g404 = jup g393 224 (3 : Int) v395) ∧ (¬ a1 = 0 → t403 = g393 224 (3 : Int) ∧ g404 = g393) ∧ (∀ j : Int, j ≠ (3 : Int) → g404 224 j = g393 224 j) := zt403
  have jst403 : g404 224 0 = g393 224 0 := zt403.2.2.2 0 (by omega)
  refine st_pi jo_176 (fun hx => (jbf_12_32 jo_176 _).2 hx) (fun g405 eg405 => ?_)
  have eg405 : g405 = jup g404 176 32 t403 := eg405
  have fg405 : jfr w_X12_aside h g405 := jfr_up fg404 eg405 (by unfold w_X12_aside; omega)
  have e406 : g405 176 32 = t403 := jup_s eg405
  show jGo E l 149 229 229 _ 58 [.inr (.inr (.inl 176)), .inl a1, .inl 0, .inr (.inr (.inr ())), .inr (.inr (.inr ()))] [] 229 jr0 g405
  have e407 : g405 224 0 = g404 224 0 := jup_o eg405 (by omega)
  have e408 : g393 224 0 = g392 224 0 := jup_o eg393 (by omega)
  have e409 : g383 224 0 = g382 224 0 := jup_o eg383 (by omega)
  have e410 : g375 224 0 = g374 224 0 := jup_o eg375 (by omega)
  have e411 : g405 176 0 = g404 176 0 := jup_o eg405 (by omega)
  have e412 : g404 176 0 = g393 176 0 := ft403 176 0 (by unfold w_X12_swap; omega)
  have e413 : g393 176 0 = g392 176 0 := jup_o eg393 (by omega)
  have e414 : g392 176 0 = g383 176 0 := ft391 176 0 (by unfold w_X12_swap; omega)
  have e415 : g383 176 0 = g382 176 0 := jup_o eg383 (by omega)
  have e416 : g382 176 0 = g375 176 0 := ft381 176 0 (by unfold w_X12_swap; omega)
  have e417 : g405 176 0 = g404 176 0 := jup_o eg405 (by omega)
  have e418 : g404 176 0 = g393 176 0 := ft403 176 0 (by unfold w_X12_swap; omega)
  have e419 : g393 176 0 = g392 176 0 := jup_o eg393 (by omega)
  have e420 : g392 176 0 = g383 176 0 := ft391 176 0 (by unfold w_X12_swap; omega)
  have e421 : g383 176 0 = g382 176 0 := jup_o eg383 (by omega)
  have e422 : g382 176 0 = g375 176 0 := ft381 176 0 (by unfold w_X12_swap; omega)
  exact (key 1000000000000000000).1 0 g405 (by omega) (by omega) fg405 (by omega)
