def k_X7_sumOfLate (h : JH) (v : Option JV) (r' g : JH) : Prop := r' = jr0 ∧ h = g ∧ ∃ x : Int, v = some (.inl x) ∧ (True) ∧ (True)
set_option maxHeartbeats 4000000 in
theorem c_X7_sumOfLate {E : JE} {l : Launch} (h : JH) : jMt E l 158 [.inr (.inr (.inl 111))] 229 jr0 h (k_X7_sumOfLate h) := by
  refine jMt0 (nL := 4) (ls := [.inr (.inr (.inl 111)), .inr (.inr (.inr ())), .inr (.inr (.inr ())), .inr (.inr (.inr ()))]) (by decide +kernel) (by decide +kernel) (by decide +kernel) rfl rfl ?_
  have key : ∀ N : Nat, (∀ (x1 : Int) (x2 : Int) (x3 : JV), (0 ≤ x2 ∧ x2 ≤ 5) → (5 - x2) < (N : Int) → jGo E l 158 229 229 (jRK (k_X7_sumOfLate h)) 4 [.inr (.inr (.inl 111)), .inl x1, .inl x2, x3] [] 229 jr0 h) := by
    intro N
    induction N with
    | zero => exact fun _ _ _ hi hN => absurd hN (by omega)
    | succ N ih =>
      intro x1 x2 x3 hi hN
      refine jGo_ok (fun hls _ => ?_)
      have rx1 : -2147483648 ≤ x1 ∧ x1 ≤ 2147483647 := hls (.inl x1) (by simp)
      refine jGo_blk qX7_sumOfLate_4 ?_
      refine st_gi jo_111 (fun v1 ev1 b2 => ?_)
      replace ev1 : v1 = h 111 2 := ev1
      replace b2 := (jbf_7_2 jo_111 _).1 b2
      refine And.intro (fun c3 => ?_) (fun c3 => ?_)
      · replace c3 : v1 ≤ x2 := c3
        show jGo E l 158 229 229 _ 51 [.inr (.inr (.inl 111)), .inl x1, .inl x2, x3] [] 229 jr0 h
        refine jGo_blk qX7_sumOfLate_51 ?_
        exact st_r0 (ls := []) ⟨rfl, rfl, rfl, x1, rfl, trivial, trivial⟩
      · replace c3 : x2 < v1 := by first | exact c3 | exact Int.not_le.mp c3 | exact Int.not_lt.mp c3 | exact Decidable.not_not.mp c3
        refine st_gr jo_111 jr_111_6 ?_
        refine st_gr jo_119 jr_119_3 ?_
        refine st_gr jo_111 jr_111_8 ?_
        refine st_ai jo_175 (show 0 ≤ x2 by omega) (show x2 < ((5 : Nat) : Int) by omega) (fun v4 ev4 b5 => ?_)
        replace ev4 : v4 = h 175 x2 := ev4
        replace b5 := (jba_175 x2 _).1 b5
        refine st_ar jo_123 (by decide) (show 0 ≤ v4 by omega) (show v4 < ((16 : Nat) : Int) by omega) (fun u6 eu6 => ?_)
        replace eu6 : u6 = jr0 123 v4 := eu6
        have qu6 : u6 = 126 + 3 * v4 := eu6.trans (jhul_123 v4 (by omega) (by omega)).1
        have hu6 : jHl u6 := by rw [eu6]; exact (jhul_123 v4 (by omega) (by omega)).2
        refine And.intro (show u6 ≠ -1 by omega) ?_
        refine st_gi hu6.1 (fun v7 ev7 b8 => ?_)
        replace ev7 : v7 = h u6 9 := ev7
        replace b8 := (jbf_4_9 hu6.1 _).1 b8
        refine st_gi hu6.1 (fun v9 ev9 b10 => ?_)
        replace ev9 : v9 = h u6 2 := ev9
        replace b10 := (jbf_4_2 hu6.1 _).1 b10
        refine st_gi jo_111 (fun v11 ev11 b12 => ?_)
        replace ev11 : v11 = h 111 3 := ev11
        replace b12 := (jbf_7_3 jo_111 _).1 b12
        refine st_cs (na := 3) (st := [.inl v11, .inl v9, .inl v7, .inl x1]) rfl rfl rfl (c_X11_lateness v7 v9 v11 h) rfl ?_
        rintro _ _ _ ⟨rfl, rfl, t13, rfl, ht13, zt13⟩ kt13
        replace kt13 : -2147483648 ≤ t13 ∧ t13 ≤ 2147483647 := kt13
        have e15 : jw32 (x2 + 1) = x2 + 1 := j32e (by omega) (by omega)
        show jGo E l 158 229 229 _ 4 [.inr (.inr (.inl 111)), .inl (jw32 (x1 + t13)), .inl (jw32 (x2 + 1)), .inr (.inr (.inl u6))] [] 229 jr0 h
        exact ih (jw32 (x1 + t13)) (jw32 (x2 + 1)) (.inr (.inr (.inl u6))) (by omega) (by omega)
  refine jGo_blk qX7_sumOfLate_0 ?_
  show jGo E l 158 229 229 _ 4 [.inr (.inr (.inl 111)), .inl 0, .inl 0, .inr (.inr (.inr ()))] [] 229 jr0 h
  exact (key 1000000000000) 0 0 (.inr (.inr (.inr ()))) (by omega) (by omega)

def w_X7_swapTried (i k : Int) : Prop := (i = 175)
def k_X7_swapTried (a1 : Int) (a2 : Int) (h : JH) (v : Option JV) (r' g : JH) : Prop := r' = jr0 ∧ jfr w_X7_swapTried h g ∧ v = none ∧ (True)
set_option maxHeartbeats 4000000 in
theorem c_X7_swapTried {E : JE} {l : Launch} (a1 : Int) (a2 : Int) (h : JH) (p1 : 0 ≤ a1 ∧ a1 ≤ 4) (p2 : 0 ≤ a2 ∧ a2 ≤ 4) : jMt E l 159 [.inr (.inr (.inl 111)), .inl a1, .inl a2] 229 jr0 h (k_X7_swapTried a1 a2 h) := by
  refine jMt0 (nL := 4) (ls := [.inr (.inr (.inl 111)), .inl a1, .inl a2, .inr (.inr (.inr ()))]) (by decide +kernel) (by decide +kernel) (by decide +kernel) rfl rfl ?_
  have f0 : jfr w_X7_swapTried h h := jfr_rf _ _
  refine jGo_blk qX7_swapTried_0 ?_
  refine st_gr jo_111 jr_111_8 ?_
  refine st_ai jo_175 (show 0 ≤ a1 by omega) (show a1 < ((5 : Nat) : Int) by omega) (fun v1 ev1 b2 => ?_)
  replace ev1 : v1 = h 175 a1 := ev1
  replace b2 := (jba_175 a1 _).1 b2
  refine st_gr jo_111 jr_111_8 ?_
  refine st_gr jo_111 jr_111_8 ?_
  refine st_ai jo_175 (show 0 ≤ a2 by omega) (show a2 < ((5 : Nat) : Int) by omega) (fun v3 ev3 b4 => ?_)
  replace ev3 : v3 = h 175 a2 := ev3
  replace b4 := (jba_175 a2 _).1 b4
  refine st_si jo_175 (show 0 ≤ a1 by omega) (show a1 < ((5 : Nat) : Int) by omega) (fun hx => (jba_175 _ _).2 (show 0 ≤ v3 ∧ v3 ≤ 15 by omega)) (fun g5 eg5 => ?_)
  replace eg5 : g5 = jup h 175 a1 v3 := eg5
  have fg5 : jfr w_X7_swapTried h g5 := jfr_up f0 eg5 (by unfold w_X7_swapTried; omega)
  have e6 : g5 175 a1 = v3 := jup_s eg5
  refine st_gr jo_111 jr_111_8 ?_
  refine st_si jo_175 (show 0 ≤ a2 by omega) (show a2 < ((5 : Nat) : Int) by omega) (fun hx => (jba_175 _ _).2 (show 0 ≤ v1 ∧ v1 ≤ 15 by omega)) (fun g7 eg7 => ?_)
  replace eg7 : g7 = jup g5 175 a2 v1 := eg7
  have fg7 : jfr w_X7_swapTried h g7 := jfr_up fg5 eg7 (by unfold w_X7_swapTried; omega)
  have e8 : g7 175 a2 = v1 := jup_s eg7
  exact ⟨rfl, rfl, fg7, rfl, trivial⟩

def w_X7_nextOrder (i k : Int) : Prop := (i = 175)
def k_X7_nextOrder (h : JH) (v : Option JV) (r' g : JH) : Prop := r' = jr0 ∧ jfr w_X7_nextOrder h g ∧ v = none ∧ (True)
set_option maxHeartbeats 4000000 in
theorem c_X7_nextOrder {E : JE} {l : Launch} (h : JH) : jMt E l 160 [.inr (.inr (.inl 111))] 229 jr0 h (k_X7_nextOrder h) := by
  refine jMt0 (nL := 5) (ls := [.inr (.inr (.inl 111)), .inr (.inr (.inr ())), .inr (.inr (.inr ())), .inr (.inr (.inr ())), .inr (.inr (.inr ()))]) (by decide +kernel) (by decide +kernel) (by decide +kernel) rfl rfl ?_
  have f0 : jfr w_X7_nextOrder h h := jfr_rf _ _
  have key : ∀ N : Nat, (∀ (x1 : Int) (g : JH), ((-2) ≤ x1 ∧ x1 ≤ 3) → (x1 + 2 ≤ g 111 2) → jfr w_X7_nextOrder h g → (x1 - (-2)) + 40000 < (N : Int) → jGo E l 160 229 229 (jRK (k_X7_nextOrder h)) 7 [.inr (.inr (.inl 111)), .inl x1, .inr (.inr (.inr ())), .inr (.inr (.inr ())), .inr (.inr (.inr ()))] [] 229 jr0 g) ∧
      (∀ (x1 : Int) (x2 : Int) (g : JH), (0 ≤ x1 ∧ x1 ≤ 3 ∧ (-1) ≤ x2 ∧ x2 ≤ 4) → (x1 + 1 ≤ x2 ∧ 0 ≤ x1 ∧ x2 + 1 ≤ g 111 2) → jfr w_X7_nextOrder h g → (x2 - (-1)) + 20000 < (N : Int) → jGo E l 160 229 229 (jRK (k_X7_nextOrder h)) 46 [.inr (.inr (.inl 111)), .inl x1, .inl x2, .inr (.inr (.inr ())), .inr (.inr (.inr ()))] [] 229 jr0 g) ∧
      (∀ (x1 : Int) (x2 : Int) (x3 : Int) (x4 : Int) (g : JH), (0 ≤ x1 ∧ x1 ≤ 3 ∧ (-1) ≤ x2 ∧ x2 ≤ 4 ∧ (-1) ≤ x3 ∧ x3 ≤ 4 ∧ 1 ≤ x4 ∧ x4 ≤ 4) → jfr w_X7_nextOrder h g → (x3 - (-1)) < (N : Int) → jGo E l 160 229 229 (jRK (k_X7_nextOrder h)) 92 [.inr (.inr (.inl 111)), .inl x1, .inl x2, .inl x3, .inl x4] [] 229 jr0 g) := by
    intro N
    induction N with
    | zero => exact ⟨fun _ _ hi hx0 _ hN => absurd hN (by omega), fun _ _ _ hi hx0 _ hN => absurd hN (by omega), fun _ _ _ _ _ hi _ hN => absurd hN (by omega)⟩
    | succ N ih =>
      refine ⟨?_, ?_, ?_⟩
      · intro x1 g hi hx0 hf hN
        refine jGo_blk qX7_nextOrder_7 ?_
        refine And.intro (fun c1 => ?_) (fun c1 => ?_)
        · replace c1 : x1 < 0 := c1
          show jGo E l 160 229 229 _ 34 [.inr (.inr (.inl 111)), .inl x1, .inr (.inr (.inr ())), .inr (.inr (.inr ())), .inr (.inr (.inr ()))] [] 229 jr0 g
          refine jGo_blk qX7_nextOrder_34 ?_
          refine And.intro (fun c2 => ?_) (fun c2 => ?_)
          · replace c2 : 0 ≤ x1 := c2
            exfalso; omega
          · replace c2 : x1 < 0 := by first | exact c2 | exact Int.not_le.mp c2 | exact Int.not_lt.mp c2 | exact Decidable.not_not.mp c2
            exact ⟨rfl, rfl, hf, rfl, trivial⟩
        · replace c1 : 0 ≤ x1 := by first | exact c1 | exact Int.not_le.mp c1 | exact Int.not_lt.mp c1 | exact Decidable.not_not.mp c1
          refine st_gr jo_111 jr_111_8 ?_
          refine st_ai jo_175 (show 0 ≤ x1 by omega) (show x1 < ((5 : Nat) : Int) by omega) (fun v3 ev3 b4 => ?_)
          replace ev3 : v3 = g 175 x1 := ev3
          replace b4 := (jba_175 x1 _).1 b4
          refine st_gr jo_111 jr_111_8 ?_
          have e5 : jw32 (x1 + 1) = x1 + 1 := j32e (by omega) (by omega)
          refine st_ai jo_175 (show 0 ≤ jw32 (x1 + 1) by omega) (show jw32 (x1 + 1) < ((5 : Nat) : Int) by omega) (fun v6 ev6 b7 => ?_)
          replace ev6 : v6 = g 175 (jw32 (x1 + 1)) := ev6
          replace b7 := (jba_175 (jw32 (x1 + 1)) _).1 b7
          refine And.intro (fun c8 => ?_) (fun c8 => ?_)
          · replace c8 : v3 ≤ v6 := c8
            show jGo E l 160 229 229 _ 34 [.inr (.inr (.inl 111)), .inl x1, .inr (.inr (.inr ())), .inr (.inr (.inr ())), .inr (.inr (.inr ()))] [] 229 jr0 g
            refine jGo_blk qX7_nextOrder_34 ?_
            refine And.intro (fun c9 => ?_) (fun c9 => ?_)
            · replace c9 : 0 ≤ x1 := c9
              show jGo E l 160 229 229 _ 39 [.inr (.inr (.inl 111)), .inl x1, .inr (.inr (.inr ())), .inr (.inr (.inr ())), .inr (.inr (.inr ()))] [] 229 jr0 g
              refine jGo_blk qX7_nextOrder_39 ?_
              refine st_gi jo_111 (fun v10 ev10 b11 => ?_)
              replace ev10 : v10 = g 111 2 := ev10
              replace b11 := (jbf_7_2 jo_111 _).1 b11
              have e12 : jw32 (v10 - 1) = v10 - 1 := j32e (by omega) (by omega)
              show jGo E l 160 229 229 _ 46 [.inr (.inr (.inl 111)), .inl x1, .inl (jw32 (v10 - 1)), .inr (.inr (.inr ())), .inr (.inr (.inr ()))] [] 229 jr0 g
              exact ih.2.1 x1 (jw32 (v10 - 1)) g (by omega) (by omega) hf (by omega)
            · replace c9 : x1 < 0 := by first | exact c9 | exact Int.not_le.mp c9 | exact Int.not_lt.mp c9 | exact Decidable.not_not.mp c9
              exfalso; omega
          · replace c8 : v6 < v3 := by first | exact c8 | exact Int.not_le.mp c8 | exact Int.not_lt.mp c8 | exact Decidable.not_not.mp c8
            have e13 : jw32 (x1 + (-1)) = x1 + (-1) := j32e (by omega) (by omega)
            show jGo E l 160 229 229 _ 7 [.inr (.inr (.inl 111)), .inl (jw32 (x1 + (-1))), .inr (.inr (.inr ())), .inr (.inr (.inr ())), .inr (.inr (.inr ()))] [] 229 jr0 g
            exact ih.1 (jw32 (x1 + (-1))) g (by omega) (by omega) hf (by omega)
      · intro x1 x2 g hi hx0 hf hN
        refine jGo_blk qX7_nextOrder_46 ?_
        have e14 : jw32 (x1 + 1) = x1 + 1 := j32e (by omega) (by omega)
        refine And.intro (fun c15 => ?_) (fun c15 => ?_)
        · replace c15 : x2 ≤ jw32 (x1 + 1) := c15
          show jGo E l 160 229 229 _ 74 [.inr (.inr (.inl 111)), .inl x1, .inl x2, .inr (.inr (.inr ())), .inr (.inr (.inr ()))] [] 229 jr0 g
          refine jGo_blk qX7_nextOrder_74 ?_
          refine st_cv (na := 2) (st := [.inl x2, .inl x1, .inr (.inr (.inl 111))]) jo_111 rfl rfl rfl (c_X7_swapTried x1 x2 g (by omega) (by omega)) rfl ?_
          rintro _ _ g17 ⟨rfl, ft16, rfl, zt16⟩ kt16
          have fg17 : jfr w_X7_nextOrder h g17 := jfr_tr hf ft16 (fun i k q => by unfold w_X7_swapTried at q; unfold w_X7_nextOrder; omega)
          refine st_gi jo_111 (fun v18 ev18 b19 => ?_)
          replace ev18 : v18 = g17 111 2 := ev18
          replace b19 := (jbf_7_2 jo_111 _).1 b19
          have e20 : g17 111 2 = g 111 2 := ft16 111 2 (by unfold w_X7_swapTried; omega)
          have e21 : jw32 (v18 - 1) = v18 - 1 := j32e (by omega) (by omega)
          have e22 : jw32 (x1 + 1) = x1 + 1 := j32e (by omega) (by omega)
          show jGo E l 160 229 229 _ 92 [.inr (.inr (.inl 111)), .inl x1, .inl x2, .inl (jw32 (v18 - 1)), .inl (jw32 (x1 + 1))] [] 229 jr0 g17
          exact ih.2.2 x1 x2 (jw32 (v18 - 1)) (jw32 (x1 + 1)) g17 (by omega) fg17 (by omega)
        · replace c15 : jw32 (x1 + 1) < x2 := by first | exact c15 | exact Int.not_le.mp c15 | exact Int.not_lt.mp c15 | exact Decidable.not_not.mp c15
          refine st_gr jo_111 jr_111_8 ?_
          refine st_ai jo_175 (show 0 ≤ x2 by omega) (show x2 < ((5 : Nat) : Int) by omega) (fun v23 ev23 b24 => ?_)
          replace ev23 : v23 = g 175 x2 := ev23
          replace b24 := (jba_175 x2 _).1 b24
          refine st_gr jo_111 jr_111_8 ?_
          refine st_ai jo_175 (show 0 ≤ x1 by omega) (show x1 < ((5 : Nat) : Int) by omega) (fun v25 ev25 b26 => ?_)
          replace ev25 : v25 = g 175 x1 := ev25
          replace b26 := (jba_175 x1 _).1 b26
          refine And.intro (fun c27 => ?_) (fun c27 => ?_)
          · replace c27 : v25 ≤ v23 := c27
            show jGo E l 160 229 229 _ 74 [.inr (.inr (.inl 111)), .inl x1, .inl x2, .inr (.inr (.inr ())), .inr (.inr (.inr ()))] [] 229 jr0 g
            refine jGo_blk qX7_nextOrder_74 ?_
            refine st_cv (na := 2) (st := [.inl x2, .inl x1, .inr (.inr (.inl 111))]) jo_111 rfl rfl rfl (c_X7_swapTried x1 x2 g (by omega) (by omega)) rfl ?_
            rintro _ _ g29 ⟨rfl, ft28, rfl, zt28⟩ kt28
            have fg29 : jfr w_X7_nextOrder h g29 := jfr_tr hf ft28 (fun i k q => by unfold w_X7_swapTried at q; unfold w_X7_nextOrder; omega)
            refine st_gi jo_111 (fun v30 ev30 b31 => ?_)
            replace ev30 : v30 = g29 111 2 := ev30
            replace b31 := (jbf_7_2 jo_111 _).1 b31
            have e32 : g29 111 2 = g 111 2 := ft28 111 2 (by unfold w_X7_swapTried; omega)
            have e33 : jw32 (v30 - 1) = v30 - 1 := j32e (by omega) (by omega)
            have e34 : jw32 (x1 + 1) = x1 + 1 := j32e (by omega) (by omega)
            show jGo E l 160 229 229 _ 92 [.inr (.inr (.inl 111)), .inl x1, .inl x2, .inl (jw32 (v30 - 1)), .inl (jw32 (x1 + 1))] [] 229 jr0 g29
            exact ih.2.2 x1 x2 (jw32 (v30 - 1)) (jw32 (x1 + 1)) g29 (by omega) fg29 (by omega)
          · replace c27 : v23 < v25 := by first | exact c27 | exact Int.not_le.mp c27 | exact Int.not_lt.mp c27 | exact Decidable.not_not.mp c27
            have e35 : jw32 (x2 + (-1)) = x2 + (-1) := j32e (by omega) (by omega)
            show jGo E l 160 229 229 _ 46 [.inr (.inr (.inl 111)), .inl x1, .inl (jw32 (x2 + (-1))), .inr (.inr (.inr ())), .inr (.inr (.inr ()))] [] 229 jr0 g
            exact ih.2.1 x1 (jw32 (x2 + (-1))) g (by omega) (by omega) hf (by omega)
      · intro x1 x2 x3 x4 g hi hf hN
        refine jGo_blk qX7_nextOrder_92 ?_
        refine And.intro (fun c36 => ?_) (fun c36 => ?_)
        · replace c36 : x3 ≤ x4 := c36
          show jGo E l 160 229 229 _ 114 [.inr (.inr (.inl 111)), .inl x1, .inl x2, .inl x3, .inl x4] [] 229 jr0 g
          refine jGo_blk qX7_nextOrder_114 ?_
          exact ⟨rfl, rfl, hf, rfl, trivial⟩
        · replace c36 : x4 < x3 := by first | exact c36 | exact Int.not_le.mp c36 | exact Int.not_lt.mp c36 | exact Decidable.not_not.mp c36
          refine st_cv (na := 2) (st := [.inl x3, .inl x4, .inr (.inr (.inl 111))]) jo_111 rfl rfl rfl (c_X7_swapTried x4 x3 g (by omega) (by omega)) rfl ?_
          rintro _ _ g38 ⟨rfl, ft37, rfl, zt37⟩ kt37
          have fg38 : jfr w_X7_nextOrder h g38 := jfr_tr hf ft37 (fun i k q => by unfold w_X7_swapTried at q; unfold w_X7_nextOrder; omega)
          have e39 : jw32 (x3 + (-1)) = x3 + (-1) := j32e (by omega) (by omega)
          have e40 : jw32 (x4 + 1) = x4 + 1 := j32e (by omega) (by omega)
          show jGo E l 160 229 229 _ 92 [.inr (.inr (.inl 111)), .inl x1, .inl x2, .inl (jw32 (x3 + (-1))), .inl (jw32 (x4 + 1))] [] 229 jr0 g38
          exact ih.2.2 x1 x2 (jw32 (x3 + (-1))) (jw32 (x4 + 1)) g38 (by omega) fg38 (by omega)
  refine jGo_blk qX7_nextOrder_0 ?_
  refine st_gi jo_111 (fun v41 ev41 b42 => ?_)
  replace ev41 : v41 = h 111 2 := ev41
  replace b42 := (jbf_7_2 jo_111 _).1 b42
  have e43 : jw32 (v41 - 2) = v41 - 2 := j32e (by omega) (by omega)
  show jGo E l 160 229 229 _ 7 [.inr (.inr (.inl 111)), .inl (jw32 (v41 - 2)), .inr (.inr (.inr ())), .inr (.inr (.inr ())), .inr (.inr (.inr ()))] [] 229 jr0 h
  exact (key 1000000000000).1 (jw32 (v41 - 2)) h (by omega) (by omega) f0 (by omega)

def w_X7_findLeast_29 (i k : Int) : Prop := (i = 112) ∨ (120 ≤ i ∧ i ≤ 121) ∨ (124 ≤ i ∧ i ≤ 173) ∨ (i = 175) ∨ (i = 111 ∧ k = 0) ∨ (i = 111 ∧ k = 2) ∨ (i = 111 ∧ k = 11) ∨ (i = 119 ∧ 6 ≤ k ∧ k ≤ 10)
def k_X7_findLeast_29 (h : JH) (v : Option JV) (r' g : JH) : Prop := r' = jr0 ∧ jfr w_X7_findLeast_29 h g ∧ v = none ∧ (True)
set_option maxHeartbeats 4000000 in
theorem c_X7_findLeast_29 {E : JE} {l : Launch} (h : JH) : jMt E l 161 [.inr (.inr (.inl 111)), .inr (.inr (.inl 29)), .inr (.inr (.inl 16))] 229 jr0 h (k_X7_findLeast_29 h) := by
  refine jMt0 (nL := 5) (ls := [.inr (.inr (.inl 111)), .inr (.inr (.inl 29)), .inr (.inr (.inl 16)), .inr (.inr (.inr ())), .inr (.inr (.inr ()))]) (by decide +kernel) (by decide +kernel) (by decide +kernel) rfl rfl ?_
  have f0 : jfr w_X7_findLeast_29 h h := jfr_rf _ _
  have key : ∀ N : Nat, (∀ (x3 : Int) (x4 : JV) (g : JH), (0 ≤ x3 ∧ x3 ≤ 120) → jfr w_X7_findLeast_29 h g → (120 - x3) < (N : Int) → jGo E l 161 229 229 (jRK (k_X7_findLeast_29 h)) 21 [.inr (.inr (.inl 111)), .inr (.inr (.inl 29)), .inr (.inr (.inl 16)), .inl x3, x4] [] 229 jr0 g) := by
    intro N
    induction N with
    | zero => exact fun _ _ _ hi _ hN => absurd hN (by omega)
    | succ N ih =>
      intro x3 x4 g hi hf hN
      refine jGo_blk qX7_findLeast_21 ?_
      refine st_gi jo_111 (fun v1 ev1 b2 => ?_)
      replace ev1 : v1 = g 111 2 := ev1
      replace b2 := (jbf_7_2 jo_111 _).1 b2
      refine st_xi (by decide) jx_k7 (jx_l7 E) (show 0 ≤ v1 by omega) (show v1 < ((6 : Nat) : Int) by omega) (fun v3 ev3 => ?_)
      have bv3 : 1 ≤ v3 ∧ v3 ≤ 120 := by rw [ev3]; exact jx_w7 E v1 (by omega) (by omega)
      replace ev3 : v3 = jxv E (-7) v1 := ev3
      refine And.intro (fun c4 => ?_) (fun c4 => ?_)
      · replace c4 : v3 ≤ x3 := c4
        show jGo E l 161 229 229 _ 102 [.inr (.inr (.inl 111)), .inr (.inr (.inl 29)), .inr (.inr (.inl 16)), .inl x3, x4] [] 229 jr0 g
        refine jGo_blk qX7_findLeast_102 ?_
        refine st_pi jo_111 (fun hx => (jbf_7_11 jo_111 _).2 (show 0 ≤ 1 ∧ 1 ≤ 1 by omega)) (fun g5 eg5 => ?_)
        replace eg5 : g5 = jup g 111 11 1 := eg5
        have fg5 : jfr w_X7_findLeast_29 h g5 := jfr_up hf eg5 (by unfold w_X7_findLeast_29; omega)
        have e6 : g5 111 11 = 1 := jup_s eg5
        exact ⟨rfl, rfl, fg5, rfl, trivial⟩
      · replace c4 : x3 < v3 := by first | exact c4 | exact Int.not_le.mp c4 | exact Int.not_lt.mp c4 | exact Decidable.not_not.mp c4
        refine st_gi jo_111 (fun v7 ev7 b8 => ?_)
        replace ev7 : v7 = g 111 0 := ev7
        replace b8 := (jbf_7_0 jo_111 _).1 b8
        refine And.intro (fun c9 => ?_) (fun c9 => ?_)
        · replace c9 : v7 ≤ 0 := c9
          show jGo E l 161 229 229 _ 102 [.inr (.inr (.inl 111)), .inr (.inr (.inl 29)), .inr (.inr (.inl 16)), .inl x3, x4] [] 229 jr0 g
          refine jGo_blk qX7_findLeast_102 ?_
          refine st_pi jo_111 (fun hx => (jbf_7_11 jo_111 _).2 (show 0 ≤ 1 ∧ 1 ≤ 1 by omega)) (fun g10 eg10 => ?_)
          replace eg10 : g10 = jup g 111 11 1 := eg10
          have fg10 : jfr w_X7_findLeast_29 h g10 := jfr_up hf eg10 (by unfold w_X7_findLeast_29; omega)
          have e11 : g10 111 11 = 1 := jup_s eg10
          exact ⟨rfl, rfl, fg10, rfl, trivial⟩
        · replace c9 : 0 < v7 := by first | exact c9 | exact Int.not_le.mp c9 | exact Int.not_lt.mp c9 | exact Decidable.not_not.mp c9
          refine st_gr jo_111 jr_111_8 ?_
          refine st_gi jo_111 (fun v12 ev12 b13 => ?_)
          replace ev12 : v12 = g 111 2 := ev12
          replace b13 := (jbf_7_2 jo_111 _).1 b13
          refine st_cv (na := 4) (st := [.inr (.inr (.inl 16)), .inl v12, .inr (.inr (.inl 175)), .inr (.inr (.inl 29)), .inr (.inr (.inl 111))]) jo_111 rfl rfl rfl (c_X7_tryOut_29_175 v12 g (by omega)) rfl ?_
          rintro _ _ g15 ⟨rfl, ft14, rfl, zt14⟩ kt14
          have fg15 : jfr w_X7_findLeast_29 h g15 := jfr_tr hf ft14 (fun i k q => by unfold w_X7_tryOut_29_175 at q; unfold w_X7_findLeast_29; omega)
          refine st_cv (na := 0) (st := [.inr (.inr (.inl 111))]) jo_111 rfl rfl rfl (c_X7_sumOfLate g15) rfl ?_
          rintro _ _ _ ⟨rfl, rfl, t16, rfl, ht16, zt16⟩ kt16
          replace kt16 : -2147483648 ≤ t16 ∧ t16 ≤ 2147483647 := kt16
          refine st_gi jo_111 (fun v18 ev18 b19 => ?_)
          replace ev18 : v18 = g15 111 0 := ev18
          replace b19 := (jbf_7_0 jo_111 _).1 b19
          have e20 : g15 111 0 = g 111 0 := ft14 111 0 (by unfold w_X7_tryOut_29_175; omega)
          refine And.intro (fun c21 => ?_) (fun c21 => ?_)
          · replace c21 : v18 ≤ t16 := c21
            show jGo E l 161 229 229 _ 92 [.inr (.inr (.inl 111)), .inr (.inr (.inl 29)), .inr (.inr (.inl 16)), .inl x3, .inl t16] [] 229 jr0 g15
            refine jGo_blk qX7_findLeast_92 ?_
            refine st_cv (na := 0) (st := [.inr (.inr (.inl 111))]) jo_111 rfl rfl rfl (c_X7_nextOrder g15) rfl ?_
            rintro _ _ g23 ⟨rfl, ft22, rfl, zt22⟩ kt22
            have fg23 : jfr w_X7_findLeast_29 h g23 := jfr_tr fg15 ft22 (fun i k q => by unfold w_X7_nextOrder at q; unfold w_X7_findLeast_29; omega)
            have e24 : jw32 (x3 + 1) = x3 + 1 := j32e (by omega) (by omega)
            show jGo E l 161 229 229 _ 21 [.inr (.inr (.inl 111)), .inr (.inr (.inl 29)), .inr (.inr (.inl 16)), .inl (jw32 (x3 + 1)), .inl t16] [] 229 jr0 g23
            exact ih (jw32 (x3 + 1)) (.inl t16) g23 (by omega) fg23 (by omega)
          · replace c21 : t16 < v18 := by first | exact c21 | exact Int.not_le.mp c21 | exact Int.not_lt.mp c21 | exact Decidable.not_not.mp c21
            refine st_pi jo_111 (fun hx => (jbf_7_0 jo_111 _).2 hx) (fun g25 eg25 => ?_)
            replace eg25 : g25 = jup g15 111 0 t16 := eg25
            have fg25 : jfr w_X7_findLeast_29 h g25 := jfr_up fg15 eg25 (by unfold w_X7_findLeast_29; omega)
            have e26 : g25 111 0 = t16 := jup_s eg25
            refine st_gr jo_111 jr_111_8 ?_
            refine st_gr jo_111 jr_111_1 ?_
            refine st_gi jo_111 (fun v27 ev27 b28 => ?_)
            replace ev27 : v27 = g25 111 2 := ev27
            replace b28 := (jbf_7_2 jo_111 _).1 b28
            have e29 : g25 111 2 = g15 111 2 := jup_o eg25 (by omega)
            have e30 : g15 111 2 = g 111 2 := ft14 111 2 (by unfold w_X7_tryOut_29_175; omega)
            refine st_cp jo_112 jo_175 (show 0 ≤ 0 by omega) (show 0 ≤ 0 by omega) (show 0 ≤ v27 by omega) (show 0 + v27 ≤ ((5 : Nat) : Int) by omega) (show 0 + v27 ≤ ((5 : Nat) : Int) by omega) rfl (fun hg j _ _ => (jba_112 _ _).2 ((jba_175 _ _).1 (hg _ _))) (fun g31 eg31 => ?_)
            replace eg31 : g31 = jcp g25 175 0 112 0 v27 := eg31
            have fg31 : jfr w_X7_findLeast_29 h g31 := jfr_cp fg25 eg31 (fun _ => by unfold w_X7_findLeast_29; omega)
            show jGo E l 161 229 229 _ 92 [.inr (.inr (.inl 111)), .inr (.inr (.inl 29)), .inr (.inr (.inl 16)), .inl x3, .inl t16] [] 229 jr0 g31
            refine jGo_blk qX7_findLeast_92 ?_
            refine st_cv (na := 0) (st := [.inr (.inr (.inl 111))]) jo_111 rfl rfl rfl (c_X7_nextOrder g31) rfl ?_
            rintro _ _ g33 ⟨rfl, ft32, rfl, zt32⟩ kt32
            have fg33 : jfr w_X7_findLeast_29 h g33 := jfr_tr fg31 ft32 (fun i k q => by unfold w_X7_nextOrder at q; unfold w_X7_findLeast_29; omega)
            have e34 : jw32 (x3 + 1) = x3 + 1 := j32e (by omega) (by omega)
            show jGo E l 161 229 229 _ 21 [.inr (.inr (.inl 111)), .inr (.inr (.inl 29)), .inr (.inr (.inl 16)), .inl (jw32 (x3 + 1)), .inl t16] [] 229 jr0 g33
            exact ih (jw32 (x3 + 1)) (.inl t16) g33 (by omega) fg33 (by omega)
  refine jGo_blk qX7_findLeast_0 ?_
  refine st_gi jo_111 (fun v35 ev35 b36 => ?_)
  replace ev35 : v35 = h 111 11 := ev35
  replace b36 := (jbf_7_11 jo_111 _).1 b36
  refine And.intro (fun c37 => ?_) (fun c37 => ?_)
  · replace c37 : v35 = 0 := c37
    show jGo E l 161 229 229 _ 8 [.inr (.inr (.inl 111)), .inr (.inr (.inl 29)), .inr (.inr (.inl 16)), .inr (.inr (.inr ())), .inr (.inr (.inr ()))] [] 229 jr0 h
    refine jGo_blk qX7_findLeast_8 ?_
    refine st_cv (na := 1) (st := [.inr (.inr (.inl 29)), .inr (.inr (.inl 111))]) jo_111 rfl rfl rfl (c_X7_gatherByNumbers_29 h) rfl ?_
    rintro _ _ g39 ⟨rfl, ft38, rfl, zt38⟩ kt38
    have fg39 : jfr w_X7_findLeast_29 h g39 := jfr_tr f0 ft38 (fun i k q => by unfold w_X7_gatherByNumbers_29 at q; unfold w_X7_findLeast_29; omega)
    refine st_pi jo_111 (fun hx => (jbf_7_0 jo_111 _).2 hx) (fun g40 eg40 => ?_)
    replace eg40 : g40 = jup g39 111 0 1000000 := eg40
    have fg40 : jfr w_X7_findLeast_29 h g40 := jfr_up fg39 eg40 (by unfold w_X7_findLeast_29; omega)
    have e41 : g40 111 0 = 1000000 := jup_s eg40
    show jGo E l 161 229 229 _ 21 [.inr (.inr (.inl 111)), .inr (.inr (.inl 29)), .inr (.inr (.inl 16)), .inl 0, .inr (.inr (.inr ()))] [] 229 jr0 g40
    exact (key 1000000000000) 0 (.inr (.inr (.inr ()))) g40 (by omega) fg40 (by omega)
  · replace c37 : ¬ v35 = 0 := by first | exact c37 | exact Int.not_le.mp c37 | exact Int.not_lt.mp c37 | exact Decidable.not_not.mp c37
    exact ⟨rfl, rfl, f0, rfl, trivial⟩

def w_X11_findOrder (i k : Int) : Prop := (i = 15) ∨ (i = 112) ∨ (114 ≤ i ∧ i ≤ 118) ∨ (120 ≤ i ∧ i ≤ 121) ∨ (124 ≤ i ∧ i ≤ 173) ∨ (i = 175) ∨ (i = 11 ∧ k = 5) ∨ (i = 111 ∧ k = 0) ∨ (i = 111 ∧ 2 ≤ k ∧ k ≤ 3) ∨ (i = 111 ∧ k = 9) ∨ (i = 111 ∧ k = 11) ∨ (i = 119 ∧ 6 ≤ k ∧ k ≤ 10)
def k_X11_findOrder (h : JH) (v : Option JV) (r' g : JH) : Prop := r' = jr0 ∧ jfr w_X11_findOrder h g ∧ ∃ x : Int, v = some (.inl x) ∧ (0 ≤ x ∧ x ≤ 1) ∧ (True)
set_option maxHeartbeats 4000000 in
theorem c_X11_findOrder {E : JE} {l : Launch} (h : JH) : jMt E l 162 [.inr (.inr (.inl 0))] 229 jr0 h (k_X11_findOrder h) := by
  refine jMt0 (nL := 1) (ls := [.inr (.inr (.inl 0))]) (by decide +kernel) (by decide +kernel) (by decide +kernel) rfl rfl ?_
  have f0 : jfr w_X11_findOrder h h := jfr_rf _ _
  refine jGo_blk qX11_findOrder_0 ?_
  refine st_gr jo_0 jr_0_5 ?_
  refine st_cv (na := 1) (st := [.inl 0, .inr (.inr (.inl 29))]) jo_29 rfl rfl rfl (c_X10_countOf_29 0 h) rfl ?_
  rintro _ _ _ ⟨rfl, rfl, t1, rfl, ht1, zt1⟩ kt1
  replace kt1 : -2147483648 ≤ t1 ∧ t1 ≤ 2147483647 := kt1
  refine st_gr jo_0 jr_0_5 ?_
  refine st_cv (na := 1) (st := [.inl 1, .inr (.inr (.inl 29)), .inl t1]) jo_29 rfl rfl rfl (c_X10_countOf_29 1 h) rfl ?_
  rintro _ _ _ ⟨rfl, rfl, t3, rfl, ht3, zt3⟩ kt3
  replace kt3 : -2147483648 ≤ t3 ∧ t3 ≤ 2147483647 := kt3
  refine And.intro (fun c5 => ?_) (fun c5 => ?_)
  · replace c5 : jw32 (t1 + t3) ≤ 5 := c5
    show jGo E l 162 229 229 _ 23 [.inr (.inr (.inl 0))] [] 229 jr0 h
    refine jGo_blk qX11_findOrder_23 ?_
    refine st_gr jo_0 jr_0_11 ?_
    refine st_gi jo_0 (fun v6 ev6 b7 => ?_)
    replace ev6 : v6 = h 0 0 := ev6
    replace b7 := (jbf_11_0 jo_0 _).1 b7
    refine st_gr jo_0 jr_0_2 ?_
    refine st_gr jo_0 jr_0_3 ?_
    refine st_cv (na := 3) (st := [.inr (.inr (.inl 11)), .inr (.inr (.inl 2)), .inl v6, .inr (.inr (.inl 111))]) jo_111 rfl rfl rfl (c_X7_standAt v6 h (by omega)) rfl ?_
    rintro _ _ g9 ⟨rfl, ft8, rfl, zt8⟩ kt8
    have fg9 : jfr w_X11_findOrder h g9 := jfr_tr f0 ft8 (fun i k q => by unfold w_X7_standAt at q; unfold w_X11_findOrder; omega)
    refine st_gr jo_0 jr_0_11 ?_
    refine st_gr jo_0 jr_0_5 ?_
    refine st_gr jo_0 jr_0_4 ?_
    refine st_cv (na := 2) (st := [.inr (.inr (.inl 16)), .inr (.inr (.inl 29)), .inr (.inr (.inl 111))]) jo_111 rfl rfl rfl (c_X7_findLeast_29 g9) rfl ?_
    rintro _ _ g11 ⟨rfl, ft10, rfl, zt10⟩ kt10
    have fg11 : jfr w_X11_findOrder h g11 := jfr_tr fg9 ft10 (fun i k q => by unfold w_X7_findLeast_29 at q; unfold w_X11_findOrder; omega)
    exact st_r1 (ls := []) (show (1 : Int) = 0 ∨ (1 : Int) = 1 by omega) ⟨rfl, rfl, fg11, 1, rfl, (by omega), trivial⟩
  · replace c5 : 5 < jw32 (t1 + t3) := by first | exact c5 | exact Int.not_le.mp c5 | exact Int.not_lt.mp c5 | exact Decidable.not_not.mp c5
    exact st_r1 (ls := []) (show (0 : Int) = 0 ∨ (0 : Int) = 1 by omega) ⟨rfl, rfl, f0, 0, rfl, (by omega), trivial⟩

def w_X11_least (i k : Int) : Prop := (i = 1) ∨ (i = 15) ∨ (i = 112) ∨ (114 ≤ i ∧ i ≤ 118) ∨ (120 ≤ i ∧ i ≤ 121) ∨ (124 ≤ i ∧ i ≤ 173) ∨ (i = 175) ∨ (i = 11 ∧ k = 5) ∨ (i = 111 ∧ k = 0) ∨ (i = 111 ∧ 2 ≤ k ∧ k ≤ 3) ∨ (i = 111 ∧ k = 9) ∨ (i = 111 ∧ k = 11) ∨ (i = 119 ∧ 6 ≤ k ∧ k ≤ 10)
def k_X11_least (h : JH) (v : Option JV) (r' g : JH) : Prop := r' = jr0 ∧ jfr w_X11_least h g ∧ ∃ x : Int, v = some (.inl x) ∧ (True) ∧ (True)
set_option maxHeartbeats 4000000 in
theorem c_X11_least {E : JE} {l : Launch} (h : JH) : jMt E l 163 [.inr (.inr (.inl 0))] 229 jr0 h (k_X11_least h) := by
  refine jMt0 (nL := 1) (ls := [.inr (.inr (.inl 0))]) (by decide +kernel) (by decide +kernel) (by decide +kernel) rfl rfl ?_
  have f0 : jfr w_X11_least h h := jfr_rf _ _
  refine jGo_blk qX11_least_0 ?_
  refine st_cv (na := 0) (st := [.inr (.inr (.inl 0))]) jo_0 rfl rfl rfl (c_X11_findOrder h) rfl ?_
  rintro _ _ g2 ⟨rfl, ft1, t1, rfl, ht1, zt1⟩ kt1
  replace kt1 : -2147483648 ≤ t1 ∧ t1 ≤ 2147483647 := kt1
  replace ht1 : 0 ≤ t1 ∧ t1 ≤ 1 := ht1
  have fg2 : jfr w_X11_least h g2 := jfr_tr f0 ft1 (fun i k q => by unfold w_X11_findOrder at q; unfold w_X11_least; omega)
  refine And.intro (fun c3 => ?_) (fun c3 => ?_)
  · replace c3 : ¬ t1 = 0 := c3
    show jGo E l 163 229 229 _ 14 [.inr (.inr (.inl 0))] [] 229 jr0 g2
    refine jGo_blk qX11_least_14 ?_
    refine st_gr jo_0 jr_0_11 ?_
    refine st_gi jo_111 (fun v4 ev4 b5 => ?_)
    replace ev4 : v4 = g2 111 0 := ev4
    replace b5 := (jbf_7_0 jo_111 _).1 b5
    exact st_r0 (ls := []) ⟨rfl, rfl, fg2, v4, rfl, trivial, trivial⟩
  · replace c3 : t1 = 0 := by first | exact c3 | exact Int.not_le.mp c3 | exact Int.not_lt.mp c3 | exact Decidable.not_not.mp c3
    refine st_cv (na := 1) (st := [.inl (-3), .inr (.inr (.inl 0))]) jo_0 rfl rfl rfl (c_X11_refused (-3) g2 (by omega)) rfl ?_
    rintro _ _ g7 ⟨rfl, ft6, t6, rfl, ht6, zt6⟩ kt6
    replace kt6 : -2147483648 ≤ t6 ∧ t6 ≤ 2147483647 := kt6
    replace ht6 : -7 ≤ t6 ∧ t6 ≤ -1 := ht6
    have fg7 : jfr w_X11_least h g7 := jfr_tr fg2 ft6 (fun i k q => by unfold w_X11_refused at q; unfold w_X11_least; omega)
    replace zt6 : t6 = (-3 : Int) := zt6
    exact st_r0 (ls := []) ⟨rfl, rfl, fg7, t6, rfl, trivial, trivial⟩

def w_X12_ask (i k : Int) : Prop := (i = 226) ∨ (i = 176 ∧ k = 62)
def k_X12_ask (h : JH) (v : Option JV) (r' g : JH) : Prop := r' = jr0 ∧ jfr w_X12_ask h g ∧ ∃ x : Int, v = some (.inl x) ∧ (0 ≤ x ∧ x ≤ 1) ∧ ((x = 1 ∧ g 176 62 ≤ 5) ∨ x = 0)
set_option maxHeartbeats 4000000 in
theorem c_X12_ask {E : JE} {l : Launch} (h : JH) : jMt E l 164 [.inr (.inr (.inl 176))] 229 jr0 h (k_X12_ask h) := by
  refine jMt0 (nL := 3) (ls := [.inr (.inr (.inl 176)), .inr (.inr (.inr ())), .inr (.inr (.inr ()))]) (by decide +kernel) (by decide +kernel) (by decide +kernel) rfl rfl ?_
  have f0 : jfr w_X12_ask h h := jfr_rf _ _
  have key : ∀ N : Nat, (∀ (x1 : Int) (x2 : Int) (g : JH), (0 ≤ x1 ∧ x1 ≤ 16 ∧ 0 ≤ x2 ∧ x2 ≤ 16) → (x1 ≤ x2) → jfr w_X12_ask h g → (16 - x2) < (N : Int) → jGo E l 164 229 229 (jRK (k_X12_ask h)) 9 [.inr (.inr (.inl 176)), .inl x1, .inl x2] [] 229 jr0 g) := by
    intro N
    induction N with
    | zero => exact fun _ _ _ hi hx0 _ hN => absurd hN (by omega)
    | succ N ih =>
      intro x1 x2 g hi hx0 hf hN
      refine jGo_blk qX12_ask_9 ?_
      refine st_gi jo_176 (fun v1 ev1 b2 => ?_)
      replace ev1 : v1 = g 176 14 := ev1
      replace b2 := (jbf_12_14 jo_176 _).1 b2
      refine And.intro (fun c3 => ?_) (fun c3 => ?_)
      · replace c3 : v1 ≤ x2 := c3
        show jGo E l 164 229 229 _ 48 [.inr (.inr (.inl 176)), .inl x1, .inl x2] [] 229 jr0 g
        refine jGo_blk qX12_ask_48 ?_
        refine st_pi jo_176 (fun hx => (jbf_12_62 jo_176 _).2 (show 0 ≤ x1 ∧ x1 ≤ 16 by omega)) (fun g4 eg4 => ?_)
        replace eg4 : g4 = jup g 176 62 x1 := eg4
        have fg4 : jfr w_X12_ask h g4 := jfr_up hf eg4 (by unfold w_X12_ask; omega)
        have e5 : g4 176 62 = x1 := jup_s eg4
        refine And.intro (fun c6 => ?_) (fun c6 => ?_)
        · replace c6 : 5 < x1 := c6
          show jGo E l 164 229 229 _ 62 [.inr (.inr (.inl 176)), .inl x1, .inl x2] [] 229 jr0 g4
          refine jGo_blk qX12_ask_62 ?_
          show jGo E l 164 229 229 _ 63 [.inr (.inr (.inl 176)), .inl x1, .inl x2] [.inl 0] 229 jr0 g4
          refine jGo_blk qX12_ask_63 ?_
          exact st_r1 (ls := []) (show (0 : Int) = 0 ∨ (0 : Int) = 1 by omega) ⟨rfl, rfl, fg4, 0, rfl, (by omega), (by omega)⟩
        · replace c6 : x1 ≤ 5 := by first | exact c6 | exact Int.not_le.mp c6 | exact Int.not_lt.mp c6 | exact Decidable.not_not.mp c6
          show jGo E l 164 229 229 _ 63 [.inr (.inr (.inl 176)), .inl x1, .inl x2] [.inl 1] 229 jr0 g4
          refine jGo_blk qX12_ask_63 ?_
          exact st_r1 (ls := []) (show (1 : Int) = 0 ∨ (1 : Int) = 1 by omega) ⟨rfl, rfl, fg4, 1, rfl, (by omega), (by omega)⟩
      · replace c3 : x2 < v1 := by first | exact c3 | exact Int.not_le.mp c3 | exact Int.not_lt.mp c3 | exact Decidable.not_not.mp c3
        refine st_gr jo_176 jr_176_18 ?_
        refine st_ai jo_192 (show 0 ≤ x2 by omega) (show x2 < ((16 : Nat) : Int) by omega) (fun v7 ev7 b8 => ?_)
        replace ev7 : v7 = g 192 x2 := ev7
        replace b8 := (jba_192 x2 _).1 b8
        refine And.intro (fun c9 => ?_) (fun c9 => ?_)
        · replace c9 : 1 < v7 := c9
          show jGo E l 164 229 229 _ 42 [.inr (.inr (.inl 176)), .inl x1, .inl x2] [] 229 jr0 g
          refine jGo_blk qX12_ask_42 ?_
          have e10 : jw32 (x2 + 1) = x2 + 1 := j32e (by omega) (by omega)
          show jGo E l 164 229 229 _ 9 [.inr (.inr (.inl 176)), .inl x1, .inl (jw32 (x2 + 1))] [] 229 jr0 g
          exact ih x1 (jw32 (x2 + 1)) g (by omega) (by omega) hf (by omega)
        · replace c9 : v7 ≤ 1 := by first | exact c9 | exact Int.not_le.mp c9 | exact Int.not_lt.mp c9 | exact Decidable.not_not.mp c9
          refine And.intro (fun c11 => ?_) (fun c11 => ?_)
          · replace c11 : 5 ≤ x1 := c11
            show jGo E l 164 229 229 _ 39 [.inr (.inr (.inl 176)), .inl x1, .inl x2] [] 229 jr0 g
            refine jGo_blk qX12_ask_39 ?_
            have e12 : jw32 (x1 + 1) = x1 + 1 := j32e (by omega) (by omega)
            show jGo E l 164 229 229 _ 42 [.inr (.inr (.inl 176)), .inl (jw32 (x1 + 1)), .inl x2] [] 229 jr0 g
            refine jGo_blk qX12_ask_42 ?_
            have e13 : jw32 (x2 + 1) = x2 + 1 := j32e (by omega) (by omega)
            show jGo E l 164 229 229 _ 9 [.inr (.inr (.inl 176)), .inl (jw32 (x1 + 1)), .inl (jw32 (x2 + 1))] [] 229 jr0 g
            exact ih (jw32 (x1 + 1)) (jw32 (x2 + 1)) g (by omega) (by omega) hf (by omega)
          · replace c11 : x1 < 5 := by first | exact c11 | exact Int.not_le.mp c11 | exact Int.not_lt.mp c11 | exact Decidable.not_not.mp c11
            refine st_gr jo_176 jr_176_61 ?_
            refine st_si jo_226 (show 0 ≤ x1 by omega) (show x1 < ((5 : Nat) : Int) by omega) (fun hx => (jba_226 _ _).2 (show 0 ≤ x2 ∧ x2 ≤ 15 by omega)) (fun g14 eg14 => ?_)
            replace eg14 : g14 = jup g 226 x1 x2 := eg14
            have fg14 : jfr w_X12_ask h g14 := jfr_up hf eg14 (by unfold w_X12_ask; omega)
            have e15 : g14 226 x1 = x2 := jup_s eg14
            show jGo E l 164 229 229 _ 39 [.inr (.inr (.inl 176)), .inl x1, .inl x2] [] 229 jr0 g14
            refine jGo_blk qX12_ask_39 ?_
            have e16 : jw32 (x1 + 1) = x1 + 1 := j32e (by omega) (by omega)
            show jGo E l 164 229 229 _ 42 [.inr (.inr (.inl 176)), .inl (jw32 (x1 + 1)), .inl x2] [] 229 jr0 g14
            refine jGo_blk qX12_ask_42 ?_
            have e17 : jw32 (x2 + 1) = x2 + 1 := j32e (by omega) (by omega)
            show jGo E l 164 229 229 _ 9 [.inr (.inr (.inl 176)), .inl (jw32 (x1 + 1)), .inl (jw32 (x2 + 1))] [] 229 jr0 g14
            exact ih (jw32 (x1 + 1)) (jw32 (x2 + 1)) g14 (by omega) (by omega) fg14 (by omega)
  refine jGo_blk qX12_ask_0 ?_
  refine st_pi jo_176 (fun hx => (jbf_12_62 jo_176 _).2 (show 0 ≤ 0 ∧ 0 ≤ 16 by omega)) (fun g18 eg18 => ?_)
  replace eg18 : g18 = jup h 176 62 0 := eg18
  have fg18 : jfr w_X12_ask h g18 := jfr_up f0 eg18 (by unfold w_X12_ask; omega)
  have e19 : g18 176 62 = 0 := jup_s eg18
  show jGo E l 164 229 229 _ 9 [.inr (.inr (.inl 176)), .inl 0, .inl 0] [] 229 jr0 g18
  exact (key 1000000000000) 0 0 g18 (by omega) (by omega) fg18 (by omega)

def w_X12_findOrder (i k : Int) : Prop := (i = 227)
def k_X12_findOrder (a1 : Int) (h : JH) (v : Option JV) (r' g : JH) : Prop := r' = jr0 ∧ jfr w_X12_findOrder h g ∧ v = none ∧ (True)
set_option maxHeartbeats 4000000 in
theorem c_X12_findOrder {E : JE} {l : Launch} (a1 : Int) (h : JH) (p1 : 0 ≤ a1 ∧ a1 ≤ 119) (q0 : h 176 62 ≤ 5) (q1 : jWq (h 176 62) a1) : jMt E l 165 [.inr (.inr (.inl 176)), .inl a1] 229 jr0 h (k_X12_findOrder a1 h) := by
  refine jMt0 (nL := 8) (ls := [.inr (.inr (.inl 176)), .inl a1, .inr (.inr (.inr ())), .inr (.inr (.inr ())), .inr (.inr (.inr ())), .inr (.inr (.inr ())), .inr (.inr (.inr ())), .inr (.inr (.inr ()))]) (by decide +kernel) (by decide +kernel) (by decide +kernel) rfl rfl ?_
  have f0 : jfr w_X12_findOrder h h := jfr_rf _ _
  refine jGo_bd (fun hbd => ?_)
  have hb0 := (jbf_12_62 jo_176 _).1 (hbd 176 62)
  have key : ∀ N : Nat, (∀ (x4 : Int) (x5 : Int) (g : JH), (1 ≤ x4 ∧ x4 ≤ 120 ∧ 2 ≤ x5 ∧ x5 ≤ 6) → (jWf x5 x4) → (g 176 62 = h 176 62) → (x5 = 2 ∨ x5 ≤ g 176 62 + 1) → jfr w_X12_findOrder h g → ((6 - x5) + 20000) * 1000000 + 999999 < (N : Int) → jGo E l 165 229 229 (jRK (k_X12_findOrder a1 h)) 10 [.inr (.inr (.inl 176)), .inl a1, .inl a1, .inl 0, .inl x4, .inl x5, .inr (.inr (.inr ())), .inr (.inr (.inr ()))] [] 229 jr0 g) ∧
      (∀ (x2 : Int) (x3 : Int) (x4 : Int) (x5 : Int) (x6 : JV) (x7 : JV) (g : JH), (0 ≤ x2 ∧ x2 ≤ 119 ∧ 0 ≤ x3 ∧ x3 ≤ 31 ∧ 1 ≤ x4 ∧ x4 ≤ 120 ∧ 0 ≤ x5 ∧ x5 ≤ 5) → (jWr (g 176 62 - x5) x4) → (0 ≤ x2 ∧ x2 < x4) → (g 176 62 = h 176 62) → (jzb x3 0 (g 176 62) = g 176 62 - x5) → (x5 ≤ g 176 62) → jfr w_X12_findOrder h g → (5 - x5) * 1000000 + 999999 < (N : Int) → jGo E l 165 229 229 (jRK (k_X12_findOrder a1 h)) 35 [.inr (.inr (.inl 176)), .inl a1, .inl x2, .inl x3, .inl x4, .inl x5, x6, x7] [] 229 jr0 g) ∧
      (∀ (x2 : Int) (x3 : Int) (x4 : Int) (x5 : Int) (x6 : Int) (x7 : Int) (g : JH), (0 ≤ x2 ∧ x2 ≤ 119 ∧ 0 ≤ x3 ∧ x3 ≤ 31 ∧ 1 ≤ x4 ∧ x4 ≤ 120 ∧ 0 ≤ x5 ∧ x5 ≤ 4 ∧ 0 ≤ x6 ∧ x6 ≤ 4 ∧ 0 ≤ x7 ∧ x7 ≤ 5) → (0 ≤ x6 ∧ 0 ≤ x7 ∧ x7 ≤ 5 ∧ x6 + 1 ≤ jzb x3 x7 (g 176 62)) → (jzb x3 0 (g 176 62) = g 176 62 - x5) → (jWs (g 176 62 - x5) x4) → (0 ≤ x2 ∧ x2 < x4 ∧ x5 < g 176 62 ∧ g 176 62 ≤ 5) → (g 176 62 = h 176 62) → jfr w_X12_findOrder h g → (5 - x5) * 1000000 + (5 - x7) < (N : Int) → jGo E l 165 229 229 (jRK (k_X12_findOrder a1 h)) 70 [.inr (.inr (.inl 176)), .inl a1, .inl x2, .inl x3, .inl x4, .inl x5, .inl x6, .inl x7] [] 229 jr0 g) := by
    intro N
    induction N with
    | zero => exact ⟨fun _ _ _ hi hx0 hx1 hx2 _ hN => absurd hN (by omega), fun _ _ _ _ _ _ _ hi hx0 hx1 hx2 hx3 hx4 _ hN => absurd hN (by omega), fun _ _ _ _ _ _ _ hi hx0 hx1 hx2 hx3 hx4 _ hN => absurd hN (by omega)⟩
    | succ N ih =>
      refine ⟨?_, ?_, ?_⟩
      · intro x4 x5 g hi hx0 hx1 hx2 hf hN
        refine jGo_blk qX12_findOrder_10 ?_
        refine st_gi jo_176 (fun v1 ev1 b2 => ?_)
        replace ev1 : v1 = g 176 62 := ev1
        replace b2 := (jbf_12_62 jo_176 _).1 b2
        refine And.intro (fun c3 => ?_) (fun c3 => ?_)
        · replace c3 : v1 < x5 := c3
          show jGo E l 165 229 229 _ 32 [.inr (.inr (.inl 176)), .inl a1, .inl a1, .inl 0, .inl x4, .inl x5, .inr (.inr (.inr ())), .inr (.inr (.inr ()))] [] 229 jr0 g
          refine jGo_blk qX12_findOrder_32 ?_
          show jGo E l 165 229 229 _ 35 [.inr (.inr (.inl 176)), .inl a1, .inl a1, .inl 0, .inl x4, .inl 0, .inr (.inr (.inr ())), .inr (.inr (.inr ()))] [] 229 jr0 g
          exact ih.2.1 a1 0 x4 0 (.inr (.inr (.inr ()))) (.inr (.inr (.inr ()))) g (by omega) (by have q9 := hx0; unfold jWf at q9; unfold jWr; omega) (by have q9 := hx0; have q8 := q1; unfold jWf at q9; unfold jWq at q8; omega) (by omega) (by have := jzb_0 (g 176 62); omega) (by omega) hf (by omega)
        · replace c3 : x5 ≤ v1 := by first | exact c3 | exact Int.not_le.mp c3 | exact Int.not_lt.mp c3 | exact Decidable.not_not.mp c3
          have hm9 : (jw32 (x4 * x5) = 2 ∧ x5 = 2) ∨ (jw32 (x4 * x5) = 6 ∧ x5 = 3) ∨ (jw32 (x4 * x5) = 24 ∧ x5 = 4) ∨ (jw32 (x4 * x5) = 120 ∧ x5 = 5) := by rcases hx0 with ⟨q1, q2⟩ | ⟨q1, q2⟩ | ⟨q1, q2⟩ | ⟨q1, q2⟩ | ⟨q1, q2⟩ <;> first | (exfalso; omega) | (rw [q1, q2]; decide)
          have e4 : jw32 (x5 + 1) = x5 + 1 := j32e (by omega) (by omega)
          show jGo E l 165 229 229 _ 10 [.inr (.inr (.inl 176)), .inl a1, .inl a1, .inl 0, .inl (jw32 (x4 * x5)), .inl (jw32 (x5 + 1)), .inr (.inr (.inr ())), .inr (.inr (.inr ()))] [] 229 jr0 g
          exact ih.1 (jw32 (x4 * x5)) (jw32 (x5 + 1)) g (by omega) (by unfold jWf; omega) (by omega) (by omega) hf (by omega)
      · intro x2 x3 x4 x5 x6 x7 g hi hx0 hx1 hx2 hx3 hx4 hf hN
        refine jGo_blk qX12_findOrder_35 ?_
        refine st_gi jo_176 (fun v5 ev5 b6 => ?_)
        replace ev5 : v5 = g 176 62 := ev5
        replace b6 := (jbf_12_62 jo_176 _).1 b6
        refine And.intro (fun c7 => ?_) (fun c7 => ?_)
        · replace c7 : v5 ≤ x5 := c7
          show jGo E l 165 229 229 _ 138 [.inr (.inr (.inl 176)), .inl a1, .inl x2, .inl x3, .inl x4, .inl x5, x6, x7] [] 229 jr0 g
          refine jGo_blk qX12_findOrder_138 ?_
          exact ⟨rfl, rfl, hf, rfl, trivial⟩
        · replace c7 : x5 < v5 := by first | exact c7 | exact Int.not_le.mp c7 | exact Int.not_lt.mp c7 | exact Decidable.not_not.mp c7
          refine st_gi jo_176 (fun v8 ev8 b9 => ?_)
          replace ev8 : v8 = g 176 62 := ev8
          replace b9 := (jbf_12_62 jo_176 _).1 b9
          have e10 : jw32 (v8 - x5) = v8 - x5 := j32e (by omega) (by omega)
          refine And.intro (show jw32 (v8 - x5) ≠ 0 by omega) ?_
          have hd9 : jw32 (v8 - x5) = v8 - x5 := j32e (by omega) (by omega)
          have hw9 : (v8 - x5 = 1 ∧ x4 = 1 ∧ jw32 (x4.tdiv (jw32 (v8 - x5))) = 1) ∨ (v8 - x5 = 2 ∧ x4 = 2 ∧ jw32 (x4.tdiv (jw32 (v8 - x5))) = 1) ∨ (v8 - x5 = 3 ∧ x4 = 6 ∧ jw32 (x4.tdiv (jw32 (v8 - x5))) = 2) ∨ (v8 - x5 = 4 ∧ x4 = 24 ∧ jw32 (x4.tdiv (jw32 (v8 - x5))) = 6) ∨ (v8 - x5 = 5 ∧ x4 = 120 ∧ jw32 (x4.tdiv (jw32 (v8 - x5))) = 24) := by
            have q9 : (v8 - x5 = 1 ∧ x4 = 1) ∨ (v8 - x5 = 2 ∧ x4 = 2) ∨ (v8 - x5 = 3 ∧ x4 = 6) ∨ (v8 - x5 = 4 ∧ x4 = 24) ∨ (v8 - x5 = 5 ∧ x4 = 120) := by have q7 := hx0; unfold jWr at q7; omega
            rcases q9 with ⟨q1, q2⟩ | ⟨q1, q2⟩ | ⟨q1, q2⟩ | ⟨q1, q2⟩ | ⟨q1, q2⟩ <;> rw [hd9, q1, q2] <;> decide
          refine And.intro (show jw32 (x4.tdiv (jw32 (v8 - x5))) ≠ 0 by omega) ?_
          have e11 : jw32 (x2.tdiv (jw32 (x4.tdiv (jw32 (v8 - x5))))) = x2 / (jw32 (x4.tdiv (jw32 (v8 - x5)))) := j32d (by omega) (by omega) (by omega)
          have hs9 : 0 ≤ jw32 (x2.tdiv (jw32 (x4.tdiv (jw32 (v8 - x5))))) ∧ jw32 (x2.tdiv (jw32 (x4.tdiv (jw32 (v8 - x5))))) + 1 ≤ v8 - x5 := by
            have q8 : jw32 (x2.tdiv (jw32 (x4.tdiv (jw32 (v8 - x5))))) = x2 / (jw32 (x4.tdiv (jw32 (v8 - x5)))) := j32d (by omega) (by omega) (by omega)
            rcases hw9 with ⟨q1, q2, q3⟩ | ⟨q1, q2, q3⟩ | ⟨q1, q2, q3⟩ | ⟨q1, q2, q3⟩ | ⟨q1, q2, q3⟩ <;> rw [q3] at q8 <;> rw [q3] <;> omega
          have hT9 : 1 ≤ jw32 (x4.tdiv (jw32 (v8 - x5))) ∧ jw32 (x4.tdiv (jw32 (v8 - x5))) ≤ 24 := by omega
          have hs8 : jWs (v8 - x5) (jw32 (x4.tdiv (jw32 (v8 - x5)))) := by unfold jWs; omega
          clear hw9
          refine And.intro (show jw32 (x4.tdiv (jw32 (v8 - x5))) ≠ 0 by omega) ?_
          have e12 : True ∧ 0 ≤ x2.tmod (jw32 (x4.tdiv (jw32 (v8 - x5)))) ∧ x2.tmod (jw32 (x4.tdiv (jw32 (v8 - x5)))) < jw32 (x4.tdiv (jw32 (v8 - x5))) := ⟨trivial, (jmd (by omega) (by omega)).2⟩
          show jGo E l 165 229 229 _ 70 [.inr (.inr (.inl 176)), .inl a1, .inl (x2.tmod (jw32 (x4.tdiv (jw32 (v8 - x5))))), .inl x3, .inl (jw32 (x4.tdiv (jw32 (v8 - x5)))), .inl x5, .inl (jw32 (x2.tdiv (jw32 (x4.tdiv (jw32 (v8 - x5)))))), .inl 0] [] 229 jr0 g
          exact ih.2.2 (x2.tmod (jw32 (x4.tdiv (jw32 (v8 - x5))))) x3 (jw32 (x4.tdiv (jw32 (v8 - x5)))) x5 (jw32 (x2.tdiv (jw32 (x4.tdiv (jw32 (v8 - x5)))))) 0 g (by omega) (by omega) (by omega) (by rw [show g 176 62 - x5 = v8 - x5 by omega]; exact hs8) (by omega) (by omega) hf (by omega)
      · intro x2 x3 x4 x5 x6 x7 g hi hx0 hx1 hx2 hx3 hx4 hf hN
        refine jGo_blk qX12_findOrder_70 ?_
        have e13 := jand_le2 (jshr x3 x7) 1 (by omega) (by omega)
        have y14 := jzb_s x3 x7 (g 176 62) (by omega) (by omega) (by omega) (by omega) (by omega) (by omega)
        refine And.intro (fun c15 => ?_) (fun c15 => ?_)
        · replace c15 : jand (jshr x3 x7) 1 = 1 := c15
          show jGo E l 165 229 229 _ 85 [.inr (.inr (.inl 176)), .inl a1, .inl x2, .inl x3, .inl x4, .inl x5, .inl x6, .inl x7] [] 229 jr0 g
          refine jGo_blk qX12_findOrder_85 ?_
          have e16 := jand_le2 (jshr x3 x7) 1 (by omega) (by omega)
          have y17 := jzb_s x3 x7 (g 176 62) (by omega) (by omega) (by omega) (by omega) (by omega) (by omega)
          refine And.intro (fun c18 => ?_) (fun c18 => ?_)
          · replace c18 : ¬ jand (jshr x3 x7) 1 = 1 := c18
            show jGo E l 165 229 229 _ 101 [.inr (.inr (.inl 176)), .inl a1, .inl x2, .inl x3, .inl x4, .inl x5, .inl x6, .inl x7] [.inl x6] 229 jr0 g
            refine jGo_blk qX12_findOrder_101 ?_
            show jGo E l 165 229 229 _ 102 [.inr (.inr (.inl 176)), .inl a1, .inl x2, .inl x3, .inl x4, .inl x5, .inl x6, .inl x7] [.inl 1, .inl x6] 229 jr0 g
            refine jGo_blk qX12_findOrder_102 ?_
            have e19 : jw32 (x6 - 1) = x6 - 1 := j32e (by omega) (by omega)
            have e20 : jw32 (x7 + 1) = x7 + 1 := j32e (by omega) (by omega)
            show jGo E l 165 229 229 _ 70 [.inr (.inr (.inl 176)), .inl a1, .inl x2, .inl x3, .inl x4, .inl x5, .inl (jw32 (x6 - 1)), .inl (jw32 (x7 + 1))] [] 229 jr0 g
            exact ih.2.2 x2 x3 x4 x5 (jw32 (x6 - 1)) (jw32 (x7 + 1)) g (by omega) (by rw [show jw32 (x7 + 1) = x7 + 1 from j32e (by omega) (by omega)]; omega) (by omega) (by exact hx2) (by omega) (by omega) hf (by omega)
          · replace c18 : jand (jshr x3 x7) 1 = 1 := by first | exact c18 | exact Int.not_le.mp c18 | exact Int.not_lt.mp c18 | exact Decidable.not_not.mp c18
            show jGo E l 165 229 229 _ 102 [.inr (.inr (.inl 176)), .inl a1, .inl x2, .inl x3, .inl x4, .inl x5, .inl x6, .inl x7] [.inl 0, .inl x6] 229 jr0 g
            refine jGo_blk qX12_findOrder_102 ?_
            have e21 : jw32 (x6 - 0) = x6 - 0 := j32e (by omega) (by omega)
            have e22 : jw32 (x7 + 1) = x7 + 1 := j32e (by omega) (by omega)
            show jGo E l 165 229 229 _ 70 [.inr (.inr (.inl 176)), .inl a1, .inl x2, .inl x3, .inl x4, .inl x5, .inl (jw32 (x6 - 0)), .inl (jw32 (x7 + 1))] [] 229 jr0 g
            exact ih.2.2 x2 x3 x4 x5 (jw32 (x6 - 0)) (jw32 (x7 + 1)) g (by omega) (by rw [show jw32 (x7 + 1) = x7 + 1 from j32e (by omega) (by omega)]; omega) (by omega) (by exact hx2) (by omega) (by omega) hf (by omega)
        · replace c15 : ¬ jand (jshr x3 x7) 1 = 1 := by first | exact c15 | exact Int.not_le.mp c15 | exact Int.not_lt.mp c15 | exact Decidable.not_not.mp c15
          refine And.intro (fun c23 => ?_) (fun c23 => ?_)
          · replace c23 : x6 ≤ 0 := c23
            show jGo E l 165 229 229 _ 111 [.inr (.inr (.inl 176)), .inl a1, .inl x2, .inl x3, .inl x4, .inl x5, .inl x6, .inl x7] [] 229 jr0 g
            refine jGo_blk qX12_findOrder_111 ?_
            have e24 := jshl1_5 x7 (by omega) (by omega)
            have e25 := jor63 x3 (jshl 1 x7) (by omega) (by omega) (by omega) (by omega)
            have y26 := jzb_o x3 x7 (g 176 62) (by omega) (by omega) (by omega) (by omega) (by omega) (by omega)
            refine st_gr jo_176 jr_176_63 ?_
            refine st_gr jo_176 jr_176_61 ?_
            refine st_ai jo_226 (show 0 ≤ x7 by omega) (show x7 < ((5 : Nat) : Int) by omega) (fun v27 ev27 b28 => ?_)
            replace ev27 : v27 = g 226 x7 := ev27
            replace b28 := (jba_226 x7 _).1 b28
            refine st_si jo_227 (show 0 ≤ x5 by omega) (show x5 < ((5 : Nat) : Int) by omega) (fun hx => (jba_227 _ _).2 (show 0 ≤ v27 ∧ v27 ≤ 15 by omega)) (fun g29 eg29 => ?_)
            replace eg29 : g29 = jup g 227 x5 v27 := eg29
            have fg29 : jfr w_X12_findOrder h g29 := jfr_up hf eg29 (by unfold w_X12_findOrder; omega)
            have e30 : g29 227 x5 = v27 := jup_s eg29
            have e31 : jw32 (x5 + 1) = x5 + 1 := j32e (by omega) (by omega)
            show jGo E l 165 229 229 _ 35 [.inr (.inr (.inl 176)), .inl a1, .inl x2, .inl (jor x3 (jshl 1 x7)), .inl x4, .inl (jw32 (x5 + 1)), .inl x6, .inl x7] [] 229 jr0 g29
            have e32 : g29 176 62 = g 176 62 := jup_o eg29 (by omega)
            have e33 : g29 176 62 = g 176 62 := jup_o eg29 (by omega)
            have e34 : g29 176 62 = g 176 62 := jup_o eg29 (by omega)
            have e35 : g29 176 62 = g 176 62 := jup_o eg29 (by omega)
            have e36 : g29 176 62 = g 176 62 := jup_o eg29 (by omega)
            exact ih.2.1 x2 (jor x3 (jshl 1 x7)) x4 (jw32 (x5 + 1)) (.inl x6) (.inl x7) g29 (by omega) (by have q9 := hx2; unfold jWs at q9; unfold jWr; omega) (by omega) (by omega) (by rw [show g29 176 62 = g 176 62 by omega]; omega) (by omega) fg29 (by omega)
          · replace c23 : 0 < x6 := by first | exact c23 | exact Int.not_le.mp c23 | exact Int.not_lt.mp c23 | exact Decidable.not_not.mp c23
            show jGo E l 165 229 229 _ 85 [.inr (.inr (.inl 176)), .inl a1, .inl x2, .inl x3, .inl x4, .inl x5, .inl x6, .inl x7] [] 229 jr0 g
            refine jGo_blk qX12_findOrder_85 ?_
            have e37 := jand_le2 (jshr x3 x7) 1 (by omega) (by omega)
            have y38 := jzb_s x3 x7 (g 176 62) (by omega) (by omega) (by omega) (by omega) (by omega) (by omega)
            refine And.intro (fun c39 => ?_) (fun c39 => ?_)
            · replace c39 : ¬ jand (jshr x3 x7) 1 = 1 := c39
              show jGo E l 165 229 229 _ 101 [.inr (.inr (.inl 176)), .inl a1, .inl x2, .inl x3, .inl x4, .inl x5, .inl x6, .inl x7] [.inl x6] 229 jr0 g
              refine jGo_blk qX12_findOrder_101 ?_
              show jGo E l 165 229 229 _ 102 [.inr (.inr (.inl 176)), .inl a1, .inl x2, .inl x3, .inl x4, .inl x5, .inl x6, .inl x7] [.inl 1, .inl x6] 229 jr0 g
              refine jGo_blk qX12_findOrder_102 ?_
              have e40 : jw32 (x6 - 1) = x6 - 1 := j32e (by omega) (by omega)
              have e41 : jw32 (x7 + 1) = x7 + 1 := j32e (by omega) (by omega)
              show jGo E l 165 229 229 _ 70 [.inr (.inr (.inl 176)), .inl a1, .inl x2, .inl x3, .inl x4, .inl x5, .inl (jw32 (x6 - 1)), .inl (jw32 (x7 + 1))] [] 229 jr0 g
              exact ih.2.2 x2 x3 x4 x5 (jw32 (x6 - 1)) (jw32 (x7 + 1)) g (by omega) (by rw [show jw32 (x7 + 1) = x7 + 1 from j32e (by omega) (by omega)]; omega) (by omega) (by exact hx2) (by omega) (by omega) hf (by omega)
            · replace c39 : jand (jshr x3 x7) 1 = 1 := by first | exact c39 | exact Int.not_le.mp c39 | exact Int.not_lt.mp c39 | exact Decidable.not_not.mp c39
              show jGo E l 165 229 229 _ 102 [.inr (.inr (.inl 176)), .inl a1, .inl x2, .inl x3, .inl x4, .inl x5, .inl x6, .inl x7] [.inl 0, .inl x6] 229 jr0 g
              refine jGo_blk qX12_findOrder_102 ?_
              have e42 : jw32 (x6 - 0) = x6 - 0 := j32e (by omega) (by omega)
              have e43 : jw32 (x7 + 1) = x7 + 1 := j32e (by omega) (by omega)
              show jGo E l 165 229 229 _ 70 [.inr (.inr (.inl 176)), .inl a1, .inl x2, .inl x3, .inl x4, .inl x5, .inl (jw32 (x6 - 0)), .inl (jw32 (x7 + 1))] [] 229 jr0 g
              exact ih.2.2 x2 x3 x4 x5 (jw32 (x6 - 0)) (jw32 (x7 + 1)) g (by omega) (by rw [show jw32 (x7 + 1) = x7 + 1 from j32e (by omega) (by omega)]; omega) (by omega) (by exact hx2) (by omega) (by omega) hf (by omega)
  refine jGo_blk qX12_findOrder_0 ?_
  show jGo E l 165 229 229 _ 10 [.inr (.inr (.inl 176)), .inl a1, .inl a1, .inl 0, .inl 1, .inl 2, .inr (.inr (.inr ())), .inr (.inr (.inr ()))] [] 229 jr0 h
  exact (key 1000000000000000000).1 1 2 h (by omega) (by unfold jWf; omega) (by omega) (by omega) f0 (by omega)
