def w_X7_standAt (i k : Int) : Prop := (i = 15) ∨ (114 ≤ i ∧ i ≤ 118) ∨ (i = 11 ∧ k = 5) ∨ (i = 111 ∧ k = 3) ∨ (i = 111 ∧ k = 9)
def k_X7_standAt (a1 : Int) (h : JH) (v : Option JV) (r' g : JH) : Prop := r' = jr0 ∧ jfr w_X7_standAt h g ∧ v = none ∧ (True)
set_option maxHeartbeats 4000000 in
theorem c_X7_standAt {E : JE} {l : Launch} (a1 : Int) (h : JH) (p1 : 0 ≤ a1 ∧ a1 ≤ 2000) : jMt E l 140 [.inr (.inr (.inl 111)), .inl a1, .inr (.inr (.inl 2)), .inr (.inr (.inl 11))] 229 jr0 h (k_X7_standAt a1 h) := by
  refine jMt0 (nL := 6) (ls := [.inr (.inr (.inl 111)), .inl a1, .inr (.inr (.inl 2)), .inr (.inr (.inl 11)), .inr (.inr (.inr ())), .inr (.inr (.inr ()))]) (by decide +kernel) (by decide +kernel) (by decide +kernel) rfl rfl ?_
  have f0 : jfr w_X7_standAt h h := jfr_rf _ _
  have key : ∀ N : Nat, (∀ (x4 : Int) (x5 : JV) (g : JH), (0 ≤ x4 ∧ x4 ≤ 300) → jfr w_X7_standAt h g → (300 - x4) * 1000000 + 999999 < (N : Int) → jGo E l 140 229 229 (jRK (k_X7_standAt a1 h)) 28 [.inr (.inr (.inl 111)), .inl a1, .inr (.inr (.inl 2)), .inr (.inr (.inl 11)), .inl x4, x5] [] 229 jr0 g) ∧
      (∀ (x4 : Int) (x5 : Int) (g : JH), (0 ≤ x4 ∧ x4 ≤ 299 ∧ 0 ≤ x5 ∧ x5 ≤ 4) → jfr w_X7_standAt h g → (300 - x4) * 1000000 + (4 - x5) < (N : Int) → jGo E l 140 229 229 (jRK (k_X7_standAt a1 h)) 59 [.inr (.inr (.inl 111)), .inl a1, .inr (.inr (.inl 2)), .inr (.inr (.inl 11)), .inl x4, .inl x5] [] 229 jr0 g) := by
    intro N
    induction N with
    | zero => exact ⟨fun _ _ _ hi _ hN => absurd hN (by omega), fun _ _ _ hi _ hN => absurd hN (by omega)⟩
    | succ N ih =>
      refine ⟨?_, ?_⟩
      · intro x4 x5 g hi hf hN
        refine jGo_blk qX7_standAt_28 ?_
        refine And.intro (fun c1 => ?_) (fun c1 => ?_)
        · replace c1 : 300 ≤ x4 := c1
          show jGo E l 140 229 229 _ 117 [.inr (.inr (.inl 111)), .inl a1, .inr (.inr (.inl 2)), .inr (.inr (.inl 11)), .inl x4, x5] [] 229 jr0 g
          refine jGo_blk qX7_standAt_117 ?_
          refine st_pi jo_111 (fun hx => (jbf_7_9 jo_111 _).2 (show 0 ≤ 1 ∧ 1 ≤ 1 by omega)) (fun g2 eg2 => ?_)
          replace eg2 : g2 = jup g 111 9 1 := eg2
          have fg2 : jfr w_X7_standAt h g2 := jfr_up hf eg2 (by unfold w_X7_standAt; omega)
          have e3 : g2 111 9 = 1 := jup_s eg2
          exact ⟨rfl, rfl, fg2, rfl, trivial⟩
        · replace c1 : x4 < 300 := by first | exact c1 | exact Int.not_le.mp c1 | exact Int.not_lt.mp c1 | exact Decidable.not_not.mp c1
          refine st_gr jo_111 jr_111_4 ?_
          refine st_gi jo_111 (fun v4 ev4 b5 => ?_)
          replace ev4 : v4 = g 111 3 := ev4
          replace b5 := (jbf_7_3 jo_111 _).1 b5
          have e6 : jw32 (v4 + 1) = v4 + 1 := j32e (by omega) (by omega)
          have e7 : jw32 ((jw32 (v4 + 1)) + x4) = (jw32 (v4 + 1)) + x4 := j32e (by omega) (by omega)
          refine st_cv (na := 4) (st := [.inr (.inr (.inl 11)), .inr (.inr (.inl 2)), .inl (jw32 ((jw32 (v4 + 1)) + x4)), .inl x4, .inr (.inr (.inl 113))]) jo_113 rfl rfl rfl (c_X0_write_113 x4 (jw32 ((jw32 (v4 + 1)) + x4)) g (by omega) (by omega)) rfl ?_
          rintro _ _ g9 ⟨rfl, ft8, rfl, zt8⟩ kt8
          have fg9 : jfr w_X7_standAt h g9 := jfr_tr hf ft8 (fun i k q => by unfold w_X0_write_113 at q; unfold w_X7_standAt; omega)
          replace zt8 : jWri 114 x4 (jw32 ((jw32 (v4 + 1)) + x4)) g g9 := zt8
          show jGo E l 140 229 229 _ 59 [.inr (.inr (.inl 111)), .inl a1, .inr (.inr (.inl 2)), .inr (.inr (.inl 11)), .inl x4, .inl 0] [] 229 jr0 g9
          exact ih.2 x4 0 g9 (by omega) fg9 (by omega)
      · intro x4 x5 g hi hf hN
        refine jGo_blk qX7_standAt_59 ?_
        refine And.intro (fun c10 => ?_) (fun c10 => ?_)
        · replace c10 : 4 ≤ x5 := c10
          show jGo E l 140 229 229 _ 111 [.inr (.inr (.inl 111)), .inl a1, .inr (.inr (.inl 2)), .inr (.inr (.inl 11)), .inl x4, .inl x5] [] 229 jr0 g
          refine jGo_blk qX7_standAt_111 ?_
          have e11 : jw32 (x4 + 1) = x4 + 1 := j32e (by omega) (by omega)
          show jGo E l 140 229 229 _ 28 [.inr (.inr (.inl 111)), .inl a1, .inr (.inr (.inl 2)), .inr (.inr (.inl 11)), .inl (jw32 (x4 + 1)), .inl x5] [] 229 jr0 g
          exact ih.1 (jw32 (x4 + 1)) (.inl x5) g (by omega) hf (by omega)
        · replace c10 : x5 < 4 := by first | exact c10 | exact Int.not_le.mp c10 | exact Int.not_lt.mp c10 | exact Decidable.not_not.mp c10
          refine st_gr jo_111 jr_111_4 ?_
          refine st_gr jo_113 jr_113_1 ?_
          refine st_ai jo_115 (show 0 ≤ x4 by omega) (show x4 < ((300 : Nat) : Int) by omega) (fun v12 ev12 b13 => ?_)
          replace ev12 : v12 = g 115 x4 := ev12
          replace b13 := (jba_115 x4 _).1 b13
          refine And.intro (fun c14 => ?_) (fun c14 => ?_)
          · replace c14 : v12 ≤ 0 := c14
            show jGo E l 140 229 229 _ 105 [.inr (.inr (.inl 111)), .inl a1, .inr (.inr (.inl 2)), .inr (.inr (.inl 11)), .inl x4, .inl x5] [] 229 jr0 g
            refine jGo_blk qX7_standAt_105 ?_
            have e15 : jw32 (x5 + 1) = x5 + 1 := j32e (by omega) (by omega)
            show jGo E l 140 229 229 _ 59 [.inr (.inr (.inl 111)), .inl a1, .inr (.inr (.inl 2)), .inr (.inr (.inl 11)), .inl x4, .inl (jw32 (x5 + 1))] [] 229 jr0 g
            exact ih.2 x4 (jw32 (x5 + 1)) g (by omega) hf (by omega)
          · replace c14 : 0 < v12 := by first | exact c14 | exact Int.not_le.mp c14 | exact Int.not_lt.mp c14 | exact Decidable.not_not.mp c14
            refine st_gr jo_111 jr_111_4 ?_
            refine st_gr jo_113 jr_113_0 ?_
            have e16 : jw32 (x4 * 4) = x4 * 4 := j32e (by omega) (by omega)
            have e17 : jw32 ((jw32 (x4 * 4)) + x5) = (jw32 (x4 * 4)) + x5 := j32e (by omega) (by omega)
            refine st_ai jo_114 (show 0 ≤ jw32 ((jw32 (x4 * 4)) + x5) by omega) (show jw32 ((jw32 (x4 * 4)) + x5) < ((1200 : Nat) : Int) by omega) (fun v18 ev18 b19 => ?_)
            replace ev18 : v18 = g 114 (jw32 ((jw32 (x4 * 4)) + x5)) := ev18
            replace b19 := (jba_114 (jw32 ((jw32 (x4 * 4)) + x5)) _).1 b19
            refine And.intro (fun c20 => ?_) (fun c20 => ?_)
            · replace c20 : v18 ≤ 0 := c20
              show jGo E l 140 229 229 _ 105 [.inr (.inr (.inl 111)), .inl a1, .inr (.inr (.inl 2)), .inr (.inr (.inl 11)), .inl x4, .inl x5] [] 229 jr0 g
              refine jGo_blk qX7_standAt_105 ?_
              have e21 : jw32 (x5 + 1) = x5 + 1 := j32e (by omega) (by omega)
              show jGo E l 140 229 229 _ 59 [.inr (.inr (.inl 111)), .inl a1, .inr (.inr (.inl 2)), .inr (.inr (.inl 11)), .inl x4, .inl (jw32 (x5 + 1))] [] 229 jr0 g
              exact ih.2 x4 (jw32 (x5 + 1)) g (by omega) hf (by omega)
            · replace c20 : 0 < v18 := by first | exact c20 | exact Int.not_le.mp c20 | exact Int.not_lt.mp c20 | exact Decidable.not_not.mp c20
              refine st_gr jo_111 jr_111_5 ?_
              refine st_si jo_118 (show 0 ≤ x5 by omega) (show x5 < ((4 : Nat) : Int) by omega) (fun hx => (jba_118 _ _).2 (show -1 ≤ x4 ∧ x4 ≤ 299 by omega)) (fun g22 eg22 => ?_)
              replace eg22 : g22 = jup g 118 x5 x4 := eg22
              have fg22 : jfr w_X7_standAt h g22 := jfr_up hf eg22 (by unfold w_X7_standAt; omega)
              have e23 : g22 118 x5 = x4 := jup_s eg22
              show jGo E l 140 229 229 _ 105 [.inr (.inr (.inl 111)), .inl a1, .inr (.inr (.inl 2)), .inr (.inr (.inl 11)), .inl x4, .inl x5] [] 229 jr0 g22
              refine jGo_blk qX7_standAt_105 ?_
              have e24 : jw32 (x5 + 1) = x5 + 1 := j32e (by omega) (by omega)
              show jGo E l 140 229 229 _ 59 [.inr (.inr (.inl 111)), .inl a1, .inr (.inr (.inl 2)), .inr (.inr (.inl 11)), .inl x4, .inl (jw32 (x5 + 1))] [] 229 jr0 g22
              exact ih.2 x4 (jw32 (x5 + 1)) g22 (by omega) fg22 (by omega)
  refine jGo_blk qX7_standAt_0 ?_
  refine st_gi jo_111 (fun v25 ev25 b26 => ?_)
  replace ev25 : v25 = h 111 9 := ev25
  replace b26 := (jbf_7_9 jo_111 _).1 b26
  refine And.intro (fun c27 => ?_) (fun c27 => ?_)
  · replace c27 : v25 = 0 := c27
    show jGo E l 140 229 229 _ 8 [.inr (.inr (.inl 111)), .inl a1, .inr (.inr (.inl 2)), .inr (.inr (.inl 11)), .inr (.inr (.inr ())), .inr (.inr (.inr ()))] [] 229 jr0 h
    refine jGo_blk qX7_standAt_8 ?_
    refine st_pi jo_111 (fun hx => (jbf_7_3 jo_111 _).2 (show 0 ≤ a1 ∧ a1 ≤ 2000 by omega)) (fun g28 eg28 => ?_)
    replace eg28 : g28 = jup h 111 3 a1 := eg28
    have fg28 : jfr w_X7_standAt h g28 := jfr_up f0 eg28 (by unfold w_X7_standAt; omega)
    have e29 : g28 111 3 = a1 := jup_s eg28
    refine st_cv (na := 0) (st := [.inr (.inr (.inl 11))]) jo_11 rfl rfl rfl (c_X2_rewind g28) rfl ?_
    rintro _ _ g31 ⟨rfl, ft30, rfl, zt30⟩ kt30
    have fg31 : jfr w_X7_standAt h g31 := jfr_tr fg28 ft30 (fun i k q => by unfold w_X2_rewind at q; unfold w_X7_standAt; omega)
    replace zt30 : (∀ t : Int, 0 ≤ t → t ≤ 9 → g31 15 t = if t = 9 then 60 else 0) ∧ g31 11 5 = 0 := zt30
    refine st_gr jo_111 jr_111_5 ?_
    refine st_cs (na := 2) (st := [.inl (-1), .inr (.inr (.inl 118))]) rfl rfl rfl (c_fill 118 (-1) g31 jo_118 (by decide) (fun k hx => (jba_118 _ _).2 (by omega))) rfl ?_
    rintro _ _ g33 ⟨rfl, ft32, rfl, zt32⟩ kt32
    have fg33 : jfr w_X7_standAt h g33 := jfr_tr fg31 ft32 (fun i k q => by unfold w_fill at q; unfold w_X7_standAt; omega)
    show jGo E l 140 229 229 _ 28 [.inr (.inr (.inl 111)), .inl a1, .inr (.inr (.inl 2)), .inr (.inr (.inl 11)), .inl 0, .inr (.inr (.inr ()))] [] 229 jr0 g33
    exact (key 1000000000000000000).1 0 (.inr (.inr (.inr ()))) g33 (by omega) fg33 (by omega)
  · replace c27 : ¬ v25 = 0 := by first | exact c27 | exact Int.not_le.mp c27 | exact Int.not_lt.mp c27 | exact Decidable.not_not.mp c27
    exact ⟨rfl, rfl, f0, rfl, trivial⟩

def w_X4_become (a0 : Int) (a1 : Int) (i k : Int) : Prop := (a0 + 0 ≤ i ∧ i ≤ a0 + 0) ∨ (a0 + 1 ≤ i ∧ i ≤ a0 + 1) ∨ (a0 + 2 ≤ i ∧ i ≤ a0 + 2)
def k_X4_become (a0 : Int) (a1 : Int) (h : JH) (v : Option JV) (r' g : JH) : Prop := r' = jr0 ∧ jfr (w_X4_become a0 a1) h g ∧ v = none ∧ (True)
set_option maxHeartbeats 4000000 in
theorem c_X4_become {E : JE} {l : Launch} (a0 : Int) (a1 : Int) (h : JH) (ha0 : jHl a0) (ha1 : jHl a1) : jMt E l 141 [.inr (.inr (.inl a0)), .inr (.inr (.inl a1))] 229 jr0 h (k_X4_become a0 a1 h) := by
  refine jMt0 (nL := 2) (ls := [.inr (.inr (.inl a0)), .inr (.inr (.inl a1))]) (by decide +kernel) (by decide +kernel) (by decide +kernel) rfl rfl ?_
  have f0 : jfr (w_X4_become a0 a1) h h := jfr_rf _ _
  refine jGo_blk qX4_become_0 ?_
  refine st_gi ha1.1 (fun v1 ev1 b2 => ?_)
  replace ev1 : v1 = h a1 0 := ev1
  replace b2 := (jbf_4_0 ha1.1 _).1 b2
  refine st_gi ha1.1 (fun v3 ev3 b4 => ?_)
  replace ev3 : v3 = h a1 1 := ev3
  replace b4 := (jbf_4_1 ha1.1 _).1 b4
  refine st_gi ha1.1 (fun v5 ev5 b6 => ?_)
  replace ev5 : v5 = h a1 2 := ev5
  replace b6 := (jbf_4_2 ha1.1 _).1 b6
  refine st_cv (na := 3) (st := [.inl v5, .inl v3, .inl v1, .inr (.inr (.inl a0))]) ha0.1 rfl rfl rfl (c_X4_begin a0 v1 v3 v5 h ha0 (by omega) (by omega) (by omega)) rfl ?_
  rintro _ _ g8 ⟨rfl, ft7, rfl, zt7⟩ kt7
  have fg8 : jfr (w_X4_become a0 a1) h g8 := jfr_tr f0 ft7 (fun i k q => by unfold w_X4_begin at q; unfold w_X4_become; omega)
  replace zt7 : g8 = jBgn a0 v1 v3 v5 h := zt7
  refine st_gi ha1.1 (fun v9 ev9 b10 => ?_)
  replace ev9 : v9 = g8 a1 3 := ev9
  replace b10 := (jbf_4_3 ha1.1 _).1 b10
  refine st_pi ha0.1 (fun hx => (jbf_4_3 ha0.1 _).2 (show 0 ≤ v9 ∧ v9 ≤ 3 by omega)) (fun g11 eg11 => ?_)
  replace eg11 : g11 = jup g8 a0 3 v9 := eg11
  have fg11 : jfr (w_X4_become a0 a1) h g11 := jfr_up fg8 eg11 (by unfold w_X4_become; omega)
  have e12 : g11 a0 3 = v9 := jup_s eg11
  refine st_gi ha1.1 (fun v13 ev13 b14 => ?_)
  replace ev13 : v13 = g11 a1 4 := ev13
  replace b14 := (jbf_4_4 ha1.1 _).1 b14
  refine st_pi ha0.1 (fun hx => (jbf_4_4 ha0.1 _).2 (show -9 ≤ v13 ∧ v13 ≤ 5 by omega)) (fun g15 eg15 => ?_)
  replace eg15 : g15 = jup g11 a0 4 v13 := eg15
  have fg15 : jfr (w_X4_become a0 a1) h g15 := jfr_up fg11 eg15 (by unfold w_X4_become; omega)
  have e16 : g15 a0 4 = v13 := jup_s eg15
  refine st_gi ha1.1 (fun v17 ev17 b18 => ?_)
  replace ev17 : v17 = g15 a1 5 := ev17
  replace b18 := (jbf_4_5 ha1.1 _).1 b18
  refine st_pi ha0.1 (fun hx => (jbf_4_5 ha0.1 _).2 (show 0 ≤ v17 ∧ v17 ≤ 3 by omega)) (fun g19 eg19 => ?_)
  replace eg19 : g19 = jup g15 a0 5 v17 := eg19
  have fg19 : jfr (w_X4_become a0 a1) h g19 := jfr_up fg15 eg19 (by unfold w_X4_become; omega)
  have e20 : g19 a0 5 = v17 := jup_s eg19
  refine st_gi ha1.1 (fun v21 ev21 b22 => ?_)
  replace ev21 : v21 = g19 a1 6 := ev21
  replace b22 := (jbf_4_6 ha1.1 _).1 b22
  refine st_pi ha0.1 (fun hx => (jbf_4_6 ha0.1 _).2 hx) (fun g23 eg23 => ?_)
  replace eg23 : g23 = jup g19 a0 6 v21 := eg23
  have fg23 : jfr (w_X4_become a0 a1) h g23 := jfr_up fg19 eg23 (by unfold w_X4_become; omega)
  have e24 : g23 a0 6 = v21 := jup_s eg23
  refine st_gi ha1.1 (fun v25 ev25 b26 => ?_)
  replace ev25 : v25 = g23 a1 7 := ev25
  replace b26 := (jbf_4_7 ha1.1 _).1 b26
  refine st_pi ha0.1 (fun hx => (jbf_4_7 ha0.1 _).2 (show 0 ≤ v25 ∧ v25 ≤ 1 by omega)) (fun g27 eg27 => ?_)
  replace eg27 : g27 = jup g23 a0 7 v25 := eg27
  have fg27 : jfr (w_X4_become a0 a1) h g27 := jfr_up fg23 eg27 (by unfold w_X4_become; omega)
  have e28 : g27 a0 7 = v25 := jup_s eg27
  refine st_gi ha1.1 (fun v29 ev29 b30 => ?_)
  replace ev29 : v29 = g27 a1 8 := ev29
  replace b30 := (jbf_4_8 ha1.1 _).1 b30
  refine st_pi ha0.1 (fun hx => (jbf_4_8 ha0.1 _).2 hx) (fun g31 eg31 => ?_)
  replace eg31 : g31 = jup g27 a0 8 v29 := eg31
  have fg31 : jfr (w_X4_become a0 a1) h g31 := jfr_up fg27 eg31 (by unfold w_X4_become; omega)
  have e32 : g31 a0 8 = v29 := jup_s eg31
  refine st_gi ha1.1 (fun v33 ev33 b34 => ?_)
  replace ev33 : v33 = g31 a1 9 := ev33
  replace b34 := (jbf_4_9 ha1.1 _).1 b34
  refine st_pi ha0.1 (fun hx => (jbf_4_9 ha0.1 _).2 hx) (fun g35 eg35 => ?_)
  replace eg35 : g35 = jup g31 a0 9 v33 := eg35
  have fg35 : jfr (w_X4_become a0 a1) h g35 := jfr_up fg31 eg35 (by unfold w_X4_become; omega)
  have e36 : g35 a0 9 = v33 := jup_s eg35
  refine st_gi ha1.1 (fun v37 ev37 b38 => ?_)
  replace ev37 : v37 = g35 a1 10 := ev37
  replace b38 := (jbf_4_10 ha1.1 _).1 b38
  refine st_pi ha0.1 (fun hx => (jbf_4_10 ha0.1 _).2 (show 0 ≤ v37 ∧ v37 ≤ 1 by omega)) (fun g39 eg39 => ?_)
  replace eg39 : g39 = jup g35 a0 10 v37 := eg39
  have fg39 : jfr (w_X4_become a0 a1) h g39 := jfr_up fg35 eg39 (by unfold w_X4_become; omega)
  have e40 : g39 a0 10 = v37 := jup_s eg39
  refine st_gr ha1.1 rfl ?_
  refine st_gr ha0.1 rfl ?_
  refine st_cp ha0.2.1 ha1.2.1 (show 0 ≤ 0 by omega) (show 0 ≤ 0 by omega) (show 0 ≤ 6 by omega) (show 0 + 6 ≤ ((6 : Nat) : Int) by omega) (show 0 + 6 ≤ ((6 : Nat) : Int) by omega) rfl (fun hg j _ _ => (ha0.2.2.2.2.2.1 _ _).2 (jbd_int (by rw [ha1.2.1.2.2]; decide) (hg _ _))) (fun g41 eg41 => ?_)
  replace eg41 : g41 = jcp g39 (jr0 a1 11) 0 (jr0 a0 11) 0 6 := eg41
  have fg41 : jfr (w_X4_become a0 a1) h g41 := jfr_cp fg39 eg41 (fun _ => by have q9 := ha0.2.2.2.1; have q8 := ha0.2.2.2.2.1; unfold w_X4_become; omega)
  refine st_gr ha1.1 rfl ?_
  refine st_gr ha0.1 rfl ?_
  refine st_cp ha0.2.2.1 ha1.2.2.1 (show 0 ≤ 0 by omega) (show 0 ≤ 0 by omega) (show 0 ≤ 6 by omega) (show 0 + 6 ≤ ((6 : Nat) : Int) by omega) (show 0 + 6 ≤ ((6 : Nat) : Int) by omega) rfl (fun hg j _ _ => (ha0.2.2.2.2.2.2 _ _).2 (jbd_int (by rw [ha1.2.2.1.2.2]; decide) (hg _ _))) (fun g42 eg42 => ?_)
  replace eg42 : g42 = jcp g41 (jr0 a1 12) 0 (jr0 a0 12) 0 6 := eg42
  have fg42 : jfr (w_X4_become a0 a1) h g42 := jfr_cp fg41 eg42 (fun _ => by have q9 := ha0.2.2.2.1; have q8 := ha0.2.2.2.2.1; unfold w_X4_become; omega)
  exact ⟨rfl, rfl, fg42, rfl, trivial⟩

def w_X10_become_119_29_34 (i k : Int) : Prop := (120 ≤ i ∧ i ≤ 121) ∨ (i = 124) ∨ (126 ≤ i ∧ i ≤ 173) ∨ (i = 119 ∧ k = 6)
def k_X10_become_119_29_34 (a3 : Int) (h : JH) (v : Option JV) (r' g : JH) : Prop := r' = jr0 ∧ jfr w_X10_become_119_29_34 h g ∧ v = none ∧ (True)
set_option maxHeartbeats 4000000 in
theorem c_X10_become_119_29_34 {E : JE} {l : Launch} (a3 : Int) (h : JH) (p3 : 0 ≤ a3 ∧ a3 ≤ 16) : jMt E l 142 [.inr (.inr (.inl 119)), .inr (.inr (.inl 29)), .inr (.inr (.inl 34)), .inl a3] 229 jr0 h (k_X10_become_119_29_34 a3 h) := by
  refine jMt0 (nL := 5) (ls := [.inr (.inr (.inl 119)), .inr (.inr (.inl 29)), .inr (.inr (.inl 34)), .inl a3, .inr (.inr (.inr ()))]) (by decide +kernel) (by decide +kernel) (by decide +kernel) rfl rfl ?_
  have f0 : jfr w_X10_become_119_29_34 h h := jfr_rf _ _
  have key : ∀ N : Nat, (∀ (x4 : Int) (g : JH), (0 ≤ x4 ∧ x4 ≤ 16) → jfr w_X10_become_119_29_34 h g → (16 - x4) < (N : Int) → jGo E l 142 229 229 (jRK (k_X10_become_119_29_34 a3 h)) 49 [.inr (.inr (.inl 119)), .inr (.inr (.inl 29)), .inr (.inr (.inl 34)), .inl a3, .inl x4] [] 229 jr0 g) := by
    intro N
    induction N with
    | zero => exact fun _ _ hi _ hN => absurd hN (by omega)
    | succ N ih =>
      intro x4 g hi hf hN
      refine jGo_blk qX10_become_49 ?_
      refine And.intro (fun c1 => ?_) (fun c1 => ?_)
      · replace c1 : a3 ≤ x4 := c1
        show jGo E l 142 229 229 _ 88 [.inr (.inr (.inl 119)), .inr (.inr (.inl 29)), .inr (.inr (.inl 34)), .inl a3, .inl x4] [] 229 jr0 g
        refine jGo_blk qX10_become_88 ?_
        exact ⟨rfl, rfl, hf, rfl, trivial⟩
      · replace c1 : x4 < a3 := by first | exact c1 | exact Int.not_le.mp c1 | exact Int.not_lt.mp c1 | exact Decidable.not_not.mp c1
        refine st_gr jo_119 jr_119_3 ?_
        refine st_gr jo_119 jr_119_5 ?_
        refine st_ai jo_124 (show 0 ≤ x4 by omega) (show x4 < ((16 : Nat) : Int) by omega) (fun v2 ev2 b3 => ?_)
        replace ev2 : v2 = g 124 x4 := ev2
        replace b3 := (jba_124 x4 _).1 b3
        refine st_ar jo_123 (by decide) (show 0 ≤ v2 by omega) (show v2 < ((16 : Nat) : Int) by omega) (fun u4 eu4 => ?_)
        replace eu4 : u4 = jr0 123 v2 := eu4
        have qu4 : u4 = 126 + 3 * v2 := eu4.trans (jhul_123 v2 (by omega) (by omega)).1
        have hu4 : jHl u4 := by rw [eu4]; exact (jhul_123 v2 (by omega) (by omega)).2
        refine st_gr jo_29 jr_29_3 ?_
        refine st_gr jo_119 jr_119_5 ?_
        refine st_ai jo_124 (show 0 ≤ x4 by omega) (show x4 < ((16 : Nat) : Int) by omega) (fun v5 ev5 b6 => ?_)
        replace ev5 : v5 = g 124 x4 := ev5
        replace b6 := (jba_124 x4 _).1 b6
        refine st_ar jo_33 (by decide) (show 0 ≤ v5 by omega) (show v5 < ((16 : Nat) : Int) by omega) (fun u7 eu7 => ?_)
        replace eu7 : u7 = jr0 33 v5 := eu7
        have qu7 : u7 = 36 + 3 * v5 := eu7.trans (jhul_33 v5 (by omega) (by omega)).1
        have hu7 : jHl u7 := by rw [eu7]; exact (jhul_33 v5 (by omega) (by omega)).2
        refine st_cv (na := 1) (st := [.inr (.inr (.inl u7)), .inr (.inr (.inl u4))]) hu4.1 rfl rfl rfl (c_X4_become u4 u7 g hu4 hu7) rfl ?_
        rintro _ _ g9 ⟨rfl, ft8, rfl, zt8⟩ kt8
        have fg9 : jfr w_X10_become_119_29_34 h g9 := jfr_tr hf ft8 (fun i k q => by unfold w_X4_become at q; unfold w_X10_become_119_29_34; omega)
        have e10 : jw32 (x4 + 1) = x4 + 1 := j32e (by omega) (by omega)
        show jGo E l 142 229 229 _ 49 [.inr (.inr (.inl 119)), .inr (.inr (.inl 29)), .inr (.inr (.inl 34)), .inl a3, .inl (jw32 (x4 + 1))] [] 229 jr0 g9
        exact ih (jw32 (x4 + 1)) g9 (by omega) fg9 (by omega)
  refine jGo_blk qX10_become_0 ?_
  refine st_gr jo_29 jr_29_0 ?_
  refine st_gr jo_119 jr_119_0 ?_
  refine st_cp jo_120 jo_30 (show 0 ≤ 0 by omega) (show 0 ≤ 0 by omega) (show 0 ≤ 6 by omega) (show 0 + 6 ≤ ((6 : Nat) : Int) by omega) (show 0 + 6 ≤ ((6 : Nat) : Int) by omega) rfl (fun hg j _ _ => (jba_120 _ _).2 (jbd_int (by rw [jo_30.2.2]; decide) (hg _ _))) (fun g11 eg11 => ?_)
  replace eg11 : g11 = jcp h 30 0 120 0 6 := eg11
  have fg11 : jfr w_X10_become_119_29_34 h g11 := jfr_cp f0 eg11 (fun _ => by unfold w_X10_become_119_29_34; omega)
  refine st_gr jo_29 jr_29_1 ?_
  refine st_gr jo_119 jr_119_1 ?_
  refine st_cp jo_121 jo_31 (show 0 ≤ 0 by omega) (show 0 ≤ 0 by omega) (show 0 ≤ 6 by omega) (show 0 + 6 ≤ ((6 : Nat) : Int) by omega) (show 0 + 6 ≤ ((6 : Nat) : Int) by omega) rfl (fun hg j _ _ => (jba_121 _ _).2 ((jba_31 _ _).1 (hg _ _))) (fun g12 eg12 => ?_)
  replace eg12 : g12 = jcp g11 31 0 121 0 6 := eg12
  have fg12 : jfr w_X10_become_119_29_34 h g12 := jfr_cp fg11 eg12 (fun _ => by unfold w_X10_become_119_29_34; omega)
  refine st_gr jo_119 jr_119_5 ?_
  refine st_cp jo_124 jo_34 (show 0 ≤ 0 by omega) (show 0 ≤ 0 by omega) (show 0 ≤ a3 by omega) (show 0 + a3 ≤ ((16 : Nat) : Int) by omega) (show 0 + a3 ≤ ((16 : Nat) : Int) by omega) rfl (fun hg j _ _ => (jba_124 _ _).2 ((jba_34 _ _).1 (hg _ _))) (fun g13 eg13 => ?_)
  replace eg13 : g13 = jcp g12 34 0 124 0 a3 := eg13
  have fg13 : jfr w_X10_become_119_29_34 h g13 := jfr_cp fg12 eg13 (fun _ => by unfold w_X10_become_119_29_34; omega)
  refine st_pi jo_119 (fun hx => (jbf_10_6 jo_119 _).2 (show 0 ≤ a3 ∧ a3 ≤ 16 by omega)) (fun g14 eg14 => ?_)
  replace eg14 : g14 = jup g13 119 6 a3 := eg14
  have fg14 : jfr w_X10_become_119_29_34 h g14 := jfr_up fg13 eg14 (by unfold w_X10_become_119_29_34; omega)
  have e15 : g14 119 6 = a3 := jup_s eg14
  show jGo E l 142 229 229 _ 49 [.inr (.inr (.inl 119)), .inr (.inr (.inl 29)), .inr (.inr (.inl 34)), .inl a3, .inl 0] [] 229 jr0 g14
  exact (key 1000000000000) 0 g14 (by omega) fg14 (by omega)

def w_X10_berth_119 (i k : Int) : Prop := (i = 121) ∨ (126 ≤ i ∧ i ≤ 173) ∨ (i = 119 ∧ k = 10)
def k_X10_berth_119 (a1 : Int) (a2 : Int) (h : JH) (v : Option JV) (r' g : JH) : Prop := r' = jr0 ∧ jfr w_X10_berth_119 h g ∧ v = none ∧ (g = jBrt 119 121 126 a1 a2 h)
set_option maxHeartbeats 4000000 in
theorem c_X10_berth_119 {E : JE} {l : Launch} (a1 : Int) (a2 : Int) (h : JH) (p1 : 0 ≤ a1 ∧ a1 ≤ 15) (p2 : 0 ≤ a2 ∧ a2 ≤ 5) : jMt E l 76 [.inr (.inr (.inl 119)), .inl a1, .inl a2, .inr (.inr (.inl 16))] 229 jr0 h (k_X10_berth_119 a1 a2 h) := by
  refine jMt0 (nL := 4) (ls := [.inr (.inr (.inl 119)), .inl a1, .inl a2, .inr (.inr (.inl 16))]) (by decide +kernel) (by decide +kernel) (by decide +kernel) rfl rfl ?_
  have f0 : jfr w_X10_berth_119 h h := jfr_rf _ _
  refine jGo_blk qX10_berth_0 ?_
  refine st_gr jo_119 jr_119_1 ?_
  refine st_si jo_121 (show 0 ≤ a2 by omega) (show a2 < ((6 : Nat) : Int) by omega) (fun hx => (jba_121 _ _).2 (show -2 ≤ a1 ∧ a1 ≤ 15 by omega)) (fun g1 eg1 => ?_)
  replace eg1 : g1 = jup h 121 a2 a1 := eg1
  have fg1 : jfr w_X10_berth_119 h g1 := jfr_up f0 eg1 (by unfold w_X10_berth_119; omega)
  have e2 : g1 121 a2 = a1 := jup_s eg1
  refine st_gr jo_119 jr_119_3 ?_
  refine st_ar jo_123 (by decide) (show 0 ≤ a1 by omega) (show a1 < ((16 : Nat) : Int) by omega) (fun u3 eu3 => ?_)
  replace eu3 : u3 = jr0 123 a1 := eu3
  have qu3 : u3 = 126 + 3 * a1 := eu3.trans (jhul_123 a1 (by omega) (by omega)).1
  have hu3 : jHl u3 := by rw [eu3]; exact (jhul_123 a1 (by omega) (by omega)).2
  refine st_cv (na := 2) (st := [.inr (.inr (.inl 16)), .inl a2, .inr (.inr (.inl u3))]) hu3.1 rfl rfl rfl (c_X4_enter u3 a2 g1 hu3 (by omega)) rfl ?_
  rintro _ _ g5 ⟨rfl, ft4, rfl, zt4⟩ kt4
  have fg5 : jfr w_X10_berth_119 h g5 := jfr_tr fg1 ft4 (fun i k q => by unfold w_X4_enter at q; unfold w_X10_berth_119; omega)
  replace zt4 : g5 = jEnt u3 a2 g1 := zt4
  refine st_pi jo_119 (fun hx => (jbf_10_10 jo_119 _).2 (show 0 ≤ 1 ∧ 1 ≤ 1 by omega)) (fun g6 eg6 => ?_)
  replace eg6 : g6 = jup g5 119 10 1 := eg6
  have fg6 : jfr w_X10_berth_119 h g6 := jfr_up fg5 eg6 (by unfold w_X10_berth_119; omega)
  have e7 : g6 119 10 = 1 := jup_s eg6
  exact ⟨rfl, rfl, fg6, rfl, (by subst eg6 zt4 qu3 eg1; unfold jBrt; rfl)⟩

def w_X10_moveOn_119 (i k : Int) : Prop := (i = 121) ∨ (126 ≤ i ∧ i ≤ 173) ∨ (i = 119 ∧ k = 10)
def k_X10_moveOn_119 (a1 : Int) (h : JH) (v : Option JV) (r' g : JH) : Prop := r' = jr0 ∧ jfr w_X10_moveOn_119 h g ∧ ∃ x : Int, v = some (.inl x) ∧ (True) ∧ (g = jit (jMvr 119 121 126 a1) 6 h)
set_option maxHeartbeats 4000000 in
theorem c_X10_moveOn_119 {E : JE} {l : Launch} (a1 : Int) (h : JH) : jMt E l 77 [.inr (.inr (.inl 119)), .inl a1, .inr (.inr (.inl 16))] 229 jr0 h (k_X10_moveOn_119 a1 h) := by
  refine jMt0 (nL := 6) (ls := [.inr (.inr (.inl 119)), .inl a1, .inr (.inr (.inl 16)), .inr (.inr (.inr ())), .inr (.inr (.inr ())), .inr (.inr (.inr ()))]) (by decide +kernel) (by decide +kernel) (by decide +kernel) rfl rfl ?_
  have f0 : jfr w_X10_moveOn_119 h h := jfr_rf _ _
  have key : ∀ N : Nat, (∀ (x3 : Int) (x4 : Int) (x5 : JV) (g : JH), ((-1) ≤ x4 ∧ x4 ≤ 5) → (g = jit (jMvr 119 121 126 a1) (5 - x4).toNat h) → (-1 ≤ x4 ∧ x4 ≤ 5) → jfr w_X10_moveOn_119 h g → (x4 - (-1)) < (N : Int) → jGo E l 77 229 229 (jRK (k_X10_moveOn_119 a1 h)) 5 [.inr (.inr (.inl 119)), .inl a1, .inr (.inr (.inl 16)), .inl x3, .inl x4, x5] [] 229 jr0 g) := by
    intro N
    induction N with
    | zero => exact fun _ _ _ _ hi hx0 hx1 _ hN => absurd hN (by omega)
    | succ N ih =>
      intro x3 x4 x5 g hi hx0 hx1 hf hN
      refine jGo_ok (fun hls _ => ?_)
      have rx3 : -2147483648 ≤ x3 ∧ x3 ≤ 2147483647 := hls (.inl x3) (by simp)
      refine jGo_blk qX10_moveOn_5 ?_
      refine And.intro (fun c1 => ?_) (fun c1 => ?_)
      · replace c1 : x4 < 0 := c1
        show jGo E l 77 229 229 _ 114 [.inr (.inr (.inl 119)), .inl a1, .inr (.inr (.inl 16)), .inl x3, .inl x4, x5] [] 229 jr0 g
        refine jGo_blk qX10_moveOn_114 ?_
        exact st_r0 (ls := []) ⟨rfl, rfl, hf, x3, rfl, trivial, (by rw [hx0, show 5 - x4 = 6 by omega] <;> rfl)⟩
      · replace c1 : 0 ≤ x4 := by first | exact c1 | exact Int.not_le.mp c1 | exact Int.not_lt.mp c1 | exact Decidable.not_not.mp c1
        refine st_gr jo_119 jr_119_1 ?_
        refine st_ai jo_121 (show 0 ≤ x4 by omega) (show x4 < ((6 : Nat) : Int) by omega) (fun v2 ev2 b3 => ?_)
        replace ev2 : v2 = g 121 x4 := ev2
        replace b3 := (jba_121 x4 _).1 b3
        refine And.intro (fun c4 => ?_) (fun c4 => ?_)
        · replace c4 : v2 < 0 := c4
          show jGo E l 77 229 229 _ 108 [.inr (.inr (.inl 119)), .inl a1, .inr (.inr (.inl 16)), .inl x3, .inl x4, .inl v2] [] 229 jr0 g
          refine jGo_blk qX10_moveOn_108 ?_
          have e5 : jw32 (x4 + (-1)) = x4 + (-1) := j32e (by omega) (by omega)
          show jGo E l 77 229 229 _ 5 [.inr (.inr (.inl 119)), .inl a1, .inr (.inr (.inl 16)), .inl x3, .inl (jw32 (x4 + (-1))), .inl v2] [] 229 jr0 g
          exact ih x3 (jw32 (x4 + (-1))) (.inl v2) g (by omega) (by rw [show 5 - jw32 (x4 + (-1)) = (5 - x4) + 1 by omega, jit_s (by omega), ← hx0]; unfold jMvr; rw [show 5 - (5 - x4) = x4 by omega]; subst ev2; unfold jMv; (repeat (first | rw [if_pos (by omega)] | rw [if_neg (by omega)])); all_goals ((try rw [e5]); (try rfl))) (by omega) hf (by omega)
        · replace c4 : 0 ≤ v2 := by first | exact c4 | exact Int.not_le.mp c4 | exact Int.not_lt.mp c4 | exact Decidable.not_not.mp c4
          refine st_gr jo_119 jr_119_3 ?_
          refine st_ar jo_123 (by decide) (show 0 ≤ v2 by omega) (show v2 < ((16 : Nat) : Int) by omega) (fun u6 eu6 => ?_)
          replace eu6 : u6 = jr0 123 v2 := eu6
          have qu6 : u6 = 126 + 3 * v2 := eu6.trans (jhul_123 v2 (by omega) (by omega)).1
          have hu6 : jHl u6 := by rw [eu6]; exact (jhul_123 v2 (by omega) (by omega)).2
          refine st_cv (na := 0) (st := [.inr (.inr (.inl u6))]) hu6.1 rfl rfl rfl (c_X4_mayMoveOn u6 g hu6) rfl ?_
          rintro _ _ _ ⟨rfl, rfl, t7, rfl, ht7, zt7⟩ kt7
          replace kt7 : -2147483648 ≤ t7 ∧ t7 ≤ 2147483647 := kt7
          replace ht7 : 0 ≤ t7 ∧ t7 ≤ 1 := ht7
          replace zt7 : (t7 = 1 ∧ ¬ g u6 7 = 0 ∧ g u6 6 = 0) ∨ (t7 = 0 ∧ (g u6 7 = 0 ∨ ¬ g u6 6 = 0)) := zt7
          refine And.intro (fun c9 => ?_) (fun c9 => ?_)
          · replace c9 : ¬ t7 = 0 := c9
            show jGo E l 77 229 229 _ 40 [.inr (.inr (.inl 119)), .inl a1, .inr (.inr (.inl 16)), .inl x3, .inl x4, .inl v2] [] 229 jr0 g
            refine jGo_blk qX10_moveOn_40 ?_
            refine And.intro (fun c10 => ?_) (fun c10 => ?_)
            · replace c10 : ¬ x4 = 5 := c10
              show jGo E l 77 229 229 _ 76 [.inr (.inr (.inl 119)), .inl a1, .inr (.inr (.inl 16)), .inl x3, .inl x4, .inl v2] [] 229 jr0 g
              refine jGo_blk qX10_moveOn_76 ?_
              refine st_gr jo_119 jr_119_1 ?_
              have e11 : jw32 (x4 + 1) = x4 + 1 := j32e (by omega) (by omega)
              refine st_ai jo_121 (show 0 ≤ jw32 (x4 + 1) by omega) (show jw32 (x4 + 1) < ((6 : Nat) : Int) by omega) (fun v12 ev12 b13 => ?_)
              replace ev12 : v12 = g 121 (jw32 (x4 + 1)) := ev12
              replace b13 := (jba_121 (jw32 (x4 + 1)) _).1 b13
              refine And.intro (fun c14 => ?_) (fun c14 => ?_)
              · replace c14 : ¬ v12 = (-1) := c14
                show jGo E l 77 229 229 _ 108 [.inr (.inr (.inl 119)), .inl a1, .inr (.inr (.inl 16)), .inl x3, .inl x4, .inl v2] [] 229 jr0 g
                refine jGo_blk qX10_moveOn_108 ?_
                have e15 : jw32 (x4 + (-1)) = x4 + (-1) := j32e (by omega) (by omega)
                show jGo E l 77 229 229 _ 5 [.inr (.inr (.inl 119)), .inl a1, .inr (.inr (.inl 16)), .inl x3, .inl (jw32 (x4 + (-1))), .inl v2] [] 229 jr0 g
                have e16 : g 121 (jw32 (x4 + 1)) = g 121 (x4 + 1) := congrArg (g 121) (show jw32 (x4 + 1) = (x4 + 1) by omega)
                exact ih x3 (jw32 (x4 + (-1))) (.inl v2) g (by omega) (by rw [show 5 - jw32 (x4 + (-1)) = (5 - x4) + 1 by omega, jit_s (by omega), ← hx0]; unfold jMvr; rw [show 5 - (5 - x4) = x4 by omega]; subst ev12 qu6 ev2; unfold jMv; (repeat (first | rw [if_pos (by omega)] | rw [if_neg (by omega)])); all_goals ((try rw [e15]); (try rw [e11]); (try rfl))) (by omega) hf (by omega)
              · replace c14 : v12 = (-1) := by first | exact c14 | exact Int.not_le.mp c14 | exact Int.not_lt.mp c14 | exact Decidable.not_not.mp c14
                refine st_gr jo_119 jr_119_1 ?_
                refine st_si jo_121 (show 0 ≤ x4 by omega) (show x4 < ((6 : Nat) : Int) by omega) (fun hx => (jba_121 _ _).2 (show -2 ≤ (-1) ∧ (-1) ≤ 15 by omega)) (fun g17 eg17 => ?_)
                replace eg17 : g17 = jup g 121 x4 (-1) := eg17
                have fg17 : jfr w_X10_moveOn_119 h g17 := jfr_up hf eg17 (by unfold w_X10_moveOn_119; omega)
                have e18 : g17 121 x4 = (-1) := jup_s eg17
                have e19 : jw32 (x4 + 1) = x4 + 1 := j32e (by omega) (by omega)
                refine st_cv (na := 3) (st := [.inr (.inr (.inl 16)), .inl (jw32 (x4 + 1)), .inl v2, .inr (.inr (.inl 119))]) jo_119 rfl rfl rfl (c_X10_berth_119 v2 (jw32 (x4 + 1)) g17 (by omega) (by omega)) rfl ?_
                rintro _ _ g21 ⟨rfl, ft20, rfl, zt20⟩ kt20
                have fg21 : jfr w_X10_moveOn_119 h g21 := jfr_tr fg17 ft20 (fun i k q => by unfold w_X10_berth_119 at q; unfold w_X10_moveOn_119; omega)
                replace zt20 : g21 = jBrt 119 121 126 v2 (jw32 (x4 + 1)) g17 := zt20
                show jGo E l 77 229 229 _ 108 [.inr (.inr (.inl 119)), .inl a1, .inr (.inr (.inl 16)), .inl x3, .inl x4, .inl v2] [] 229 jr0 g21
                refine jGo_blk qX10_moveOn_108 ?_
                have e22 : jw32 (x4 + (-1)) = x4 + (-1) := j32e (by omega) (by omega)
                show jGo E l 77 229 229 _ 5 [.inr (.inr (.inl 119)), .inl a1, .inr (.inr (.inl 16)), .inl x3, .inl (jw32 (x4 + (-1))), .inl v2] [] 229 jr0 g21
                have e23 : g 121 (jw32 (x4 + 1)) = g 121 (x4 + 1) := congrArg (g 121) (show jw32 (x4 + 1) = (x4 + 1) by omega)
                exact ih x3 (jw32 (x4 + (-1))) (.inl v2) g21 (by omega) (by rw [show 5 - jw32 (x4 + (-1)) = (5 - x4) + 1 by omega, jit_s (by omega), ← hx0]; unfold jMvr; rw [show 5 - (5 - x4) = x4 by omega]; subst zt20 eg17 ev12 qu6 ev2; unfold jMv; (repeat (first | rw [if_pos (by omega)] | rw [if_neg (by omega)])); all_goals ((try rw [e22]); (try rw [e19]); (try rw [e11]); (try rfl))) (by omega) fg21 (by omega)
            · replace c10 : x4 = 5 := by first | exact c10 | exact Int.not_le.mp c10 | exact Int.not_lt.mp c10 | exact Decidable.not_not.mp c10
              refine st_gr jo_119 jr_119_1 ?_
              refine st_si jo_121 (show 0 ≤ x4 by omega) (show x4 < ((6 : Nat) : Int) by omega) (fun hx => (jba_121 _ _).2 (show -2 ≤ (-1) ∧ (-1) ≤ 15 by omega)) (fun g24 eg24 => ?_)
              replace eg24 : g24 = jup g 121 x4 (-1) := eg24
              have fg24 : jfr w_X10_moveOn_119 h g24 := jfr_up hf eg24 (by unfold w_X10_moveOn_119; omega)
              have e25 : g24 121 x4 = (-1) := jup_s eg24
              refine st_gr jo_119 jr_119_3 ?_
              refine st_ar jo_123 (by decide) (show 0 ≤ v2 by omega) (show v2 < ((16 : Nat) : Int) by omega) (fun u26 eu26 => ?_)
              replace eu26 : u26 = jr0 123 v2 := eu26
              have qu26 : u26 = 126 + 3 * v2 := eu26.trans (jhul_123 v2 (by omega) (by omega)).1
              have hu26 : jHl u26 := by rw [eu26]; exact (jhul_123 v2 (by omega) (by omega)).2
              refine st_cv (na := 1) (st := [.inl a1, .inr (.inr (.inl u26))]) hu26.1 rfl rfl rfl (c_X4_leave u26 a1 g24 hu26) rfl ?_
              rintro _ _ g28 ⟨rfl, ft27, rfl, zt27⟩ kt27
              have fg28 : jfr w_X10_moveOn_119 h g28 := jfr_tr fg24 ft27 (fun i k q => by unfold w_X4_leave at q; unfold w_X10_moveOn_119; omega)
              replace zt27 : g28 = jLv u26 a1 g24 := zt27
              refine st_pi jo_119 (fun hx => (jbf_10_10 jo_119 _).2 (show 0 ≤ 1 ∧ 1 ≤ 1 by omega)) (fun g29 eg29 => ?_)
              replace eg29 : g29 = jup g28 119 10 1 := eg29
              have fg29 : jfr w_X10_moveOn_119 h g29 := jfr_up fg28 eg29 (by unfold w_X10_moveOn_119; omega)
              have e30 : g29 119 10 = 1 := jup_s eg29
              show jGo E l 77 229 229 _ 108 [.inr (.inr (.inl 119)), .inl a1, .inr (.inr (.inl 16)), .inl (jw32 (x3 + 1)), .inl x4, .inl v2] [] 229 jr0 g29
              refine jGo_blk qX10_moveOn_108 ?_
              have e31 : jw32 (x4 + (-1)) = x4 + (-1) := j32e (by omega) (by omega)
              show jGo E l 77 229 229 _ 5 [.inr (.inr (.inl 119)), .inl a1, .inr (.inr (.inl 16)), .inl (jw32 (x3 + 1)), .inl (jw32 (x4 + (-1))), .inl v2] [] 229 jr0 g29
              exact ih (jw32 (x3 + 1)) (jw32 (x4 + (-1))) (.inl v2) g29 (by omega) (by rw [show 5 - jw32 (x4 + (-1)) = (5 - x4) + 1 by omega, jit_s (by omega), ← hx0]; unfold jMvr; rw [show 5 - (5 - x4) = x4 by omega]; subst eg29 zt27 qu26 eg24 qu6 ev2; unfold jMv; (repeat (first | rw [if_pos (by omega)] | rw [if_neg (by omega)])); all_goals ((try rw [e31]); (try rfl))) (by omega) fg29 (by omega)
          · replace c9 : t7 = 0 := by first | exact c9 | exact Int.not_le.mp c9 | exact Int.not_lt.mp c9 | exact Decidable.not_not.mp c9
            show jGo E l 77 229 229 _ 108 [.inr (.inr (.inl 119)), .inl a1, .inr (.inr (.inl 16)), .inl x3, .inl x4, .inl v2] [] 229 jr0 g
            refine jGo_blk qX10_moveOn_108 ?_
            have e32 : jw32 (x4 + (-1)) = x4 + (-1) := j32e (by omega) (by omega)
            show jGo E l 77 229 229 _ 5 [.inr (.inr (.inl 119)), .inl a1, .inr (.inr (.inl 16)), .inl x3, .inl (jw32 (x4 + (-1))), .inl v2] [] 229 jr0 g
            exact ih x3 (jw32 (x4 + (-1))) (.inl v2) g (by omega) (by rw [show 5 - jw32 (x4 + (-1)) = (5 - x4) + 1 by omega, jit_s (by omega), ← hx0]; unfold jMvr; rw [show 5 - (5 - x4) = x4 by omega]; subst qu6 ev2; unfold jMv; (repeat (first | rw [if_pos (by omega)] | rw [if_neg (by omega)])); all_goals ((try rw [e32]); (try rfl))) (by omega) hf (by omega)
  refine jGo_blk qX10_moveOn_0 ?_
  show jGo E l 77 229 229 _ 5 [.inr (.inr (.inl 119)), .inl a1, .inr (.inr (.inl 16)), .inl 0, .inl 5, .inr (.inr (.inr ()))] [] 229 jr0 h
  exact (key 1000000000000) 0 5 (.inr (.inr (.inr ()))) h (by omega) (by rfl) (by omega) f0 (by omega)

def w_X10_letIn_119 (i k : Int) : Prop := (i = 121) ∨ (126 ≤ i ∧ i ≤ 173) ∨ (i = 119 ∧ k = 10)
def k_X10_letIn_119 (h : JH) (v : Option JV) (r' g : JH) : Prop := r' = jr0 ∧ jfr w_X10_letIn_119 h g ∧ v = none ∧ (g = jP2 119 121 126 124 h)
set_option maxHeartbeats 4000000 in
theorem c_X10_letIn_119 {E : JE} {l : Launch} (h : JH) : jMt E l 78 [.inr (.inr (.inl 119)), .inr (.inr (.inl 16))] 229 jr0 h (k_X10_letIn_119 h) := by
  refine jMt0 (nL := 3) (ls := [.inr (.inr (.inl 119)), .inr (.inr (.inl 16)), .inr (.inr (.inr ()))]) (by decide +kernel) (by decide +kernel) (by decide +kernel) rfl rfl ?_
  have f0 : jfr w_X10_letIn_119 h h := jfr_rf _ _
  refine jGo_bd (fun hbd => ?_)
  have hb0 := (jbf_10_6 jo_119 _).1 (hbd 119 6)
  have key : ∀ N : Nat, (∀ (x2 : Int) (g : JH), (0 ≤ x2 ∧ x2 ≤ 16) → (g = jit (jLin 119 121 126 124) (x2).toNat h) → (g 119 6 = h 119 6 ∧ 0 ≤ x2 ∧ x2 ≤ h 119 6) → jfr w_X10_letIn_119 h g → (16 - x2) < (N : Int) → jGo E l 78 229 229 (jRK (k_X10_letIn_119 h)) 2 [.inr (.inr (.inl 119)), .inr (.inr (.inl 16)), .inl x2] [] 229 jr0 g) := by
    intro N
    induction N with
    | zero => exact fun _ _ hi hx0 hx1 _ hN => absurd hN (by omega)
    | succ N ih =>
      intro x2 g hi hx0 hx1 hf hN
      refine jGo_blk qX10_letIn_2 ?_
      refine st_gi jo_119 (fun v1 ev1 b2 => ?_)
      replace ev1 : v1 = g 119 6 := ev1
      replace b2 := (jbf_10_6 jo_119 _).1 b2
      refine And.intro (fun c3 => ?_) (fun c3 => ?_)
      · replace c3 : v1 ≤ x2 := c3
        show jGo E l 78 229 229 _ 55 [.inr (.inr (.inl 119)), .inr (.inr (.inl 16)), .inl x2] [] 229 jr0 g
        refine jGo_blk qX10_letIn_55 ?_
        exact ⟨rfl, rfl, hf, rfl, (by unfold jP2; rw [hx0, show x2 = h 119 6 by omega])⟩
      · replace c3 : x2 < v1 := by first | exact c3 | exact Int.not_le.mp c3 | exact Int.not_lt.mp c3 | exact Decidable.not_not.mp c3
        refine st_gr jo_119 jr_119_1 ?_
        refine st_ai jo_121 (show 0 ≤ 0 by omega) (show 0 < ((6 : Nat) : Int) by omega) (fun v4 ev4 b5 => ?_)
        replace ev4 : v4 = g 121 0 := ev4
        replace b5 := (jba_121 0 _).1 b5
        refine And.intro (fun c6 => ?_) (fun c6 => ?_)
        · replace c6 : ¬ v4 = (-1) := c6
          show jGo E l 78 229 229 _ 55 [.inr (.inr (.inl 119)), .inr (.inr (.inl 16)), .inl x2] [] 229 jr0 g
          refine jGo_blk qX10_letIn_55 ?_
          exact ⟨rfl, rfl, hf, rfl, (by unfold jP2; have q9 : ¬ jit (jLin 119 121 126 124) x2.toNat h 121 0 = -1 := (by rw [← hx0]; omega); rw [hx0]; exact (jLin_stop q9 _ (by omega)).symm)⟩
        · replace c6 : v4 = (-1) := by first | exact c6 | exact Int.not_le.mp c6 | exact Int.not_lt.mp c6 | exact Decidable.not_not.mp c6
          refine st_gr jo_119 jr_119_3 ?_
          refine st_gr jo_119 jr_119_5 ?_
          refine st_ai jo_124 (show 0 ≤ x2 by omega) (show x2 < ((16 : Nat) : Int) by omega) (fun v7 ev7 b8 => ?_)
          replace ev7 : v7 = g 124 x2 := ev7
          replace b8 := (jba_124 x2 _).1 b8
          refine st_ar jo_123 (by decide) (show 0 ≤ v7 by omega) (show v7 < ((16 : Nat) : Int) by omega) (fun u9 eu9 => ?_)
          replace eu9 : u9 = jr0 123 v7 := eu9
          have qu9 : u9 = 126 + 3 * v7 := eu9.trans (jhul_123 v7 (by omega) (by omega)).1
          have hu9 : jHl u9 := by rw [eu9]; exact (jhul_123 v7 (by omega) (by omega)).2
          refine st_gi hu9.1 (fun v10 ev10 b11 => ?_)
          replace ev10 : v10 = g u9 3 := ev10
          replace b11 := (jbf_4_3 hu9.1 _).1 b11
          refine And.intro (fun c12 => ?_) (fun c12 => ?_)
          · replace c12 : ¬ v10 = 0 := c12
            show jGo E l 78 229 229 _ 49 [.inr (.inr (.inl 119)), .inr (.inr (.inl 16)), .inl x2] [] 229 jr0 g
            refine jGo_blk qX10_letIn_49 ?_
            have e13 : jw32 (x2 + 1) = x2 + 1 := j32e (by omega) (by omega)
            show jGo E l 78 229 229 _ 2 [.inr (.inr (.inl 119)), .inr (.inr (.inl 16)), .inl (jw32 (x2 + 1))] [] 229 jr0 g
            exact ih (jw32 (x2 + 1)) g (by omega) (by rw [show jw32 (x2 + 1) = x2 + 1 by omega, jit_s (by omega), ← hx0]; subst ev10 qu9 ev7 ev4 ev1; unfold jLin; (repeat (first | rw [if_pos (by omega)] | rw [if_neg (by omega)])); all_goals ((try rw [e13]); (try rfl))) (by omega) hf (by omega)
          · replace c12 : v10 = 0 := by first | exact c12 | exact Int.not_le.mp c12 | exact Int.not_lt.mp c12 | exact Decidable.not_not.mp c12
            refine st_gr jo_119 jr_119_5 ?_
            refine st_ai jo_124 (show 0 ≤ x2 by omega) (show x2 < ((16 : Nat) : Int) by omega) (fun v14 ev14 b15 => ?_)
            replace ev14 : v14 = g 124 x2 := ev14
            replace b15 := (jba_124 x2 _).1 b15
            refine st_cv (na := 3) (st := [.inr (.inr (.inl 16)), .inl 0, .inl v14, .inr (.inr (.inl 119))]) jo_119 rfl rfl rfl (c_X10_berth_119 v14 0 g (by omega) (by omega)) rfl ?_
            rintro _ _ g17 ⟨rfl, ft16, rfl, zt16⟩ kt16
            have fg17 : jfr w_X10_letIn_119 h g17 := jfr_tr hf ft16 (fun i k q => by unfold w_X10_berth_119 at q; unfold w_X10_letIn_119; omega)
            replace zt16 : g17 = jBrt 119 121 126 v14 (0 : Int) g := zt16
            show jGo E l 78 229 229 _ 49 [.inr (.inr (.inl 119)), .inr (.inr (.inl 16)), .inl x2] [] 229 jr0 g17
            refine jGo_blk qX10_letIn_49 ?_
            have e18 : jw32 (x2 + 1) = x2 + 1 := j32e (by omega) (by omega)
            show jGo E l 78 229 229 _ 2 [.inr (.inr (.inl 119)), .inr (.inr (.inl 16)), .inl (jw32 (x2 + 1))] [] 229 jr0 g17
            have e19 : g17 119 6 = g 119 6 := ft16 119 6 (by unfold w_X10_berth_119; omega)
            exact ih (jw32 (x2 + 1)) g17 (by omega) (by rw [show jw32 (x2 + 1) = x2 + 1 by omega, jit_s (by omega), ← hx0]; subst zt16 ev14 ev10 qu9 ev7 ev4 ev1; unfold jLin; (repeat (first | rw [if_pos (by omega)] | rw [if_neg (by omega)])); all_goals ((try rw [e18]); (try rfl))) (by omega) fg17 (by omega)
  refine jGo_blk qX10_letIn_0 ?_
  show jGo E l 78 229 229 _ 2 [.inr (.inr (.inl 119)), .inr (.inr (.inl 16)), .inl 0] [] 229 jr0 h
  exact (key 1000000000000) 0 h (by omega) (by rfl) (by omega) f0 (by omega)

def k_X10_hasAll_119 (a1 : Int) (h : JH) (v : Option JV) (r' g : JH) : Prop := r' = jr0 ∧ h = g ∧ ∃ x : Int, v = some (.inl x) ∧ (0 ≤ x ∧ x ≤ 1) ∧ ((x = 1 ∧ jAl 120 a1 h) ∨ (x = 0 ∧ ¬ jAl 120 a1 h))
set_option maxHeartbeats 4000000 in
theorem c_X10_hasAll_119 {E : JE} {l : Launch} (a1 : Int) (h : JH) (ha1 : jF 229 a1 1 6) : jMt E l 79 [.inr (.inr (.inl 119)), .inr (.inr (.inl a1))] 229 jr0 h (k_X10_hasAll_119 a1 h) := by
  refine jMt0 (nL := 3) (ls := [.inr (.inr (.inl 119)), .inr (.inr (.inl a1)), .inr (.inr (.inr ()))]) (by decide +kernel) (by decide +kernel) (by decide +kernel) rfl rfl ?_
  have key : ∀ N : Nat, (∀ (x2 : Int), (0 ≤ x2 ∧ x2 ≤ 6) → (∀ t : Int, 0 ≤ t → t < x2 → h a1 t ≤ h 120 t) → (6 - x2) < (N : Int) → jGo E l 79 229 229 (jRK (k_X10_hasAll_119 a1 h)) 2 [.inr (.inr (.inl 119)), .inr (.inr (.inl a1)), .inl x2] [] 229 jr0 h) := by
    intro N
    induction N with
    | zero => exact fun _ hi hx0 hN => absurd hN (by omega)
    | succ N ih =>
      intro x2 hi hx0 hN
      refine jGo_blk qX10_hasAll_2 ?_
      refine And.intro (fun c1 => ?_) (fun c1 => ?_)
      · replace c1 : 6 ≤ x2 := c1
        show jGo E l 79 229 229 _ 28 [.inr (.inr (.inl 119)), .inr (.inr (.inl a1)), .inl x2] [] 229 jr0 h
        refine jGo_blk qX10_hasAll_28 ?_
        exact st_r1 (ls := []) (show (1 : Int) = 0 ∨ (1 : Int) = 1 by omega) ⟨rfl, rfl, rfl, 1, rfl, (by omega), (by exact Or.inl ⟨rfl, hx0 0 (by omega) (by omega), hx0 1 (by omega) (by omega), hx0 2 (by omega) (by omega), hx0 3 (by omega) (by omega), hx0 4 (by omega) (by omega), hx0 5 (by omega) (by omega)⟩)⟩
      · replace c1 : x2 < 6 := by first | exact c1 | exact Int.not_le.mp c1 | exact Int.not_lt.mp c1 | exact Decidable.not_not.mp c1
        refine st_gr jo_119 jr_119_0 ?_
        refine st_ai jo_120 (show 0 ≤ x2 by omega) (show x2 < ((6 : Nat) : Int) by omega) (fun v2 ev2 b3 => ?_)
        replace ev2 : v2 = h 120 x2 := ev2
        replace b3 := (jba_120 x2 _).1 b3
        refine st_ai ha1 (show 0 ≤ x2 by omega) (show x2 < ((6 : Nat) : Int) by omega) (fun v4 ev4 b5 => ?_)
        replace ev4 : v4 = h a1 x2 := ev4
        refine And.intro (fun c6 => ?_) (fun c6 => ?_)
        · replace c6 : v4 ≤ v2 := c6
          show jGo E l 79 229 229 _ 22 [.inr (.inr (.inl 119)), .inr (.inr (.inl a1)), .inl x2] [] 229 jr0 h
          refine jGo_blk qX10_hasAll_22 ?_
          have e7 : jw32 (x2 + 1) = x2 + 1 := j32e (by omega) (by omega)
          show jGo E l 79 229 229 _ 2 [.inr (.inr (.inl 119)), .inr (.inr (.inl a1)), .inl (jw32 (x2 + 1))] [] 229 jr0 h
          exact ih (jw32 (x2 + 1)) (by omega) (by exact fun t p1 p2 => (by by_cases z : t = x2; exact (by rw [z]; omega); exact hx0 t p1 (by omega))) (by omega)
        · replace c6 : v2 < v4 := by first | exact c6 | exact Int.not_le.mp c6 | exact Int.not_lt.mp c6 | exact Decidable.not_not.mp c6
          exact st_r1 (ls := []) (show (0 : Int) = 0 ∨ (0 : Int) = 1 by omega) ⟨rfl, rfl, rfl, 0, rfl, (by omega), (by exact Or.inr ⟨rfl, fun q => by obtain ⟨q0, q1, q2, q3, q4, q5⟩ := q; rcases (show x2 = 0 ∨ x2 = 1 ∨ x2 = 2 ∨ x2 = 3 ∨ x2 = 4 ∨ x2 = 5 by omega) with z | z | z | z | z | z <;> subst z <;> omega⟩)⟩
  refine jGo_blk qX10_hasAll_0 ?_
  show jGo E l 79 229 229 _ 2 [.inr (.inr (.inl 119)), .inr (.inr (.inl a1)), .inl 0] [] 229 jr0 h
  exact (key 1000000000000) 0 (by omega) (by exact fun t p1 p2 => absurd p2 (by omega)) (by omega)

def w_X10_takeGoods_119 (i k : Int) : Prop := (i = 120) ∨ (126 ≤ i ∧ i ≤ 173) ∨ (i = 119 ∧ k = 10)
def k_X10_takeGoods_119 (h : JH) (v : Option JV) (r' g : JH) : Prop := r' = jr0 ∧ jfr w_X10_takeGoods_119 h g ∧ v = none ∧ (g = jP3 119 120 126 124 h)
set_option maxHeartbeats 4000000 in
theorem c_X10_takeGoods_119 {E : JE} {l : Launch} (h : JH) : jMt E l 80 [.inr (.inr (.inl 119))] 229 jr0 h (k_X10_takeGoods_119 h) := by
  refine jMt0 (nL := 4) (ls := [.inr (.inr (.inl 119)), .inr (.inr (.inr ())), .inr (.inr (.inr ())), .inr (.inr (.inr ()))]) (by decide +kernel) (by decide +kernel) (by decide +kernel) rfl rfl ?_
  have f0 : jfr w_X10_takeGoods_119 h h := jfr_rf _ _
  refine jGo_bd (fun hbd => ?_)
  have hb0 := (jbf_10_6 jo_119 _).1 (hbd 119 6)
  have key : ∀ N : Nat, (∀ (x1 : Int) (x2 : JV) (x3 : JV) (g : JH), (0 ≤ x1 ∧ x1 ≤ 16) → (g = jit (jTg 119 120 126 124) (x1).toNat h) → (g 119 6 = h 119 6 ∧ 0 ≤ x1 ∧ x1 ≤ h 119 6) → jfr w_X10_takeGoods_119 h g → (16 - x1) * 1000000 + 999999 < (N : Int) → jGo E l 80 229 229 (jRK (k_X10_takeGoods_119 h)) 2 [.inr (.inr (.inl 119)), .inl x1, x2, x3] [] 229 jr0 g) ∧
      (∀ (x1 : Int) (x2 : Int) (x3 : Int) (g : JH), (0 ≤ x1 ∧ x1 ≤ 15 ∧ 126 ≤ x2 ∧ x2 + 2 ≤ 173 ∧ 0 ≤ x3 ∧ x3 ≤ 6) → jHl x2 → (g = jit (jTs 120 (x2 + 1)) (x3).toNat (jit (jTg 119 120 126 124) (x1).toNat h)) → (x2 = 126 + 3 * (jit (jTg 119 120 126 124) (x1).toNat h) 124 x1) → ((jit (jTg 119 120 126 124) (x1).toNat h) x2 3 = 1 ∧ (jit (jTg 119 120 126 124) (x1).toNat h) x2 7 = 0 ∧ jAl 120 (x2 + 1) (jit (jTg 119 120 126 124) (x1).toNat h)) → (g 119 6 = h 119 6 ∧ 0 ≤ x1 ∧ x1 < h 119 6) → jfr w_X10_takeGoods_119 h g → (16 - x1) * 1000000 + (6 - x3) < (N : Int) → jGo E l 80 229 229 (jRK (k_X10_takeGoods_119 h)) 53 [.inr (.inr (.inl 119)), .inl x1, .inr (.inr (.inl x2)), .inl x3] [] 229 jr0 g) := by
    intro N
    induction N with
    | zero => exact ⟨fun _ _ _ _ hi hx0 hx1 _ hN => absurd hN (by omega), fun _ _ _ _ hi _ hx0 hx1 hx2 hx3 _ hN => absurd hN (by omega)⟩
    | succ N ih =>
      refine ⟨?_, ?_⟩
      · intro x1 x2 x3 g hi hx0 hx1 hf hN
        refine jGo_blk qX10_takeGoods_2 ?_
        refine st_gi jo_119 (fun v1 ev1 b2 => ?_)
        replace ev1 : v1 = g 119 6 := ev1
        replace b2 := (jbf_10_6 jo_119 _).1 b2
        refine And.intro (fun c3 => ?_) (fun c3 => ?_)
        · replace c3 : v1 ≤ x1 := c3
          show jGo E l 80 229 229 _ 109 [.inr (.inr (.inl 119)), .inl x1, x2, x3] [] 229 jr0 g
          refine jGo_blk qX10_takeGoods_109 ?_
          exact ⟨rfl, rfl, hf, rfl, (by unfold jP3; rw [hx0, show x1 = h 119 6 by omega])⟩
        · replace c3 : x1 < v1 := by first | exact c3 | exact Int.not_le.mp c3 | exact Int.not_lt.mp c3 | exact Decidable.not_not.mp c3
          refine st_gr jo_119 jr_119_3 ?_
          refine st_gr jo_119 jr_119_5 ?_
          refine st_ai jo_124 (show 0 ≤ x1 by omega) (show x1 < ((16 : Nat) : Int) by omega) (fun v4 ev4 b5 => ?_)
          replace ev4 : v4 = g 124 x1 := ev4
          replace b5 := (jba_124 x1 _).1 b5
          refine st_ar jo_123 (by decide) (show 0 ≤ v4 by omega) (show v4 < ((16 : Nat) : Int) by omega) (fun u6 eu6 => ?_)
          replace eu6 : u6 = jr0 123 v4 := eu6
          have qu6 : u6 = 126 + 3 * v4 := eu6.trans (jhul_123 v4 (by omega) (by omega)).1
          have hu6 : jHl u6 := by rw [eu6]; exact (jhul_123 v4 (by omega) (by omega)).2
          refine And.intro (show u6 ≠ -1 by omega) ?_
          refine st_gi hu6.1 (fun v7 ev7 b8 => ?_)
          replace ev7 : v7 = g u6 3 := ev7
          replace b8 := (jbf_4_3 hu6.1 _).1 b8
          refine And.intro (fun c9 => ?_) (fun c9 => ?_)
          · replace c9 : ¬ v7 = 1 := c9
            show jGo E l 80 229 229 _ 103 [.inr (.inr (.inl 119)), .inl x1, .inr (.inr (.inl u6)), x3] [] 229 jr0 g
            refine jGo_blk qX10_takeGoods_103 ?_
            have e10 : jw32 (x1 + 1) = x1 + 1 := j32e (by omega) (by omega)
            show jGo E l 80 229 229 _ 2 [.inr (.inr (.inl 119)), .inl (jw32 (x1 + 1)), .inr (.inr (.inl u6)), x3] [] 229 jr0 g
            exact ih.1 (jw32 (x1 + 1)) (.inr (.inr (.inl u6))) x3 g (by omega) (by rw [show jw32 (x1 + 1) = x1 + 1 by omega, jit_s (by omega)]; rw [← hx0]; subst ev7 qu6 ev4 ev1; unfold jTg; (repeat (first | rw [if_pos (by omega)] | rw [if_neg (by omega)])); all_goals ((try rw [e10]); (try rfl))) (by omega) hf (by omega)
          · replace c9 : v7 = 1 := by first | exact c9 | exact Int.not_le.mp c9 | exact Int.not_lt.mp c9 | exact Decidable.not_not.mp c9
            refine st_gi hu6.1 (fun v11 ev11 b12 => ?_)
            replace ev11 : v11 = g u6 7 := ev11
            replace b12 := (jbf_4_7 hu6.1 _).1 b12
            refine And.intro (fun c13 => ?_) (fun c13 => ?_)
            · replace c13 : v11 = 0 := c13
              show jGo E l 80 229 229 _ 40 [.inr (.inr (.inl 119)), .inl x1, .inr (.inr (.inl u6)), x3] [] 229 jr0 g
              refine jGo_blk qX10_takeGoods_40 ?_
              refine st_gr hu6.1 rfl ?_
              refine st_cv (na := 1) (st := [.inr (.inr (.inl (jr0 u6 11))), .inr (.inr (.inl 119))]) jo_119 rfl rfl rfl (c_X10_hasAll_119 (jr0 u6 11) g hu6.2.1) rfl ?_
              rintro _ _ _ ⟨rfl, rfl, t14, rfl, ht14, zt14⟩ kt14
              replace kt14 : -2147483648 ≤ t14 ∧ t14 ≤ 2147483647 := kt14
              replace ht14 : 0 ≤ t14 ∧ t14 ≤ 1 := ht14
              replace zt14 : (t14 = 1 ∧ jAl 120 (jr0 u6 11) g) ∨ (t14 = 0 ∧ ¬ jAl 120 (jr0 u6 11) g) := zt14
              refine And.intro (fun c16 => ?_) (fun c16 => ?_)
              · replace c16 : t14 = 0 := c16
                show jGo E l 80 229 229 _ 93 [.inr (.inr (.inl 119)), .inl x1, .inr (.inr (.inl u6)), x3] [] 229 jr0 g
                refine jGo_blk qX10_takeGoods_93 ?_
                refine st_gi hu6.1 (fun v17 ev17 b18 => ?_)
                replace ev17 : v17 = g u6 8 := ev17
                replace b18 := (jbf_4_8 hu6.1 _).1 b18
                refine st_pi hu6.1 (fun hx => (jbf_4_8 hu6.1 _).2 hx) (fun g19 eg19 => ?_)
                replace eg19 : g19 = jup g u6 8 (jw32 (v17 + 1)) := eg19
                have fg19 : jfr w_X10_takeGoods_119 h g19 := jfr_up hf eg19 (by unfold w_X10_takeGoods_119; omega)
                have e20 : g19 u6 8 = jw32 (v17 + 1) := jup_s eg19
                show jGo E l 80 229 229 _ 103 [.inr (.inr (.inl 119)), .inl x1, .inr (.inr (.inl u6)), x3] [] 229 jr0 g19
                refine jGo_blk qX10_takeGoods_103 ?_
                have e21 : jw32 (x1 + 1) = x1 + 1 := j32e (by omega) (by omega)
                show jGo E l 80 229 229 _ 2 [.inr (.inr (.inl 119)), .inl (jw32 (x1 + 1)), .inr (.inr (.inl u6)), x3] [] 229 jr0 g19
                have hna9 : ¬ jAl 120 (u6 + 1) g := by have q9 := zt14; rw [hu6.2.2.2.1] at q9; rcases q9 with q9 | q9 <;> first | exact q9.2 | (exfalso; omega)
                have e22 : g19 119 6 = g 119 6 := jup_o eg19 (by omega)
                exact ih.1 (jw32 (x1 + 1)) (.inr (.inr (.inl u6))) x3 g19 (by omega) (by rw [show jw32 (x1 + 1) = x1 + 1 by omega, jit_s (by omega)]; rw [← hx0]; subst eg19 ev17 ev11 ev7 qu6 ev4 ev1; unfold jTg; (repeat (first | rw [if_pos (by omega)] | rw [if_neg (by omega)])); (try rw [if_neg hna9]); all_goals ((try rw [e21]); (try rfl))) (by omega) fg19 (by omega)
              · replace c16 : ¬ t14 = 0 := by first | exact c16 | exact Int.not_le.mp c16 | exact Int.not_lt.mp c16 | exact Decidable.not_not.mp c16
                show jGo E l 80 229 229 _ 53 [.inr (.inr (.inl 119)), .inl x1, .inr (.inr (.inl u6)), .inl 0] [] 229 jr0 g
                have hal9 : jAl 120 (u6 + 1) g := by have q9 := zt14; rw [hu6.2.2.2.1] at q9; rcases q9 with q9 | q9 <;> first | exact q9.2 | (exfalso; omega)
                exact ih.2 x1 u6 0 g (by omega) hu6 (by rw [← hx0]; rfl) (by rw [← hx0, qu6]; omega) (by rw [← hx0]; exact ⟨by omega, by omega, hal9⟩) (by omega) hf (by omega)
            · replace c13 : ¬ v11 = 0 := by first | exact c13 | exact Int.not_le.mp c13 | exact Int.not_lt.mp c13 | exact Decidable.not_not.mp c13
              show jGo E l 80 229 229 _ 103 [.inr (.inr (.inl 119)), .inl x1, .inr (.inr (.inl u6)), x3] [] 229 jr0 g
              refine jGo_blk qX10_takeGoods_103 ?_
              have e23 : jw32 (x1 + 1) = x1 + 1 := j32e (by omega) (by omega)
              show jGo E l 80 229 229 _ 2 [.inr (.inr (.inl 119)), .inl (jw32 (x1 + 1)), .inr (.inr (.inl u6)), x3] [] 229 jr0 g
              exact ih.1 (jw32 (x1 + 1)) (.inr (.inr (.inl u6))) x3 g (by omega) (by rw [show jw32 (x1 + 1) = x1 + 1 by omega, jit_s (by omega)]; rw [← hx0]; subst ev11 ev7 qu6 ev4 ev1; unfold jTg; (repeat (first | rw [if_pos (by omega)] | rw [if_neg (by omega)])); all_goals ((try rw [e23]); (try rfl))) (by omega) hf (by omega)
      · intro x1 x2 x3 g hi hu2 hx0 hx1 hx2 hx3 hf hN
        refine jGo_blk qX10_takeGoods_53 ?_
        refine And.intro (fun c24 => ?_) (fun c24 => ?_)
        · replace c24 : 6 ≤ x3 := c24
          show jGo E l 80 229 229 _ 80 [.inr (.inr (.inl 119)), .inl x1, .inr (.inr (.inl x2)), .inl x3] [] 229 jr0 g
          refine jGo_blk qX10_takeGoods_80 ?_
          refine st_pi hu2.1 (fun hx => (jbf_4_7 hu2.1 _).2 (show 0 ≤ 1 ∧ 1 ≤ 1 by omega)) (fun g25 eg25 => ?_)
          replace eg25 : g25 = jup g x2 7 1 := eg25
          have fg25 : jfr w_X10_takeGoods_119 h g25 := jfr_up hf eg25 (by unfold w_X10_takeGoods_119; omega)
          have e26 : g25 x2 7 = 1 := jup_s eg25
          refine st_pi jo_119 (fun hx => (jbf_10_10 jo_119 _).2 (show 0 ≤ 1 ∧ 1 ≤ 1 by omega)) (fun g27 eg27 => ?_)
          replace eg27 : g27 = jup g25 119 10 1 := eg27
          have fg27 : jfr w_X10_takeGoods_119 h g27 := jfr_up fg25 eg27 (by unfold w_X10_takeGoods_119; omega)
          have e28 : g27 119 10 = 1 := jup_s eg27
          show jGo E l 80 229 229 _ 103 [.inr (.inr (.inl 119)), .inl x1, .inr (.inr (.inl x2)), .inl x3] [] 229 jr0 g27
          refine jGo_blk qX10_takeGoods_103 ?_
          have e29 : jw32 (x1 + 1) = x1 + 1 := j32e (by omega) (by omega)
          show jGo E l 80 229 229 _ 2 [.inr (.inr (.inl 119)), .inl (jw32 (x1 + 1)), .inr (.inr (.inl x2)), .inl x3] [] 229 jr0 g27
          have tg_end : g27 = jit (jTg 119 120 126 124) (jw32 (x1 + 1)).toNat h := by
            rw [show jw32 (x1 + 1) = x1 + 1 by omega, jit_s (by omega)]
            have k0 := hx0; rw [show x3 = 6 by omega] at k0
            generalize jit (jTg 119 120 126 124) x1.toNat h = P at hx1 hx2 k0 ⊢
            subst eg27 eg25; subst hx1; subst k0; unfold jTg; rw [if_neg (by omega), if_pos hx2.2.2]; rfl
          have e30 : g27 119 6 = g25 119 6 := jup_o eg27 (by omega)
          have e31 : g25 119 6 = g 119 6 := jup_o eg25 (by omega)
          exact ih.1 (jw32 (x1 + 1)) (.inr (.inr (.inl x2))) (.inl x3) g27 (by omega) (by exact tg_end) (by omega) fg27 (by omega)
        · replace c24 : x3 < 6 := by first | exact c24 | exact Int.not_le.mp c24 | exact Int.not_lt.mp c24 | exact Decidable.not_not.mp c24
          refine st_gr jo_119 jr_119_0 ?_
          refine st_ai jo_120 (show 0 ≤ x3 by omega) (show x3 < ((6 : Nat) : Int) by omega) (fun v32 ev32 b33 => ?_)
          replace ev32 : v32 = g 120 x3 := ev32
          replace b33 := (jba_120 x3 _).1 b33
          refine st_gr hu2.1 rfl ?_
          refine st_ai hu2.2.1 (show 0 ≤ x3 by omega) (show x3 < ((6 : Nat) : Int) by omega) (fun v34 ev34 b35 => ?_)
          replace ev34 : v34 = g (jr0 x2 11) x3 := ev34
          replace b35 := (hu2.2.2.2.2.2.1 x3 _).1 b35
          refine st_si jo_120 (show 0 ≤ x3 by omega) (show x3 < ((6 : Nat) : Int) by omega) (fun hx => (jba_120 _ _).2 hx) (fun g36 eg36 => ?_)
          replace eg36 : g36 = jup g 120 x3 (jw32 (v32 - v34)) := eg36
          have fg36 : jfr w_X10_takeGoods_119 h g36 := jfr_up hf eg36 (by unfold w_X10_takeGoods_119; omega)
          have e37 : g36 120 x3 = jw32 (v32 - v34) := jup_s eg36
          have e38 : jw32 (x3 + 1) = x3 + 1 := j32e (by omega) (by omega)
          show jGo E l 80 229 229 _ 53 [.inr (.inr (.inl 119)), .inl x1, .inr (.inr (.inl x2)), .inl (jw32 (x3 + 1))] [] 229 jr0 g36
          have e39 : g36 119 6 = g 119 6 := jup_o eg36 (by omega)
          exact ih.2 x1 x2 (jw32 (x3 + 1)) g36 (by omega) hu2 (by rw [show jw32 (x3 + 1) = x3 + 1 by omega, jit_s (by omega), ← hx0]; subst eg36 ev34 ev32; unfold jTs; (repeat (first | rw [if_pos (by omega)] | rw [if_neg (by omega)])); all_goals ((try rw [e38]); (try rw [hu2.2.2.2.1]); (try rw [hu2.2.2.2.2.1]); (try rfl))) (by exact hx1) (by exact hx2) (by omega) fg36 (by omega)
  refine jGo_blk qX10_takeGoods_0 ?_
  show jGo E l 80 229 229 _ 2 [.inr (.inr (.inl 119)), .inl 0, .inr (.inr (.inr ())), .inr (.inr (.inr ()))] [] 229 jr0 h
  exact (key 1000000000000000000).1 0 (.inr (.inr (.inr ()))) (.inr (.inr (.inr ()))) h (by omega) (by rfl) (by omega) f0 (by omega)
