def w_X7_readyDay_29 (i k : Int) : Prop := (i = 34) ∨ (120 ≤ i ∧ i ≤ 121) ∨ (124 ≤ i ∧ i ≤ 174) ∨ (i = 29 ∧ k = 6) ∨ (i = 111 ∧ k = 10) ∨ (i = 119 ∧ 6 ≤ k ∧ k ≤ 10)
def k_X7_readyDay_29 (a1 : Int) (h : JH) (v : Option JV) (r' g : JH) : Prop := r' = jr0 ∧ jfr w_X7_readyDay_29 h g ∧ ∃ x : Int, v = some (.inl x) ∧ (True) ∧ (jRd a1 x h g)
set_option maxHeartbeats 4000000 in
theorem c_X7_readyDay_29 {E : JE} {l : Launch} (a1 : Int) (h : JH) (p1 : 0 ≤ a1 ∧ a1 ≤ 15) : jMt E l 145 [.inr (.inr (.inl 111)), .inl a1, .inr (.inr (.inl 29)), .inr (.inr (.inl 16))] 229 jr0 h (k_X7_readyDay_29 a1 h) := by
  refine jMt0 (nL := 5) (ls := [.inr (.inr (.inl 111)), .inl a1, .inr (.inr (.inl 29)), .inr (.inr (.inl 16)), .inr (.inr (.inr ()))]) (by decide +kernel) (by decide +kernel) (by decide +kernel) rfl rfl ?_
  have f0 : jfr w_X7_readyDay_29 h h := jfr_rf _ _
  have key : ∀ N : Nat, (∀ (x4 : Int) (g : JH), (0 ≤ x4 ∧ x4 ≤ 16) → (jRdI x4 h g) → (x4 = 0 ∨ x4 ≤ g 29 6) → jfr w_X7_readyDay_29 h g → (16 - x4) < (N : Int) → jGo E l 145 229 229 (jRK (k_X7_readyDay_29 a1 h)) 28 [.inr (.inr (.inl 111)), .inl a1, .inr (.inr (.inl 29)), .inr (.inr (.inl 16)), .inl x4] [] 229 jr0 g) := by
    intro N
    induction N with
    | zero => exact fun _ _ hi hx0 hx1 _ hN => absurd hN (by omega)
    | succ N ih =>
      intro x4 g hi hx0 hx1 hf hN
      refine jGo_blk qX7_readyDay_28 ?_
      refine st_gi jo_29 (fun v1 ev1 b2 => ?_)
      replace ev1 : v1 = g 29 6 := ev1
      replace b2 := (jbf_10_6 jo_29 _).1 b2
      refine And.intro (fun c3 => ?_) (fun c3 => ?_)
      · replace c3 : v1 ≤ x4 := c3
        show jGo E l 145 229 229 _ 73 [.inr (.inr (.inl 111)), .inl a1, .inr (.inr (.inl 29)), .inr (.inr (.inl 16)), .inl x4] [] 229 jr0 g
        refine jGo_blk qX7_readyDay_73 ?_
        refine st_pi jo_111 (fun hx => (jbf_7_10 jo_111 _).2 (show 0 ≤ 1 ∧ 1 ≤ 1 by omega)) (fun g4 eg4 => ?_)
        replace eg4 : g4 = jup g 111 10 1 := eg4
        have fg4 : jfr w_X7_readyDay_29 h g4 := jfr_up hf eg4 (by unfold w_X7_readyDay_29; omega)
        have e5 : g4 111 10 = 1 := jup_s eg4
        show jGo E l 145 229 229 _ 78 [.inr (.inr (.inl 111)), .inl a1, .inr (.inr (.inl 29)), .inr (.inr (.inl 16)), .inl x4] [] 229 jr0 g4
        refine jGo_blk qX7_readyDay_78 ?_
        refine st_gr jo_111 jr_111_7 ?_
        refine st_ai jo_174 (show 0 ≤ a1 by omega) (show a1 < ((16 : Nat) : Int) by omega) (fun v6 ev6 b7 => ?_)
        replace ev6 : v6 = g4 174 a1 := ev6
        replace b7 := (jba_174 a1 _).1 b7
        exact st_r0 (ls := []) ⟨rfl, rfl, fg4, v6, rfl, trivial, (by exact jRd_e hx0 (by omega) eg4 ev6)⟩
      · replace c3 : x4 < v1 := by first | exact c3 | exact Int.not_le.mp c3 | exact Int.not_lt.mp c3 | exact Decidable.not_not.mp c3
        refine st_gr jo_111 jr_111_7 ?_
        refine st_gr jo_29 jr_29_5 ?_
        refine st_ai jo_34 (show 0 ≤ x4 by omega) (show x4 < ((16 : Nat) : Int) by omega) (fun v8 ev8 b9 => ?_)
        replace ev8 : v8 = g 34 x4 := ev8
        replace b9 := (jba_34 x4 _).1 b9
        refine st_gr jo_111 jr_111_6 ?_
        refine st_gr jo_119 jr_119_3 ?_
        refine st_gr jo_29 jr_29_5 ?_
        refine st_ai jo_34 (show 0 ≤ x4 by omega) (show x4 < ((16 : Nat) : Int) by omega) (fun v10 ev10 b11 => ?_)
        replace ev10 : v10 = g 34 x4 := ev10
        replace b11 := (jba_34 x4 _).1 b11
        refine st_ar jo_123 (by decide) (show 0 ≤ v10 by omega) (show v10 < ((16 : Nat) : Int) by omega) (fun u12 eu12 => ?_)
        replace eu12 : u12 = jr0 123 v10 := eu12
        have qu12 : u12 = 126 + 3 * v10 := eu12.trans (jhul_123 v10 (by omega) (by omega)).1
        have hu12 : jHl u12 := by rw [eu12]; exact (jhul_123 v10 (by omega) (by omega)).2
        refine st_gi hu12.1 (fun v13 ev13 b14 => ?_)
        replace ev13 : v13 = g u12 9 := ev13
        replace b14 := (jbf_4_9 hu12.1 _).1 b14
        refine st_si jo_174 (show 0 ≤ v8 by omega) (show v8 < ((16 : Nat) : Int) by omega) (fun hx => (jba_174 _ _).2 hx) (fun g15 eg15 => ?_)
        replace eg15 : g15 = jup g 174 v8 v13 := eg15
        have fg15 : jfr w_X7_readyDay_29 h g15 := jfr_up hf eg15 (by unfold w_X7_readyDay_29; omega)
        have e16 : g15 174 v8 = v13 := jup_s eg15
        have e17 : jw32 (x4 + 1) = x4 + 1 := j32e (by omega) (by omega)
        show jGo E l 145 229 229 _ 28 [.inr (.inr (.inl 111)), .inl a1, .inr (.inr (.inl 29)), .inr (.inr (.inl 16)), .inl (jw32 (x4 + 1))] [] 229 jr0 g15
        have hc18 : jRdI (jw32 (x4 + 1)) h g15 := by
          rw [show jw32 (x4 + 1) = x4 + 1 by omega]
          refine jRdI_s hx0 (by omega) (by omega) (v := v13) (by rw [show g 34 x4 = v8 by omega]; exact eg15) ?_ (by omega)
          rw [show g 34 x4 = v10 by omega, show 126 + 3 * v10 = u12 by omega]; exact ev13
        have e19 : g15 29 6 = g 29 6 := jup_o eg15 (by omega)
        exact ih (jw32 (x4 + 1)) g15 (by omega) (by exact hc18) (by omega) fg15 (by omega)
  refine jGo_blk qX7_readyDay_0 ?_
  refine st_gi jo_111 (fun v20 ev20 b21 => ?_)
  replace ev20 : v20 = h 111 10 := ev20
  replace b21 := (jbf_7_10 jo_111 _).1 b21
  refine And.intro (fun c22 => ?_) (fun c22 => ?_)
  · replace c22 : ¬ v20 = 0 := c22
    show jGo E l 145 229 229 _ 78 [.inr (.inr (.inl 111)), .inl a1, .inr (.inr (.inl 29)), .inr (.inr (.inl 16)), .inr (.inr (.inr ()))] [] 229 jr0 h
    refine jGo_blk qX7_readyDay_78 ?_
    refine st_gr jo_111 jr_111_7 ?_
    refine st_ai jo_174 (show 0 ≤ a1 by omega) (show a1 < ((16 : Nat) : Int) by omega) (fun v23 ev23 b24 => ?_)
    replace ev23 : v23 = h 174 a1 := ev23
    replace b24 := (jba_174 a1 _).1 b24
    exact st_r0 (ls := []) ⟨rfl, rfl, f0, v23, rfl, trivial, (by exact ⟨by omega, ev23, fun hm S q1 q2 q3 q4 => q4 (by omega)⟩)⟩
  · replace c22 : v20 = 0 := by first | exact c22 | exact Int.not_le.mp c22 | exact Int.not_lt.mp c22 | exact Decidable.not_not.mp c22
    refine st_cv (na := 0) (st := [.inr (.inr (.inl 29))]) jo_29 rfl rfl rfl (c_X10_lineUp_29 h) rfl ?_
    rintro _ _ g26 ⟨rfl, ft25, rfl, zt25⟩ kt25
    have fg26 : jfr w_X7_readyDay_29 h g26 := jfr_tr f0 ft25 (fun i k q => by unfold w_X10_lineUp_29 at q; unfold w_X7_readyDay_29; omega)
    replace zt25 : jHo h g26 (h 29 4) (g26 29 6) (g26 29 6) ∧ 0 ≤ g26 29 6 ∧ g26 29 6 ≤ 16 := zt25
    refine st_gr jo_29 jr_29_5 ?_
    refine st_gi jo_29 (fun v27 ev27 b28 => ?_)
    replace ev27 : v27 = g26 29 6 := ev27
    replace b28 := (jbf_10_6 jo_29 _).1 b28
    refine st_cv (na := 4) (st := [.inr (.inr (.inl 16)), .inl v27, .inr (.inr (.inl 34)), .inr (.inr (.inl 29)), .inr (.inr (.inl 111))]) jo_111 rfl rfl rfl (c_X7_tryOut_29_34 v27 g26 (by omega)) rfl ?_
    rintro _ _ g30 ⟨rfl, ft29, rfl, zt29⟩ kt29
    have fg30 : jfr w_X7_readyDay_29 h g30 := jfr_tr fg26 ft29 (fun i k q => by unfold w_X7_tryOut_29_34 at q; unfold w_X7_readyDay_29; omega)
    replace zt29 : ∀ (D : Int → Prop) (hm : JH), jTq 34 v27 D g26 hm → ∀ i : Int, 0 ≤ i → i < v27 → g30 (126 + 3 * g26 34 i) 9 = jit jmPi 300 hm 198 (g26 34 i) ∧ g30 (126 + 3 * g26 34 i) 2 = g26 (36 + 3 * g26 34 i) 2 := zt29
    show jGo E l 145 229 229 _ 28 [.inr (.inr (.inl 111)), .inl a1, .inr (.inr (.inl 29)), .inr (.inr (.inl 16)), .inl 0] [] 229 jr0 g30
    have hc31 : jRdI 0 h g30 := by
      have t9 := zt29; rw [show v27 = g26 29 6 by omega] at t9
      exact jRdI_0 (fun i k q1 q2 => (ft25 i k (by unfold w_X10_lineUp_29; omega))) zt25.1 zt25.2 (ft29 29 6 (by unfold w_X7_tryOut_29_34; omega)) (fun i => (ft29 34 i (by unfold w_X7_tryOut_29_34; omega))) t9
    have e32 : g30 29 6 = g26 29 6 := ft29 29 6 (by unfold w_X7_tryOut_29_34; omega)
    exact (key 1000000000000) 0 g30 (by omega) (by exact hc31) (by omega) fg30 (by omega)
