def w_X7_nextOrder (i k : Int) : Prop := (i = 175)
def k_X7_nextOrder (h : JH) (v : Option JV) (r' g : JH) : Prop := r' = jr0 ∧ jfr w_X7_nextOrder h g ∧ v = none ∧ (∀ i : Int, g 175 i = jnx3 (h 111 2) (h 175) i)
set_option maxHeartbeats 4000000 in
theorem c_X7_nextOrder {E : JE} {l : Launch} (h : JH) : jMt E l 160 [.inr (.inr (.inl 111))] 229 jr0 h (k_X7_nextOrder h) := by
  refine jMt0 (nL := 5) (ls := [.inr (.inr (.inl 111)), .inr (.inr (.inr ())), .inr (.inr (.inr ())), .inr (.inr (.inr ())), .inr (.inr (.inr ()))]) (by decide +kernel) (by decide +kernel) (by decide +kernel) rfl rfl ?_
  have f0 : jfr w_X7_nextOrder h h := jfr_rf _ _
  have key : ∀ N : Nat, (∀ (x1 : Int) (g : JH), ((-2) ≤ x1 ∧ x1 ≤ 3) → (x1 + 2 ≤ g 111 2) → (jn1 (h 175) (h 111 2).toNat (h 111 2 - 2) = jn1 (h 175) (x1 + 2).toNat x1) → (g = h) → jfr w_X7_nextOrder h g → (x1 - (-2)) + 40000 < (N : Int) → jGo E l 160 229 229 (jRK (k_X7_nextOrder h)) 7 [.inr (.inr (.inl 111)), .inl x1, .inr (.inr (.inr ())), .inr (.inr (.inr ())), .inr (.inr (.inr ()))] [] 229 jr0 g) ∧
      (∀ (x1 : Int) (x2 : Int) (g : JH), (0 ≤ x1 ∧ x1 ≤ 3 ∧ (-1) ≤ x2 ∧ x2 ≤ 4) → (x1 + 1 ≤ x2 ∧ 0 ≤ x1 ∧ x2 + 1 ≤ g 111 2) → (jn1 (h 175) (h 111 2).toNat (h 111 2 - 2) = x1) → (jn2 (h 175) x1 (h 111 2 - 1 - x1).toNat (h 111 2 - 1) = jn2 (h 175) x1 (x2 - x1).toNat x2) → (g = h) → jfr w_X7_nextOrder h g → (x2 - (-1)) + 20000 < (N : Int) → jGo E l 160 229 229 (jRK (k_X7_nextOrder h)) 46 [.inr (.inr (.inl 111)), .inl x1, .inl x2, .inr (.inr (.inr ())), .inr (.inr (.inr ()))] [] 229 jr0 g) ∧
      (∀ (x1 : Int) (x2 : Int) (x3 : Int) (x4 : Int) (g : JH), (0 ≤ x1 ∧ x1 ≤ 3 ∧ (-1) ≤ x2 ∧ x2 ≤ 4 ∧ (-1) ≤ x3 ∧ x3 ≤ 4 ∧ 1 ≤ x4 ∧ x4 ≤ 4) → (jnx3 (h 111 2) (h 175) = jn3 (x3 + 1).toNat x4 x3 (g 175)) → jfr w_X7_nextOrder h g → (x3 - (-1)) < (N : Int) → jGo E l 160 229 229 (jRK (k_X7_nextOrder h)) 92 [.inr (.inr (.inl 111)), .inl x1, .inl x2, .inl x3, .inl x4] [] 229 jr0 g) := by
    intro N
    induction N with
    | zero => exact ⟨fun _ _ hi hx0 hx1 hx2 _ hN => absurd hN (by omega), fun _ _ _ hi hx0 hx1 hx2 hx3 _ hN => absurd hN (by omega), fun _ _ _ _ _ hi hx0 _ hN => absurd hN (by omega)⟩
    | succ N ih =>
      refine ⟨?_, ?_, ?_⟩
      · intro x1 g hi hx0 hx1 hx2 hf hN
        refine jGo_blk qX7_nextOrder_7 ?_
        refine And.intro (fun c1 => ?_) (fun c1 => ?_)
        · replace c1 : x1 < 0 := c1
          show jGo E l 160 229 229 _ 34 [.inr (.inr (.inl 111)), .inl x1, .inr (.inr (.inr ())), .inr (.inr (.inr ())), .inr (.inr (.inr ()))] [] 229 jr0 g
          refine jGo_blk qX7_nextOrder_34 ?_
          refine And.intro (fun c2 => ?_) (fun c2 => ?_)
          · replace c2 : 0 ≤ x1 := c2
            exfalso; omega
          · replace c2 : x1 < 0 := by first | exact c2 | exact Int.not_le.mp c2 | exact Int.not_lt.mp c2 | exact Decidable.not_not.mp c2
            exact ⟨rfl, rfl, hf, rfl, (by exact fun i => by rw [jnx3_n (hx1.trans (jn1_n (T := h 175) (by omega) _)) (by omega), hx2])⟩
        · replace c1 : 0 ≤ x1 := by first | exact c1 | exact Int.not_le.mp c1 | exact Int.not_lt.mp c1 | exact Decidable.not_not.mp c1
          refine st_gr jo_111 jr_111_8 ?_
          refine st_ai jo_175 (show 0 ≤ x1 by omega) (show x1 < ((5 : Nat) : Int) by omega) (fun v3 ev3 b4 => ?_)
          replace ev3 : v3 = g 175 x1 := ev3
          replace b4 := (jba_175 x1 _).1 b4
          refine st_gr jo_111 jr_111_8 ?_
          have e5 : jw32 (x1 + 1) = x1 + 1 := j32e (by omega) (by omega)
          refine st_ai jo_175 (show 0 ≤ jw32 (x1 + 1) by omega) (show jw32 (x1 + 1) < ((5 : Nat) : Int) by omega) (fun v6 ev6 b7 => ?_)
          replace ev6 : v6 = g 175 (jw32 (x1 + 1)) := ev6
          replace b7 := (jba_175 (jw32 (x1 + 1)) _).1 b7
          refine And.intro (fun c8 => ?_) (fun c8 => ?_)
          · replace c8 : v3 ≤ v6 := c8
            show jGo E l 160 229 229 _ 34 [.inr (.inr (.inl 111)), .inl x1, .inr (.inr (.inr ())), .inr (.inr (.inr ())), .inr (.inr (.inr ()))] [] 229 jr0 g
            refine jGo_blk qX7_nextOrder_34 ?_
            refine And.intro (fun c9 => ?_) (fun c9 => ?_)
            · replace c9 : 0 ≤ x1 := c9
              show jGo E l 160 229 229 _ 39 [.inr (.inr (.inl 111)), .inl x1, .inr (.inr (.inr ())), .inr (.inr (.inr ())), .inr (.inr (.inr ()))] [] 229 jr0 g
              refine jGo_blk qX7_nextOrder_39 ?_
              refine st_gi jo_111 (fun v10 ev10 b11 => ?_)
              replace ev10 : v10 = g 111 2 := ev10
              replace b11 := (jbf_7_2 jo_111 _).1 b11
              have e12 : jw32 (v10 - 1) = v10 - 1 := j32e (by omega) (by omega)
              show jGo E l 160 229 229 _ 46 [.inr (.inr (.inl 111)), .inl x1, .inl (jw32 (v10 - 1)), .inr (.inr (.inr ())), .inr (.inr (.inr ()))] [] 229 jr0 g
              exact ih.2.1 x1 (jw32 (v10 - 1)) g (by omega) (by omega) (by exact hx1.trans (jn1_e (T := h 175) (by omega) (fun q => by have q2 := q.2; rw [← hx2, show x1 + 1 = jw32 (x1 + 1) by omega] at q2; omega))) (by have q9 := congrFun (congrFun hx2 111) 2; rw [show jw32 (v10 - 1) = h 111 2 - 1 by omega]) (by exact hx2) hf (by omega)
            · replace c9 : x1 < 0 := by first | exact c9 | exact Int.not_le.mp c9 | exact Int.not_lt.mp c9 | exact Decidable.not_not.mp c9
              exfalso; omega
          · replace c8 : v6 < v3 := by first | exact c8 | exact Int.not_le.mp c8 | exact Int.not_lt.mp c8 | exact Decidable.not_not.mp c8
            have e13 : jw32 (x1 + (-1)) = x1 + (-1) := j32e (by omega) (by omega)
            show jGo E l 160 229 229 _ 7 [.inr (.inr (.inl 111)), .inl (jw32 (x1 + (-1))), .inr (.inr (.inr ())), .inr (.inr (.inr ())), .inr (.inr (.inr ()))] [] 229 jr0 g
            exact ih.1 (jw32 (x1 + (-1))) g (by omega) (by omega) (by rw [show jw32 (x1 + (-1)) = x1 - 1 by omega]; exact hx1.trans (jn1_s (T := h 175) ⟨by omega, by rw [← hx2, show x1 + 1 = jw32 (x1 + 1) by omega]; omega⟩)) (by exact hx2) hf (by omega)
      · intro x1 x2 g hi hx0 hx1 hx2 hx3 hf hN
        refine jGo_blk qX7_nextOrder_46 ?_
        have e14 : jw32 (x1 + 1) = x1 + 1 := j32e (by omega) (by omega)
        refine And.intro (fun c15 => ?_) (fun c15 => ?_)
        · replace c15 : x2 ≤ jw32 (x1 + 1) := c15
          show jGo E l 160 229 229 _ 74 [.inr (.inr (.inl 111)), .inl x1, .inl x2, .inr (.inr (.inr ())), .inr (.inr (.inr ()))] [] 229 jr0 g
          refine jGo_blk qX7_nextOrder_74 ?_
          refine st_cv (na := 2) (st := [.inl x2, .inl x1, .inr (.inr (.inl 111))]) jo_111 rfl rfl rfl (c_X7_swapTried x1 x2 g (by omega) (by omega)) rfl ?_
          rintro _ _ g17 ⟨rfl, ft16, rfl, zt16⟩ kt16
          have fg17 : jfr w_X7_nextOrder h g17 := jfr_tr hf ft16 (fun i k q => by unfold w_X7_swapTried at q; unfold w_X7_nextOrder; omega)
          replace zt16 : ∀ i : Int, g17 175 i = jsw x1 x2 (g 175) i := zt16
          refine st_gi jo_111 (fun v18 ev18 b19 => ?_)
          replace ev18 : v18 = g17 111 2 := ev18
          replace b19 := (jbf_7_2 jo_111 _).1 b19
          have e20 : g17 111 2 = g 111 2 := ft16 111 2 (by unfold w_X7_swapTried; omega)
          have e21 : jw32 (v18 - 1) = v18 - 1 := j32e (by omega) (by omega)
          have e22 : jw32 (x1 + 1) = x1 + 1 := j32e (by omega) (by omega)
          show jGo E l 160 229 229 _ 92 [.inr (.inr (.inl 111)), .inl x1, .inl x2, .inl (jw32 (v18 - 1)), .inl (jw32 (x1 + 1))] [] 229 jr0 g17
          have q9 := congrFun (congrFun hx3 111) 2
          exact ih.2.2 x1 x2 (jw32 (v18 - 1)) (jw32 (x1 + 1)) g17 (by omega) (by rw [show jw32 (v18 - 1) = h 111 2 - 1 by omega, show jw32 (x1 + 1) = x1 + 1 by omega, show h 111 2 - 1 + 1 = h 111 2 by omega, show g17 175 = jsw x1 x2 (h 175) from funext (fun i => by rw [zt16 i, hx3])]; exact jnx3_i hx1 (by omega) (hx2.trans (jn2_e (T := h 175) (by omega) (fun q => by have q1 := q.1; have q2 := q.2; rw [← hx3] at q2; omega)))) fg17 (by omega)
        · replace c15 : jw32 (x1 + 1) < x2 := by first | exact c15 | exact Int.not_le.mp c15 | exact Int.not_lt.mp c15 | exact Decidable.not_not.mp c15
          refine st_gr jo_111 jr_111_8 ?_
          refine st_ai jo_175 (show 0 ≤ x2 by omega) (show x2 < ((5 : Nat) : Int) by omega) (fun v23 ev23 b24 => ?_)
          replace ev23 : v23 = g 175 x2 := ev23
          replace b24 := (jba_175 x2 _).1 b24
          refine st_gr jo_111 jr_111_8 ?_
          refine st_ai jo_175 (show 0 ≤ x1 by omega) (show x1 < ((5 : Nat) : Int) by omega) (fun v25 ev25 b26 => ?_)
          replace ev25 : v25 = g 175 x1 := ev25
          replace b26 := (jba_175 x1 _).1 b26
          refine And.intro (fun c27 => ?_) (fun c27 => ?_)
          · replace c27 : v25 ≤ v23 := c27
            show jGo E l 160 229 229 _ 74 [.inr (.inr (.inl 111)), .inl x1, .inl x2, .inr (.inr (.inr ())), .inr (.inr (.inr ()))] [] 229 jr0 g
            refine jGo_blk qX7_nextOrder_74 ?_
            refine st_cv (na := 2) (st := [.inl x2, .inl x1, .inr (.inr (.inl 111))]) jo_111 rfl rfl rfl (c_X7_swapTried x1 x2 g (by omega) (by omega)) rfl ?_
            rintro _ _ g29 ⟨rfl, ft28, rfl, zt28⟩ kt28
            have fg29 : jfr w_X7_nextOrder h g29 := jfr_tr hf ft28 (fun i k q => by unfold w_X7_swapTried at q; unfold w_X7_nextOrder; omega)
            replace zt28 : ∀ i : Int, g29 175 i = jsw x1 x2 (g 175) i := zt28
            refine st_gi jo_111 (fun v30 ev30 b31 => ?_)
            replace ev30 : v30 = g29 111 2 := ev30
            replace b31 := (jbf_7_2 jo_111 _).1 b31
            have e32 : g29 111 2 = g 111 2 := ft28 111 2 (by unfold w_X7_swapTried; omega)
            have e33 : jw32 (v30 - 1) = v30 - 1 := j32e (by omega) (by omega)
            have e34 : jw32 (x1 + 1) = x1 + 1 := j32e (by omega) (by omega)
            show jGo E l 160 229 229 _ 92 [.inr (.inr (.inl 111)), .inl x1, .inl x2, .inl (jw32 (v30 - 1)), .inl (jw32 (x1 + 1))] [] 229 jr0 g29
            have q9 := congrFun (congrFun hx3 111) 2
            exact ih.2.2 x1 x2 (jw32 (v30 - 1)) (jw32 (x1 + 1)) g29 (by omega) (by rw [show jw32 (v30 - 1) = h 111 2 - 1 by omega, show jw32 (x1 + 1) = x1 + 1 by omega, show h 111 2 - 1 + 1 = h 111 2 by omega, show g29 175 = jsw x1 x2 (h 175) from funext (fun i => by rw [zt28 i, hx3])]; exact jnx3_i hx1 (by omega) (hx2.trans (jn2_e (T := h 175) (by omega) (fun q => by have q1 := q.1; have q2 := q.2; rw [← hx3] at q2; omega)))) fg29 (by omega)
          · replace c27 : v23 < v25 := by first | exact c27 | exact Int.not_le.mp c27 | exact Int.not_lt.mp c27 | exact Decidable.not_not.mp c27
            have e35 : jw32 (x2 + (-1)) = x2 + (-1) := j32e (by omega) (by omega)
            show jGo E l 160 229 229 _ 46 [.inr (.inr (.inl 111)), .inl x1, .inl (jw32 (x2 + (-1))), .inr (.inr (.inr ())), .inr (.inr (.inr ()))] [] 229 jr0 g
            exact ih.2.1 x1 (jw32 (x2 + (-1))) g (by omega) (by omega) (by exact hx1) (by rw [show jw32 (x2 + (-1)) = x2 - 1 by omega]; exact hx2.trans (jn2_s (T := h 175) ⟨by omega, by rw [← hx3]; omega⟩)) (by exact hx3) hf (by omega)
      · intro x1 x2 x3 x4 g hi hx0 hf hN
        refine jGo_blk qX7_nextOrder_92 ?_
        refine And.intro (fun c36 => ?_) (fun c36 => ?_)
        · replace c36 : x3 ≤ x4 := c36
          show jGo E l 160 229 229 _ 114 [.inr (.inr (.inl 111)), .inl x1, .inl x2, .inl x3, .inl x4] [] 229 jr0 g
          refine jGo_blk qX7_nextOrder_114 ?_
          exact ⟨rfl, rfl, hf, rfl, (by exact fun i => by rw [hx0, jn3_e (by omega)])⟩
        · replace c36 : x4 < x3 := by first | exact c36 | exact Int.not_le.mp c36 | exact Int.not_lt.mp c36 | exact Decidable.not_not.mp c36
          refine st_cv (na := 2) (st := [.inl x3, .inl x4, .inr (.inr (.inl 111))]) jo_111 rfl rfl rfl (c_X7_swapTried x4 x3 g (by omega) (by omega)) rfl ?_
          rintro _ _ g38 ⟨rfl, ft37, rfl, zt37⟩ kt37
          have fg38 : jfr w_X7_nextOrder h g38 := jfr_tr hf ft37 (fun i k q => by unfold w_X7_swapTried at q; unfold w_X7_nextOrder; omega)
          replace zt37 : ∀ i : Int, g38 175 i = jsw x4 x3 (g 175) i := zt37
          have e39 : jw32 (x3 + (-1)) = x3 + (-1) := j32e (by omega) (by omega)
          have e40 : jw32 (x4 + 1) = x4 + 1 := j32e (by omega) (by omega)
          show jGo E l 160 229 229 _ 92 [.inr (.inr (.inl 111)), .inl x1, .inl x2, .inl (jw32 (x3 + (-1))), .inl (jw32 (x4 + 1))] [] 229 jr0 g38
          exact ih.2.2 x1 x2 (jw32 (x3 + (-1))) (jw32 (x4 + 1)) g38 (by omega) (by rw [show jw32 (x3 + (-1)) = x3 - 1 by omega, show jw32 (x4 + 1) = x4 + 1 by omega, show g38 175 = jsw x4 x3 (g 175) from funext zt37]; exact hx0.trans (jn3_s (by omega) (by omega))) fg38 (by omega)
  refine jGo_blk qX7_nextOrder_0 ?_
  refine st_gi jo_111 (fun v41 ev41 b42 => ?_)
  replace ev41 : v41 = h 111 2 := ev41
  replace b42 := (jbf_7_2 jo_111 _).1 b42
  have e43 : jw32 (v41 - 2) = v41 - 2 := j32e (by omega) (by omega)
  show jGo E l 160 229 229 _ 7 [.inr (.inr (.inl 111)), .inl (jw32 (v41 - 2)), .inr (.inr (.inr ())), .inr (.inr (.inr ())), .inr (.inr (.inr ()))] [] 229 jr0 h
  exact (key 1000000000000).1 (jw32 (v41 - 2)) h (by omega) (by omega) (by rw [show jw32 (v41 - 2) = h 111 2 - 2 by omega, show h 111 2 - 2 + 2 = h 111 2 by omega]) (by rfl) f0 (by omega)
