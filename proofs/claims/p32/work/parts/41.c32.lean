def w_X7_tryOut_29_34 (i k : Int) : Prop := (120 ≤ i ∧ i ≤ 121) ∨ (124 ≤ i ∧ i ≤ 173) ∨ (i = 119 ∧ 6 ≤ k ∧ k ≤ 10)
def k_X7_tryOut_29_34 (a3 : Int) (h : JH) (v : Option JV) (r' g : JH) : Prop := r' = jr0 ∧ jfr w_X7_tryOut_29_34 h g ∧ v = none ∧ (∀ (D : Int → Prop) (hm : JH), jTq 34 a3 D h hm → ∀ i : Int, 0 ≤ i → i < a3 → g (126 + 3 * h 34 i) 9 = jit jmPi 300 hm 198 (h 34 i) ∧ g (126 + 3 * h 34 i) 2 = h (36 + 3 * h 34 i) 2)
set_option maxHeartbeats 4000000 in
theorem c_X7_tryOut_29_34 {E : JE} {l : Launch} (a3 : Int) (h : JH) (p3 : 0 ≤ a3 ∧ a3 ≤ 16) : jMt E l 144 [.inr (.inr (.inl 111)), .inr (.inr (.inl 29)), .inr (.inr (.inl 34)), .inl a3, .inr (.inr (.inl 16))] 229 jr0 h (k_X7_tryOut_29_34 a3 h) := by
  refine jMt0 (nL := 8) (ls := [.inr (.inr (.inl 111)), .inr (.inr (.inl 29)), .inr (.inr (.inl 34)), .inl a3, .inr (.inr (.inl 16)), .inr (.inr (.inr ())), .inr (.inr (.inr ())), .inr (.inr (.inr ()))]) (by decide +kernel) (by decide +kernel) (by decide +kernel) rfl rfl ?_
  have f0 : jfr w_X7_tryOut_29_34 h h := jfr_rf _ _
  have key : ∀ N : Nat, (∀ (x5 : Int) (x6 : Int) (x7 : Int) (g : JH), (0 ≤ x6 ∧ x6 ≤ 1 ∧ 0 ≤ x7 ∧ x7 ≤ 300) → (jTI 34 a3 x7 x5 x6 h g) → (x6 = 0 ∨ x6 = 1) → (0 ≤ x5 ∧ x5 ≤ x7) → jfr w_X7_tryOut_29_34 h g → (300 - x7) < (N : Int) → jGo E l 144 229 229 (jRK (k_X7_tryOut_29_34 a3 h)) 19 [.inr (.inr (.inl 111)), .inr (.inr (.inl 29)), .inr (.inr (.inl 34)), .inl a3, .inr (.inr (.inl 16)), .inl x5, .inl x6, .inl x7] [] 229 jr0 g) := by
    intro N
    induction N with
    | zero => exact fun _ _ _ _ hi hx0 hx1 hx2 _ hN => absurd hN (by omega)
    | succ N ih =>
      intro x5 x6 x7 g hi hx0 hx1 hx2 hf hN
      refine jGo_ok (fun hls _ => ?_)
      have rx5 : -2147483648 ≤ x5 ∧ x5 ≤ 2147483647 := hls (.inl x5) (by simp)
      refine jGo_blk qX7_tryOut_19 ?_
      refine And.intro (fun c1 => ?_) (fun c1 => ?_)
      · replace c1 : 300 ≤ x7 := c1
        show jGo E l 144 229 229 _ 99 [.inr (.inr (.inl 111)), .inr (.inr (.inl 29)), .inr (.inr (.inl 34)), .inl a3, .inr (.inr (.inl 16)), .inl x5, .inl x6, .inl x7] [] 229 jr0 g
        refine jGo_blk qX7_tryOut_99 ?_
        exact ⟨rfl, rfl, hf, rfl, (by exact fun D hm S => jTI_e hx0 (by omega) (by omega) (by omega) D hm S)⟩
      · replace c1 : x7 < 300 := by first | exact c1 | exact Int.not_le.mp c1 | exact Int.not_lt.mp c1 | exact Decidable.not_not.mp c1
        refine And.intro (fun c2 => ?_) (fun c2 => ?_)
        · replace c2 : a3 ≤ x5 := c2
          show jGo E l 144 229 229 _ 99 [.inr (.inr (.inl 111)), .inr (.inr (.inl 29)), .inr (.inr (.inl 34)), .inl a3, .inr (.inr (.inl 16)), .inl x5, .inl x6, .inl x7] [] 229 jr0 g
          refine jGo_blk qX7_tryOut_99 ?_
          exact ⟨rfl, rfl, hf, rfl, (by exact fun D hm S => jTI_e hx0 (by omega) (by omega) (by omega) D hm S)⟩
        · replace c2 : x5 < a3 := by first | exact c2 | exact Int.not_le.mp c2 | exact Int.not_lt.mp c2 | exact Decidable.not_not.mp c2
          refine And.intro (fun c3 => ?_) (fun c3 => ?_)
          · replace c3 : x6 = 0 := c3
            show jGo E l 144 229 229 _ 99 [.inr (.inr (.inl 111)), .inr (.inr (.inl 29)), .inr (.inr (.inl 34)), .inl a3, .inr (.inr (.inl 16)), .inl x5, .inl x6, .inl x7] [] 229 jr0 g
            refine jGo_blk qX7_tryOut_99 ?_
            exact ⟨rfl, rfl, hf, rfl, (by exact fun D hm S => jTI_e hx0 (by omega) (by omega) (by omega) D hm S)⟩
          · replace c3 : ¬ x6 = 0 := by first | exact c3 | exact Int.not_le.mp c3 | exact Int.not_lt.mp c3 | exact Decidable.not_not.mp c3
            refine st_gr jo_111 jr_111_6 ?_
            refine st_gi jo_111 (fun v4 ev4 b5 => ?_)
            replace ev4 : v4 = g 111 3 := ev4
            replace b5 := (jbf_7_3 jo_111 _).1 b5
            have e6 : jw32 (v4 + 1) = v4 + 1 := j32e (by omega) (by omega)
            have e7 : jw32 ((jw32 (v4 + 1)) + x7) = (jw32 (v4 + 1)) + x7 := j32e (by omega) (by omega)
            refine st_gr jo_111 jr_111_4 ?_
            refine st_cv (na := 4) (st := [.inr (.inr (.inl 16)), .inl x7, .inr (.inr (.inl 113)), .inl (jw32 ((jw32 (v4 + 1)) + x7)), .inr (.inr (.inl 119)), .inl x5]) jo_119 rfl rfl rfl (c_X10_passDay_119_113 (jw32 ((jw32 (v4 + 1)) + x7)) x7 g (by omega) (by omega)) rfl ?_
            rintro _ _ g9 ⟨rfl, ft8, t8, rfl, ht8, zt8⟩ kt8
            replace kt8 : -2147483648 ≤ t8 ∧ t8 ≤ 2147483647 := kt8
            have fg9 : jfr w_X7_tryOut_29_34 h g9 := jfr_tr hf ft8 (fun i k q => by unfold w_X10_passDay_119_113 at q; unfold w_X7_tryOut_29_34; omega)
            replace zt8 : (t8 = jMc 121 126 g) ∧ g9 = jPD 119 120 121 126 124 125 114 115 116 117 (jw32 ((jw32 (v4 + 1)) + x7)) x7 g := zt8
            refine st_gr jo_111 jr_111_6 ?_
            refine st_gi jo_119 (fun v10 ev10 b11 => ?_)
            replace ev10 : v10 = g9 119 10 := ev10
            replace b11 := (jbf_10_10 jo_119 _).1 b11
            refine And.intro (fun c12 => ?_) (fun c12 => ?_)
            · replace c12 : ¬ v10 = 0 := c12
              show jGo E l 144 229 229 _ 86 [.inr (.inr (.inl 111)), .inr (.inr (.inl 29)), .inr (.inr (.inl 34)), .inl a3, .inr (.inr (.inl 16)), .inl (jw32 (x5 + t8)), .inl x6, .inl x7] [] 229 jr0 g9
              refine jGo_blk qX7_tryOut_86 ?_
              show jGo E l 144 229 229 _ 91 [.inr (.inr (.inl 111)), .inr (.inr (.inl 29)), .inr (.inr (.inl 34)), .inl a3, .inr (.inr (.inl 16)), .inl (jw32 (x5 + t8)), .inl x6, .inl x7] [.inl 1] 229 jr0 g9
              refine jGo_blk qX7_tryOut_91 ?_
              have e13 : jw32 (x7 + 1) = x7 + 1 := j32e (by omega) (by omega)
              show jGo E l 144 229 229 _ 19 [.inr (.inr (.inl 111)), .inr (.inr (.inl 29)), .inr (.inr (.inl 34)), .inl a3, .inr (.inr (.inl 16)), .inl (jw32 (x5 + t8)), .inl 1, .inl (jw32 (x7 + 1))] [] 229 jr0 g9
              have b9 := jMc_b (B := 121) (H := 126) (h := g)
              have j9 : jw32 (x5 + t8) = x5 + t8 := j32e (by have q9 := zt8.1; omega) (by have q9 := zt8.1; omega)
              have hc14 : jTI 34 a3 (jw32 (x7 + 1)) (jw32 (x5 + t8)) 1 h g9 := by
                rw [show jw32 (x7 + 1) = x7 + 1 by omega]
                have dd : jw32 ((jw32 (v4 + 1)) + x7) = h 111 3 + 1 + x7 := by have q9 := hf 111 3 (by unfold w_X7_tryOut_29_34; omega); omega
                have zz := zt8.2; rw [dd] at zz
                exact jTI_s hx0 (by omega) (by omega) zz (by have q9 := zt8.1; omega) (fun q => absurd q (by decide))
              exact ih (jw32 (x5 + t8)) 1 (jw32 (x7 + 1)) g9 (by omega) (by exact hc14) (by omega) (by have q9 := zt8.1; omega) fg9 (by omega)
            · replace c12 : v10 = 0 := by first | exact c12 | exact Int.not_le.mp c12 | exact Int.not_lt.mp c12 | exact Decidable.not_not.mp c12
              refine st_cv (na := 1) (st := [.inl x7, .inr (.inr (.inl 111))]) jo_111 rfl rfl rfl (c_X7_workIsAhead x7 g9) rfl ?_
              rintro _ _ _ ⟨rfl, rfl, t15, rfl, ht15, zt15⟩ kt15
              replace kt15 : -2147483648 ≤ t15 ∧ t15 ≤ 2147483647 := kt15
              replace ht15 : 0 ≤ t15 ∧ t15 ≤ 1 := ht15
              replace zt15 : t15 = 1 ∨ (t15 = 0 ∧ ∀ i : Int, 0 ≤ i → i < g9 119 6 → ¬ (g9 (126 + 3 * g9 124 i) 3 = 1 ∧ ¬ g9 (126 + 3 * g9 124 i) 7 = 0 ∧ 0 < g9 (126 + 3 * g9 124 i) 6 ∧ x7 < g9 118 (g9 (126 + 3 * g9 124 i) 5))) := zt15
              refine And.intro (fun c17 => ?_) (fun c17 => ?_)
              · replace c17 : t15 = 0 := c17
                show jGo E l 144 229 229 _ 90 [.inr (.inr (.inl 111)), .inr (.inr (.inl 29)), .inr (.inr (.inl 34)), .inl a3, .inr (.inr (.inl 16)), .inl (jw32 (x5 + t8)), .inl x6, .inl x7] [] 229 jr0 g9
                refine jGo_blk qX7_tryOut_90 ?_
                show jGo E l 144 229 229 _ 91 [.inr (.inr (.inl 111)), .inr (.inr (.inl 29)), .inr (.inr (.inl 34)), .inl a3, .inr (.inr (.inl 16)), .inl (jw32 (x5 + t8)), .inl x6, .inl x7] [.inl 0] 229 jr0 g9
                refine jGo_blk qX7_tryOut_91 ?_
                have e18 : jw32 (x7 + 1) = x7 + 1 := j32e (by omega) (by omega)
                show jGo E l 144 229 229 _ 19 [.inr (.inr (.inl 111)), .inr (.inr (.inl 29)), .inr (.inr (.inl 34)), .inl a3, .inr (.inr (.inl 16)), .inl (jw32 (x5 + t8)), .inl 0, .inl (jw32 (x7 + 1))] [] 229 jr0 g9
                have b9 := jMc_b (B := 121) (H := 126) (h := g)
                have j9 : jw32 (x5 + t8) = x5 + t8 := j32e (by have q9 := zt8.1; omega) (by have q9 := zt8.1; omega)
                have hc19 : jTI 34 a3 (jw32 (x7 + 1)) (jw32 (x5 + t8)) 0 h g9 := by
                  rw [show jw32 (x7 + 1) = x7 + 1 by omega]
                  have dd : jw32 ((jw32 (v4 + 1)) + x7) = h 111 3 + 1 + x7 := by have q9 := hf 111 3 (by unfold w_X7_tryOut_29_34; omega); omega
                  have zz := zt8.2; rw [dd] at zz
                  exact jTI_s hx0 (by omega) (by omega) zz (by have q9 := zt8.1; omega) (fun _ => ⟨by omega, by rcases zt15 with q | q; exact absurd q (by omega); exact q.2⟩)
                exact ih (jw32 (x5 + t8)) 0 (jw32 (x7 + 1)) g9 (by omega) (by exact hc19) (by omega) (by have q9 := zt8.1; omega) fg9 (by omega)
              · replace c17 : ¬ t15 = 0 := by first | exact c17 | exact Int.not_le.mp c17 | exact Int.not_lt.mp c17 | exact Decidable.not_not.mp c17
                show jGo E l 144 229 229 _ 86 [.inr (.inr (.inl 111)), .inr (.inr (.inl 29)), .inr (.inr (.inl 34)), .inl a3, .inr (.inr (.inl 16)), .inl (jw32 (x5 + t8)), .inl x6, .inl x7] [] 229 jr0 g9
                refine jGo_blk qX7_tryOut_86 ?_
                show jGo E l 144 229 229 _ 91 [.inr (.inr (.inl 111)), .inr (.inr (.inl 29)), .inr (.inr (.inl 34)), .inl a3, .inr (.inr (.inl 16)), .inl (jw32 (x5 + t8)), .inl x6, .inl x7] [.inl 1] 229 jr0 g9
                refine jGo_blk qX7_tryOut_91 ?_
                have e20 : jw32 (x7 + 1) = x7 + 1 := j32e (by omega) (by omega)
                show jGo E l 144 229 229 _ 19 [.inr (.inr (.inl 111)), .inr (.inr (.inl 29)), .inr (.inr (.inl 34)), .inl a3, .inr (.inr (.inl 16)), .inl (jw32 (x5 + t8)), .inl 1, .inl (jw32 (x7 + 1))] [] 229 jr0 g9
                have b9 := jMc_b (B := 121) (H := 126) (h := g)
                have j9 : jw32 (x5 + t8) = x5 + t8 := j32e (by have q9 := zt8.1; omega) (by have q9 := zt8.1; omega)
                have hc21 : jTI 34 a3 (jw32 (x7 + 1)) (jw32 (x5 + t8)) 1 h g9 := by
                  rw [show jw32 (x7 + 1) = x7 + 1 by omega]
                  have dd : jw32 ((jw32 (v4 + 1)) + x7) = h 111 3 + 1 + x7 := by have q9 := hf 111 3 (by unfold w_X7_tryOut_29_34; omega); omega
                  have zz := zt8.2; rw [dd] at zz
                  exact jTI_s hx0 (by omega) (by omega) zz (by have q9 := zt8.1; omega) (fun q => absurd q (by decide))
                exact ih (jw32 (x5 + t8)) 1 (jw32 (x7 + 1)) g9 (by omega) (by exact hc21) (by omega) (by have q9 := zt8.1; omega) fg9 (by omega)
  refine jGo_blk qX7_tryOut_0 ?_
  refine st_gr jo_111 jr_111_6 ?_
  refine st_cv (na := 3) (st := [.inl a3, .inr (.inr (.inl 34)), .inr (.inr (.inl 29)), .inr (.inr (.inl 119))]) jo_119 rfl rfl rfl (c_X10_become_119_29_34 a3 h (by omega)) rfl ?_
  rintro _ _ g23 ⟨rfl, ft22, rfl, zt22⟩ kt22
  have fg23 : jfr w_X7_tryOut_29_34 h g23 := jfr_tr f0 ft22 (fun i k q => by unfold w_X10_become_119_29_34 at q; unfold w_X7_tryOut_29_34; omega)
  replace zt22 : jBc 34 a3 h g23 := zt22
  show jGo E l 144 229 229 _ 19 [.inr (.inr (.inl 111)), .inr (.inr (.inl 29)), .inr (.inr (.inl 34)), .inl a3, .inr (.inr (.inl 16)), .inl 0, .inl 1, .inl 0] [] 229 jr0 g23
  exact (key 1000000000000) 0 1 0 g23 (by omega) (by exact jTI_0 zt22 (fun i k q => (ft22 i k (by unfold w_X10_become_119_29_34; omega)))) (by omega) (by omega) fg23 (by omega)
