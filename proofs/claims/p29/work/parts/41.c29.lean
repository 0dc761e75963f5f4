def k_X7_workIsAhead (a1 : Int) (h : JH) (v : Option JV) (r' g : JH) : Prop := r' = jr0 ∧ h = g ∧ ∃ x : Int, v = some (.inl x) ∧ (0 ≤ x ∧ x ≤ 1) ∧ (x = 1 ∨ (x = 0 ∧ ∀ i : Int, 0 ≤ i → i < h 119 6 → ¬ (h (126 + 3 * h 124 i) 3 = 1 ∧ ¬ h (126 + 3 * h 124 i) 7 = 0 ∧ 0 < h (126 + 3 * h 124 i) 6 ∧ a1 < h 118 (h (126 + 3 * h 124 i) 5))))
set_option maxHeartbeats 4000000 in
theorem c_X7_workIsAhead {E : JE} {l : Launch} (a1 : Int) (h : JH) : jMt E l 143 [.inr (.inr (.inl 111)), .inl a1] 229 jr0 h (k_X7_workIsAhead a1 h) := by
  refine jMt0 (nL := 4) (ls := [.inr (.inr (.inl 111)), .inl a1, .inr (.inr (.inr ())), .inr (.inr (.inr ()))]) (by decide +kernel) (by decide +kernel) (by decide +kernel) rfl rfl ?_
  have key : ∀ N : Nat, (∀ (x2 : Int) (x3 : JV), (0 ≤ x2 ∧ x2 ≤ 16) → (∀ i : Int, 0 ≤ i → i < x2 → ¬ (h (126 + 3 * h 124 i) 3 = 1 ∧ ¬ h (126 + 3 * h 124 i) 7 = 0 ∧ 0 < h (126 + 3 * h 124 i) 6 ∧ a1 < h 118 (h (126 + 3 * h 124 i) 5))) → (16 - x2) < (N : Int) → jGo E l 143 229 229 (jRK (k_X7_workIsAhead a1 h)) 2 [.inr (.inr (.inl 111)), .inl a1, .inl x2, x3] [] 229 jr0 h) := by
    intro N
    induction N with
    | zero => exact fun _ _ hi hx0 hN => absurd hN (by omega)
    | succ N ih =>
      intro x2 x3 hi hx0 hN
      refine jGo_blk qX7_workIsAhead_2 ?_
      refine st_gr jo_111 jr_111_6 ?_
      refine st_gi jo_119 (fun v1 ev1 b2 => ?_)
      replace ev1 : v1 = h 119 6 := ev1
      replace b2 := (jbf_10_6 jo_119 _).1 b2
      refine And.intro (fun c3 => ?_) (fun c3 => ?_)
      · replace c3 : v1 ≤ x2 := c3
        show jGo E l 143 229 229 _ 74 [.inr (.inr (.inl 111)), .inl a1, .inl x2, x3] [] 229 jr0 h
        refine jGo_blk qX7_workIsAhead_74 ?_
        exact st_r1 (ls := []) (show (0 : Int) = 0 ∨ (0 : Int) = 1 by omega) ⟨rfl, rfl, rfl, 0, rfl, (by omega), (by exact Or.inr ⟨rfl, fun i p1 p2 => hx0 i p1 (by omega)⟩)⟩
      · replace c3 : x2 < v1 := by first | exact c3 | exact Int.not_le.mp c3 | exact Int.not_lt.mp c3 | exact Decidable.not_not.mp c3
        refine st_gr jo_111 jr_111_6 ?_
        refine st_gr jo_119 jr_119_3 ?_
        refine st_gr jo_111 jr_111_6 ?_
        refine st_gr jo_119 jr_119_5 ?_
        refine st_ai jo_124 (show 0 ≤ x2 by omega) (show x2 < ((16 : Nat) : Int) by omega) (fun v4 ev4 b5 => ?_)
        replace ev4 : v4 = h 124 x2 := ev4
        replace b5 := (jba_124 x2 _).1 b5
        refine st_ar jo_123 (by decide) (show 0 ≤ v4 by omega) (show v4 < ((16 : Nat) : Int) by omega) (fun u6 eu6 => ?_)
        replace eu6 : u6 = jr0 123 v4 := eu6
        have qu6 : u6 = 126 + 3 * v4 := eu6.trans (jhul_123 v4 (by omega) (by omega)).1
        have hu6 : jHl u6 := by rw [eu6]; exact (jhul_123 v4 (by omega) (by omega)).2
        refine And.intro (show u6 ≠ -1 by omega) ?_
        refine st_gi hu6.1 (fun v7 ev7 b8 => ?_)
        replace ev7 : v7 = h u6 3 := ev7
        replace b8 := (jbf_4_3 hu6.1 _).1 b8
        refine And.intro (fun c9 => ?_) (fun c9 => ?_)
        · replace c9 : ¬ v7 = 1 := c9
          show jGo E l 143 229 229 _ 68 [.inr (.inr (.inl 111)), .inl a1, .inl x2, .inr (.inr (.inl u6))] [] 229 jr0 h
          refine jGo_blk qX7_workIsAhead_68 ?_
          have e10 : jw32 (x2 + 1) = x2 + 1 := jzj32 (by omega)
          show jGo E l 143 229 229 _ 2 [.inr (.inr (.inl 111)), .inl a1, .inl (jw32 (x2 + 1)), .inr (.inr (.inl u6))] [] 229 jr0 h
          have hc11 : ∀ i : Int, 0 ≤ i → i < jw32 (x2 + 1) → ¬ (h (126 + 3 * h 124 i) 3 = 1 ∧ ¬ h (126 + 3 * h 124 i) 7 = 0 ∧ 0 < h (126 + 3 * h 124 i) 6 ∧ a1 < h 118 (h (126 + 3 * h 124 i) 5)) := by
            intro i p1 p2
            by_cases y : i = x2
            · rw [y, show h 124 x2 = v4 by omega, show 126 + 3 * v4 = u6 by omega]
              intro w
              omega
            · exact hx0 i p1 (by omega)
          exact ih (jw32 (x2 + 1)) (.inr (.inr (.inl u6))) (by omega) (by exact hc11) (by omega)
        · replace c9 : v7 = 1 := by first | exact c9 | exact Int.not_le.mp c9 | exact Int.not_lt.mp c9 | exact Decidable.not_not.mp c9
          refine st_gi hu6.1 (fun v12 ev12 b13 => ?_)
          replace ev12 : v12 = h u6 7 := ev12
          replace b13 := (jbf_4_7 hu6.1 _).1 b13
          refine And.intro (fun c14 => ?_) (fun c14 => ?_)
          · replace c14 : v12 = 0 := c14
            show jGo E l 143 229 229 _ 68 [.inr (.inr (.inl 111)), .inl a1, .inl x2, .inr (.inr (.inl u6))] [] 229 jr0 h
            refine jGo_blk qX7_workIsAhead_68 ?_
            have e15 : jw32 (x2 + 1) = x2 + 1 := jzj32 (by omega)
            show jGo E l 143 229 229 _ 2 [.inr (.inr (.inl 111)), .inl a1, .inl (jw32 (x2 + 1)), .inr (.inr (.inl u6))] [] 229 jr0 h
            have hc16 : ∀ i : Int, 0 ≤ i → i < jw32 (x2 + 1) → ¬ (h (126 + 3 * h 124 i) 3 = 1 ∧ ¬ h (126 + 3 * h 124 i) 7 = 0 ∧ 0 < h (126 + 3 * h 124 i) 6 ∧ a1 < h 118 (h (126 + 3 * h 124 i) 5)) := by
              intro i p1 p2
              by_cases y : i = x2
              · rw [y, show h 124 x2 = v4 by omega, show 126 + 3 * v4 = u6 by omega]
                intro w
                omega
              · exact hx0 i p1 (by omega)
            exact ih (jw32 (x2 + 1)) (.inr (.inr (.inl u6))) (by omega) (by exact hc16) (by omega)
          · replace c14 : ¬ v12 = 0 := by first | exact c14 | exact Int.not_le.mp c14 | exact Int.not_lt.mp c14 | exact Decidable.not_not.mp c14
            refine st_gi hu6.1 (fun v17 ev17 b18 => ?_)
            replace ev17 : v17 = h u6 6 := ev17
            replace b18 := (jbf_4_6 hu6.1 _).1 b18
            refine And.intro (fun c19 => ?_) (fun c19 => ?_)
            · replace c19 : v17 ≤ 0 := c19
              show jGo E l 143 229 229 _ 68 [.inr (.inr (.inl 111)), .inl a1, .inl x2, .inr (.inr (.inl u6))] [] 229 jr0 h
              refine jGo_blk qX7_workIsAhead_68 ?_
              have e20 : jw32 (x2 + 1) = x2 + 1 := jzj32 (by omega)
              show jGo E l 143 229 229 _ 2 [.inr (.inr (.inl 111)), .inl a1, .inl (jw32 (x2 + 1)), .inr (.inr (.inl u6))] [] 229 jr0 h
              have hc21 : ∀ i : Int, 0 ≤ i → i < jw32 (x2 + 1) → ¬ (h (126 + 3 * h 124 i) 3 = 1 ∧ ¬ h (126 + 3 * h 124 i) 7 = 0 ∧ 0 < h (126 + 3 * h 124 i) 6 ∧ a1 < h 118 (h (126 + 3 * h 124 i) 5)) := by
                intro i p1 p2
                by_cases y : i = x2
                · rw [y, show h 124 x2 = v4 by omega, show 126 + 3 * v4 = u6 by omega]
                  intro w
                  omega
                · exact hx0 i p1 (by omega)
              exact ih (jw32 (x2 + 1)) (.inr (.inr (.inl u6))) (by omega) (by exact hc21) (by omega)
            · replace c19 : 0 < v17 := by first | exact c19 | exact Int.not_le.mp c19 | exact Int.not_lt.mp c19 | exact Decidable.not_not.mp c19
              refine st_gr jo_111 jr_111_5 ?_
              refine st_gi hu6.1 (fun v22 ev22 b23 => ?_)
              replace ev22 : v22 = h u6 5 := ev22
              replace b23 := (jbf_4_5 hu6.1 _).1 b23
              refine st_ai jo_118 (show 0 ≤ v22 by omega) (show v22 < ((4 : Nat) : Int) by omega) (fun v24 ev24 b25 => ?_)
              replace ev24 : v24 = h 118 v22 := ev24
              replace b25 := (jba_118 v22 _).1 b25
              refine And.intro (fun c26 => ?_) (fun c26 => ?_)
              · replace c26 : v24 ≤ a1 := c26
                show jGo E l 143 229 229 _ 68 [.inr (.inr (.inl 111)), .inl a1, .inl x2, .inr (.inr (.inl u6))] [] 229 jr0 h
                refine jGo_blk qX7_workIsAhead_68 ?_
                have e27 : jw32 (x2 + 1) = x2 + 1 := jzj32 (by omega)
                show jGo E l 143 229 229 _ 2 [.inr (.inr (.inl 111)), .inl a1, .inl (jw32 (x2 + 1)), .inr (.inr (.inl u6))] [] 229 jr0 h
                have hc28 : ∀ i : Int, 0 ≤ i → i < jw32 (x2 + 1) → ¬ (h (126 + 3 * h 124 i) 3 = 1 ∧ ¬ h (126 + 3 * h 124 i) 7 = 0 ∧ 0 < h (126 + 3 * h 124 i) 6 ∧ a1 < h 118 (h (126 + 3 * h 124 i) 5)) := by
                  intro i p1 p2
                  by_cases y : i = x2
                  · rw [y, show h 124 x2 = v4 by omega, show 126 + 3 * v4 = u6 by omega]
                    intro w
                    have w4 := w.2.2.2; rw [show h u6 5 = v22 by omega] at w4; omega
                  · exact hx0 i p1 (by omega)
                exact ih (jw32 (x2 + 1)) (.inr (.inr (.inl u6))) (by omega) (by exact hc28) (by omega)
              · replace c26 : a1 < v24 := by first | exact c26 | exact Int.not_le.mp c26 | exact Int.not_lt.mp c26 | exact Decidable.not_not.mp c26
                exact st_r1 (ls := []) (show (1 : Int) = 0 ∨ (1 : Int) = 1 by omega) ⟨rfl, rfl, rfl, 1, rfl, (by omega), (by exact Or.inl rfl)⟩
  refine jGo_blk qX7_workIsAhead_0 ?_
  show jGo E l 143 229 229 _ 2 [.inr (.inr (.inl 111)), .inl a1, .inl 0, .inr (.inr (.inr ()))] [] 229 jr0 h
  exact (key 1000000000000) 0 (.inr (.inr (.inr ()))) (by omega) (by exact fun i p1 p2 => absurd p2 (by omega)) (by omega)

def w_X7_tryOut_29_34 (i k : Int) : Prop := (120 ≤ i ∧ i ≤ 121) ∨ (124 ≤ i ∧ i ≤ 173) ∨ (i = 119 ∧ 6 ≤ k ∧ k ≤ 10)
theorem ws_X10_passDay_119_113__X7_tryOut_29_34 (i k : Int) (q : w_X10_passDay_119_113 i k) : w_X7_tryOut_29_34 i k := by
  unfold w_X10_passDay_119_113 at q; unfold w_X7_tryOut_29_34
  rcases q with q | q | q
  · exact (Or.inl (by omega))
  · exact (Or.inr (Or.inl (by omega)))
  · exact (Or.inr (Or.inr (by omega)))
theorem ws_X10_become_119_29_34__X7_tryOut_29_34 (i k : Int) (q : w_X10_become_119_29_34 i k) : w_X7_tryOut_29_34 i k := by
  unfold w_X10_become_119_29_34 at q; unfold w_X7_tryOut_29_34
  rcases q with q | q | q | q
  · exact (Or.inl (by omega))
  · exact (Or.inr (Or.inl (by omega)))
  · exact (Or.inr (Or.inl (by omega)))
  · exact (Or.inr (Or.inr (by omega)))
def k_X7_tryOut_29_34 (a3 : Int) (h : JH) (v : Option JV) (r' g : JH) : Prop := r' = jr0 ∧ jfr w_X7_tryOut_29_34 h g ∧ v = none ∧ (∀ (D : Int → Prop) (hm : JH), jTq 34 a3 D h hm → ∀ i : Int, 0 ≤ i → i < a3 → g (126 + 3 * h 34 i) 9 = jit jmPi 300 hm 198 (h 34 i) ∧ g (126 + 3 * h 34 i) 2 = h (36 + 3 * h 34 i) 2)
set_option maxHeartbeats 4000000 in
theorem c_X7_tryOut_29_34 {E : JE} {l : Launch} (a3 : Int) (h : JH) (p3 : 0 ≤ a3 ∧ a3 ≤ 16) : jMt E l 144 [.inr (.inr (.inl 111)), .inr (.inr (.inl 29)), .inr (.inr (.inl 34)), .inl a3, .inr (.inr (.inl 16))] 229 jr0 h (k_X7_tryOut_29_34 a3 h) := by
  refine jMt0 (nL := 8) (ls := [.inr (.inr (.inl 111)), .inr (.inr (.inl 29)), .inr (.inr (.inl 34)), .inl a3, .inr (.inr (.inl 16)), .inr (.inr (.inr ())), .inr (.inr (.inr ())), .inr (.inr (.inr ()))]) (by decide +kernel) (by decide +kernel) (by decide +kernel) rfl rfl ?_
  have f0 : jfr w_X7_tryOut_29_34 h h := jfr_rf _ _
  have key : ∀ N : Nat, (∀ (x5 : Int) (x6 : Int) (x7 : Int) (g : JH), (0 ≤ x6 ∧ x6 ≤ 1 ∧ 0 ≤ x7 ∧ x7 ≤ 300) → (jTI 34 a3 x7 x5 x6 h g) → (x6 = 0 ∨ x6 = 1) → (0 ≤ x5 ∧ x5 ≤ x7) → jfr w_X7_tryOut_29_34 h g → (300 - x7) < (N : Int) → jGo E l 144 229 229 (jRK (k_X7_tryOut_29_34 a3 h)) 19 [.inr (.inr (.inl 111)), .inr (.inr (.inl 29)), .inr (.inr (.inl 34)), .inl a3, .inr (.inr (.inl 16)), .inl x5, .inl x6, .inl x7] [] 229 jr0 g) := by
    intro N
    induction N with
    | zero => exact fun _ _ _ _ hi hx0 hx1 hx2 _ hN => absurd hN (by omega)
    | succ N ih =>
      intro x5 x6 x7 g hi hx0 hx1 hx2 hf hN
      refine jGo_ok (fun hls _ => ?_)
      have rx5 : -2147483648 ≤ x5 ∧ x5 ≤ 2147483647 := hls (.inl x5) (by simp)
      refine jGo_blk qX7_tryOut_19 ?_
      refine And.intro (fun c1 => ?_) (fun c1 => ?_)
      · replace c1 : 300 ≤ x7 := c1
        show jGo E l 144 229 229 _ 99 [.inr (.inr (.inl 111)), .inr (.inr (.inl 29)), .inr (.inr (.inl 34)), .inl a3, .inr (.inr (.inl 16)), .inl x5, .inl x6, .inl x7] [] 229 jr0 g
        refine jGo_blk qX7_tryOut_99 ?_
        exact ⟨rfl, rfl, hf, rfl, (by exact fun D hm S => jTI_e hx0 (by omega) (by omega) (by omega) D hm S)⟩
      · replace c1 : x7 < 300 := by first | exact c1 | exact Int.not_le.mp c1 | exact Int.not_lt.mp c1 | exact Decidable.not_not.mp c1
        refine And.intro (fun c2 => ?_) (fun c2 => ?_)
        · replace c2 : a3 ≤ x5 := c2
          show jGo E l 144 229 229 _ 99 [.inr (.inr (.inl 111)), .inr (.inr (.inl 29)), .inr (.inr (.inl 34)), .inl a3, .inr (.inr (.inl 16)), .inl x5, .inl x6, .inl x7] [] 229 jr0 g
          refine jGo_blk qX7_tryOut_99 ?_
          exact ⟨rfl, rfl, hf, rfl, (by exact fun D hm S => jTI_e hx0 (by omega) (by omega) (by omega) D hm S)⟩
        · replace c2 : x5 < a3 := by first | exact c2 | exact Int.not_le.mp c2 | exact Int.not_lt.mp c2 | exact Decidable.not_not.mp c2
          refine And.intro (fun c3 => ?_) (fun c3 => ?_)
          · replace c3 : x6 = 0 := c3
            show jGo E l 144 229 229 _ 99 [.inr (.inr (.inl 111)), .inr (.inr (.inl 29)), .inr (.inr (.inl 34)), .inl a3, .inr (.inr (.inl 16)), .inl x5, .inl x6, .inl x7] [] 229 jr0 g
            refine jGo_blk qX7_tryOut_99 ?_
            exact ⟨rfl, rfl, hf, rfl, (by exact fun D hm S => jTI_e hx0 (by omega) (by omega) (by omega) D hm S)⟩
          · replace c3 : ¬ x6 = 0 := by first | exact c3 | exact Int.not_le.mp c3 | exact Int.not_lt.mp c3 | exact Decidable.not_not.mp c3
            refine st_gr jo_111 jr_111_6 ?_
            refine st_gi jo_111 (fun v4 ev4 b5 => ?_)
            replace ev4 : v4 = g 111 3 := ev4
            replace b5 := (jbf_7_3 jo_111 _).1 b5
            have e6 : jw32 (v4 + 1) = v4 + 1 := jzj32 (by omega)
            have e7 : jw32 ((jw32 (v4 + 1)) + x7) = (jw32 (v4 + 1)) + x7 := jzj32 (by omega)
            refine st_gr jo_111 jr_111_4 ?_
            refine st_cv (na := 4) (st := [.inr (.inr (.inl 16)), .inl x7, .inr (.inr (.inl 113)), .inl (jw32 ((jw32 (v4 + 1)) + x7)), .inr (.inr (.inl 119)), .inl x5]) jo_119 rfl rfl rfl (c_X10_passDay_119_113 (jw32 ((jw32 (v4 + 1)) + x7)) x7 g (by omega) (by omega)) rfl ?_
            rintro _ _ g9 ⟨rfl, ft8, t8, rfl, ht8, zt8⟩ kt8
            replace kt8 : -2147483648 ≤ t8 ∧ t8 ≤ 2147483647 := kt8
            have fg9 : jfr w_X7_tryOut_29_34 h g9 := jfr_tr hf ft8 ws_X10_passDay_119_113__X7_tryOut_29_34
            replace zt8 : (t8 = jMc 121 126 g) ∧ g9 = jPD 119 120 121 126 124 125 114 115 116 117 (jw32 ((jw32 (v4 + 1)) + x7)) x7 g := zt8
            refine st_gr jo_111 jr_111_6 ?_
            refine st_gi jo_119 (fun v10 ev10 b11 => ?_)
            replace ev10 : v10 = g9 119 10 := ev10
            replace b11 := (jbf_10_10 jo_119 _).1 b11
            refine And.intro (fun c12 => ?_) (fun c12 => ?_)
            · replace c12 : ¬ v10 = 0 := c12
              show jGo E l 144 229 229 _ 86 [.inr (.inr (.inl 111)), .inr (.inr (.inl 29)), .inr (.inr (.inl 34)), .inl a3, .inr (.inr (.inl 16)), .inl (jw32 (x5 + t8)), .inl x6, .inl x7] [] 229 jr0 g9
              refine jGo_blk qX7_tryOut_86 ?_
              show jGo E l 144 229 229 _ 91 [.inr (.inr (.inl 111)), .inr (.inr (.inl 29)), .inr (.inr (.inl 34)), .inl a3, .inr (.inr (.inl 16)), .inl (jw32 (x5 + t8)), .inl x6, .inl x7] [.inl 1] 229 jr0 g9
              refine jGo_blk qX7_tryOut_91 ?_
              have e13 : jw32 (x7 + 1) = x7 + 1 := jzj32 (by omega)
              show jGo E l 144 229 229 _ 19 [.inr (.inr (.inl 111)), .inr (.inr (.inl 29)), .inr (.inr (.inl 34)), .inl a3, .inr (.inr (.inl 16)), .inl (jw32 (x5 + t8)), .inl 1, .inl (jw32 (x7 + 1))] [] 229 jr0 g9
              have b9 := jMc_b (B := 121) (H := 126) (h := g)
              have j9 : jw32 (x5 + t8) = x5 + t8 := j32e (by have q9 := zt8.1; omega) (by have q9 := zt8.1; omega)
              have hc14 : jTI 34 a3 (jw32 (x7 + 1)) (jw32 (x5 + t8)) 1 h g9 := by
                rw [show jw32 (x7 + 1) = x7 + 1 by omega]
                have dd : jw32 ((jw32 (v4 + 1)) + x7) = h 111 3 + 1 + x7 := by have q9 := hf 111 3 (by unfold w_X7_tryOut_29_34; omega); omega
                have zz := zt8.2; rw [dd] at zz
                exact jTI_s hx0 (by omega) (by omega) zz (by have q9 := zt8.1; omega) (fun q => absurd q (by decide))
              exact ih (jw32 (x5 + t8)) 1 (jw32 (x7 + 1)) g9 (by omega) (by exact hc14) (by omega) (by have q9 := zt8.1; omega) fg9 (by omega)
            · replace c12 : v10 = 0 := by first | exact c12 | exact Int.not_le.mp c12 | exact Int.not_lt.mp c12 | exact Decidable.not_not.mp c12
              refine st_cv (na := 1) (st := [.inl x7, .inr (.inr (.inl 111))]) jo_111 rfl rfl rfl (c_X7_workIsAhead x7 g9) rfl ?_
              rintro _ _ _ ⟨rfl, rfl, t15, rfl, ht15, zt15⟩ kt15
              replace kt15 : -2147483648 ≤ t15 ∧ t15 ≤ 2147483647 := kt15
              replace ht15 : 0 ≤ t15 ∧ t15 ≤ 1 := ht15
              replace zt15 : t15 = 1 ∨ (t15 = 0 ∧ ∀ i : Int, 0 ≤ i → i < g9 119 6 → ¬ (g9 (126 + 3 * g9 124 i) 3 = 1 ∧ ¬ g9 (126 + 3 * g9 124 i) 7 = 0 ∧ 0 < g9 (126 + 3 * g9 124 i) 6 ∧ x7 < g9 118 (g9 (126 + 3 * g9 124 i) 5))) := zt15
              refine And.intro (fun c17 => ?_) (fun c17 => ?_)
              · replace c17 : t15 = 0 := c17
                show jGo E l 144 229 229 _ 90 [.inr (.inr (.inl 111)), .inr (.inr (.inl 29)), .inr (.inr (.inl 34)), .inl a3, .inr (.inr (.inl 16)), .inl (jw32 (x5 + t8)), .inl x6, .inl x7] [] 229 jr0 g9
                refine jGo_blk qX7_tryOut_90 ?_
                show jGo E l 144 229 229 _ 91 [.inr (.inr (.inl 111)), .inr (.inr (.inl 29)), .inr (.inr (.inl 34)), .inl a3, .inr (.inr (.inl 16)), .inl (jw32 (x5 + t8)), .inl x6, .inl x7] [.inl 0] 229 jr0 g9
                refine jGo_blk qX7_tryOut_91 ?_
                have e18 : jw32 (x7 + 1) = x7 + 1 := jzj32 (by omega)
                show jGo E l 144 229 229 _ 19 [.inr (.inr (.inl 111)), .inr (.inr (.inl 29)), .inr (.inr (.inl 34)), .inl a3, .inr (.inr (.inl 16)), .inl (jw32 (x5 + t8)), .inl 0, .inl (jw32 (x7 + 1))] [] 229 jr0 g9
                have b9 := jMc_b (B := 121) (H := 126) (h := g)
                have j9 : jw32 (x5 + t8) = x5 + t8 := j32e (by have q9 := zt8.1; omega) (by have q9 := zt8.1; omega)
                have hc19 : jTI 34 a3 (jw32 (x7 + 1)) (jw32 (x5 + t8)) 0 h g9 := by
                  rw [show jw32 (x7 + 1) = x7 + 1 by omega]
                  have dd : jw32 ((jw32 (v4 + 1)) + x7) = h 111 3 + 1 + x7 := by have q9 := hf 111 3 (by unfold w_X7_tryOut_29_34; omega); omega
                  have zz := zt8.2; rw [dd] at zz
                  exact jTI_s hx0 (by omega) (by omega) zz (by have q9 := zt8.1; omega) (fun _ => ⟨by omega, by rcases zt15 with q | q; exact absurd q (by omega); exact q.2⟩)
                exact ih (jw32 (x5 + t8)) 0 (jw32 (x7 + 1)) g9 (by omega) (by exact hc19) (by omega) (by have q9 := zt8.1; omega) fg9 (by omega)
              · replace c17 : ¬ t15 = 0 := by first | exact c17 | exact Int.not_le.mp c17 | exact Int.not_lt.mp c17 | exact Decidable.not_not.mp c17
                show jGo E l 144 229 229 _ 86 [.inr (.inr (.inl 111)), .inr (.inr (.inl 29)), .inr (.inr (.inl 34)), .inl a3, .inr (.inr (.inl 16)), .inl (jw32 (x5 + t8)), .inl x6, .inl x7] [] 229 jr0 g9
                refine jGo_blk qX7_tryOut_86 ?_
                show jGo E l 144 229 229 _ 91 [.inr (.inr (.inl 111)), .inr (.inr (.inl 29)), .inr (.inr (.inl 34)), .inl a3, .inr (.inr (.inl 16)), .inl (jw32 (x5 + t8)), .inl x6, .inl x7] [.inl 1] 229 jr0 g9
                refine jGo_blk qX7_tryOut_91 ?_
                have e20 : jw32 (x7 + 1) = x7 + 1 := jzj32 (by omega)
                show jGo E l 144 229 229 _ 19 [.inr (.inr (.inl 111)), .inr (.inr (.inl 29)), .inr (.inr (.inl 34)), .inl a3, .inr (.inr (.inl 16)), .inl (jw32 (x5 + t8)), .inl 1, .inl (jw32 (x7 + 1))] [] 229 jr0 g9
                have b9 := jMc_b (B := 121) (H := 126) (h := g)
                have j9 : jw32 (x5 + t8) = x5 + t8 := j32e (by have q9 := zt8.1; omega) (by have q9 := zt8.1; omega)
                have hc21 : jTI 34 a3 (jw32 (x7 + 1)) (jw32 (x5 + t8)) 1 h g9 := by
                  rw [show jw32 (x7 + 1) = x7 + 1 by omega]
                  have dd : jw32 ((jw32 (v4 + 1)) + x7) = h 111 3 + 1 + x7 := by have q9 := hf 111 3 (by unfold w_X7_tryOut_29_34; omega); omega
                  have zz := zt8.2; rw [dd] at zz
                  exact jTI_s hx0 (by omega) (by omega) zz (by have q9 := zt8.1; omega) (fun q => absurd q (by decide))
                exact ih (jw32 (x5 + t8)) 1 (jw32 (x7 + 1)) g9 (by omega) (by exact hc21) (by omega) (by have q9 := zt8.1; omega) fg9 (by omega)
  refine jGo_blk qX7_tryOut_0 ?_
  refine st_gr jo_111 jr_111_6 ?_
  refine st_cv (na := 3) (st := [.inl a3, .inr (.inr (.inl 34)), .inr (.inr (.inl 29)), .inr (.inr (.inl 119))]) jo_119 rfl rfl rfl (c_X10_become_119_29_34 a3 h (by omega)) rfl ?_
  rintro _ _ g23 ⟨rfl, ft22, rfl, zt22⟩ kt22
  have fg23 : jfr w_X7_tryOut_29_34 h g23 := jfr_tr f0 ft22 ws_X10_become_119_29_34__X7_tryOut_29_34
  replace zt22 : jBc 34 a3 h g23 := zt22
  show jGo E l 144 229 229 _ 19 [.inr (.inr (.inl 111)), .inr (.inr (.inl 29)), .inr (.inr (.inl 34)), .inl a3, .inr (.inr (.inl 16)), .inl 0, .inl 1, .inl 0] [] 229 jr0 g23
  exact (key 1000000000000) 0 1 0 g23 (by omega) (by exact jTI_0 zt22 (fun i k q => (ft22 i k (by first | exact q | (unfold w_X10_become_119_29_34; omega))))) (by omega) (by omega) fg23 (by omega)

def w_X7_readyDay_29 (i k : Int) : Prop := (i = 34) ∨ (120 ≤ i ∧ i ≤ 121) ∨ (124 ≤ i ∧ i ≤ 174) ∨ (i = 29 ∧ k = 6) ∨ (i = 111 ∧ k = 10) ∨ (i = 119 ∧ 6 ≤ k ∧ k ≤ 10)
theorem ws_X10_lineUp_29__X7_readyDay_29 (i k : Int) (q : w_X10_lineUp_29 i k) : w_X7_readyDay_29 i k := by
  unfold w_X10_lineUp_29 at q; unfold w_X7_readyDay_29
  rcases q with q | q
  · exact (Or.inl (by omega))
  · exact (Or.inr (Or.inr (Or.inr (Or.inl (by omega)))))
theorem ws_X7_tryOut_29_34__X7_readyDay_29 (i k : Int) (q : w_X7_tryOut_29_34 i k) : w_X7_readyDay_29 i k := by
  unfold w_X7_tryOut_29_34 at q; unfold w_X7_readyDay_29
  rcases q with q | q | q
  · exact (Or.inr (Or.inl (by omega)))
  · exact (Or.inr (Or.inr (Or.inl (by omega))))
  · exact (Or.inr (Or.inr (Or.inr (Or.inr (Or.inr (by omega))))))
def k_X7_readyDay_29 (a1 : Int) (h : JH) (v : Option JV) (r' g : JH) : Prop := r' = jr0 ∧ jfr w_X7_readyDay_29 h g ∧ ∃ x : Int, v = some (.inl x) ∧ (True) ∧ (jRd a1 x h g)
set_option maxHeartbeats 4000000 in
theorem c_X7_readyDay_29 {E : JE} {l : Launch} (a1 : Int) (h : JH) (p1 : 0 ≤ a1 ∧ a1 ≤ 15) : jMt E l 145 [.inr (.inr (.inl 111)), .inl a1, .inr (.inr (.inl 29)), .inr (.inr (.inl 16))] 229 jr0 h (k_X7_readyDay_29 a1 h) := by
  refine jMt0 (nL := 5) (ls := [.inr (.inr (.inl 111)), .inl a1, .inr (.inr (.inl 29)), .inr (.inr (.inl 16)), .inr (.inr (.inr ()))]) (by decide +kernel) (by decide +kernel) (by decide +kernel) rfl rfl ?_
  have f0 : jfr w_X7_readyDay_29 h h := jfr_rf _ _
  have key : ∀ N : Nat, (∀ (x4 : Int) (g : JH), (0 ≤ x4 ∧ x4 ≤ 16) → (jRdI x4 h g) → (x4 = 0 ∨ x4 ≤ g 29 6) → jfr w_X7_readyDay_29 h g → (16 - x4) < (N : Int) → jGo E l 145 229 229 (jRK (k_X7_readyDay_29 a1 h)) 28 [.inr (.inr (.inl 111)), .inl a1, .inr (.inr (.inl 29)), .inr (.inr (.inl 16)), .inl x4] [] 229 jr0 g) := by
    intro N
    induction N with
    | zero => exact fun _ _ hi hx0 hx1 _ hN => absurd hN (by omega)
    | succ N ih =>
      intro x4 g hi hx0 hx1 hf hN
      refine jGo_blk qX7_readyDay_28 ?_
      refine st_gi jo_29 (fun v1 ev1 b2 => ?_)
      replace ev1 : v1 = g 29 6 := ev1
      replace b2 := (jbf_10_6 jo_29 _).1 b2
      refine And.intro (fun c3 => ?_) (fun c3 => ?_)
      · replace c3 : v1 ≤ x4 := c3
        show jGo E l 145 229 229 _ 73 [.inr (.inr (.inl 111)), .inl a1, .inr (.inr (.inl 29)), .inr (.inr (.inl 16)), .inl x4] [] 229 jr0 g
        refine jGo_blk qX7_readyDay_73 ?_
        refine st_pi jo_111 (fun hx => (jbf_7_10 jo_111 _).2 (show 0 ≤ 1 ∧ 1 ≤ 1 by omega)) (fun g4 eg4 => ?_)
        replace eg4 : g4 = jup g 111 10 1 := eg4
        have fg4 : jfr w_X7_readyDay_29 h g4 := jfr_up hf eg4 (by unfold w_X7_readyDay_29; omega)
        have e5 : g4 111 10 = 1 := jup_s eg4
        show jGo E l 145 229 229 _ 78 [.inr (.inr (.inl 111)), .inl a1, .inr (.inr (.inl 29)), .inr (.inr (.inl 16)), .inl x4] [] 229 jr0 g4
        refine jGo_blk qX7_readyDay_78 ?_
        refine st_gr jo_111 jr_111_7 ?_
        refine st_ai jo_174 (show 0 ≤ a1 by omega) (show a1 < ((16 : Nat) : Int) by omega) (fun v6 ev6 b7 => ?_)
        replace ev6 : v6 = g4 174 a1 := ev6
        replace b7 := (jba_174 a1 _).1 b7
        exact st_r0 (ls := []) ⟨rfl, rfl, fg4, v6, rfl, trivial, (by exact jRd_e hx0 (by omega) eg4 ev6)⟩
      · replace c3 : x4 < v1 := by first | exact c3 | exact Int.not_le.mp c3 | exact Int.not_lt.mp c3 | exact Decidable.not_not.mp c3
        refine st_gr jo_111 jr_111_7 ?_
        refine st_gr jo_29 jr_29_5 ?_
        refine st_ai jo_34 (show 0 ≤ x4 by omega) (show x4 < ((16 : Nat) : Int) by omega) (fun v8 ev8 b9 => ?_)
        replace ev8 : v8 = g 34 x4 := ev8
        replace b9 := (jba_34 x4 _).1 b9
        refine st_gr jo_111 jr_111_6 ?_
        refine st_gr jo_119 jr_119_3 ?_
        refine st_gr jo_29 jr_29_5 ?_
        refine st_ai jo_34 (show 0 ≤ x4 by omega) (show x4 < ((16 : Nat) : Int) by omega) (fun v10 ev10 b11 => ?_)
        replace ev10 : v10 = g 34 x4 := ev10
        replace b11 := (jba_34 x4 _).1 b11
        refine st_ar jo_123 (by decide) (show 0 ≤ v10 by omega) (show v10 < ((16 : Nat) : Int) by omega) (fun u12 eu12 => ?_)
        replace eu12 : u12 = jr0 123 v10 := eu12
        have qu12 : u12 = 126 + 3 * v10 := eu12.trans (jhul_123 v10 (by omega) (by omega)).1
        have hu12 : jHl u12 := by rw [eu12]; exact (jhul_123 v10 (by omega) (by omega)).2
        refine st_gi hu12.1 (fun v13 ev13 b14 => ?_)
        replace ev13 : v13 = g u12 9 := ev13
        replace b14 := (jbf_4_9 hu12.1 _).1 b14
        refine st_si jo_174 (show 0 ≤ v8 by omega) (show v8 < ((16 : Nat) : Int) by omega) (fun hx => (jba_174 _ _).2 hx) (fun g15 eg15 => ?_)
        replace eg15 : g15 = jup g 174 v8 v13 := eg15
        have fg15 : jfr w_X7_readyDay_29 h g15 := jfr_up hf eg15 (by unfold w_X7_readyDay_29; omega)
        have e16 : g15 174 v8 = v13 := jup_s eg15
        have e17 : jw32 (x4 + 1) = x4 + 1 := jzj32 (by omega)
        show jGo E l 145 229 229 _ 28 [.inr (.inr (.inl 111)), .inl a1, .inr (.inr (.inl 29)), .inr (.inr (.inl 16)), .inl (jw32 (x4 + 1))] [] 229 jr0 g15
        have hc18 : jRdI (jw32 (x4 + 1)) h g15 := by
          rw [show jw32 (x4 + 1) = x4 + 1 by omega]
          refine jRdI_s hx0 (by omega) (by omega) (v := v13) (by rw [show g 34 x4 = v8 by omega]; exact eg15) ?_ (by omega)
          rw [show g 34 x4 = v10 by omega, show 126 + 3 * v10 = u12 by omega]; exact ev13
        have e19 : g15 29 6 = g 29 6 := jup_o eg15 (by first | exact fun q => absurd q.1 (by decide) | exact fun q => absurd q.2 (by decide) | omega)
        exact ih (jw32 (x4 + 1)) g15 (by omega) (by exact hc18) (by omega) fg15 (by omega)
  refine jGo_blk qX7_readyDay_0 ?_
  refine st_gi jo_111 (fun v20 ev20 b21 => ?_)
  replace ev20 : v20 = h 111 10 := ev20
  replace b21 := (jbf_7_10 jo_111 _).1 b21
  refine And.intro (fun c22 => ?_) (fun c22 => ?_)
  · replace c22 : ¬ v20 = 0 := c22
    show jGo E l 145 229 229 _ 78 [.inr (.inr (.inl 111)), .inl a1, .inr (.inr (.inl 29)), .inr (.inr (.inl 16)), .inr (.inr (.inr ()))] [] 229 jr0 h
    refine jGo_blk qX7_readyDay_78 ?_
    refine st_gr jo_111 jr_111_7 ?_
    refine st_ai jo_174 (show 0 ≤ a1 by omega) (show a1 < ((16 : Nat) : Int) by omega) (fun v23 ev23 b24 => ?_)
    replace ev23 : v23 = h 174 a1 := ev23
    replace b24 := (jba_174 a1 _).1 b24
    exact st_r0 (ls := []) ⟨rfl, rfl, f0, v23, rfl, trivial, (by exact ⟨by omega, ev23, fun hm S q1 q2 q3 q4 => q4 (by omega)⟩)⟩
  · replace c22 : v20 = 0 := by first | exact c22 | exact Int.not_le.mp c22 | exact Int.not_lt.mp c22 | exact Decidable.not_not.mp c22
    refine st_cv (na := 0) (st := [.inr (.inr (.inl 29))]) jo_29 rfl rfl rfl (c_X10_lineUp_29 h) rfl ?_
    rintro _ _ g26 ⟨rfl, ft25, rfl, zt25⟩ kt25
    have fg26 : jfr w_X7_readyDay_29 h g26 := jfr_tr f0 ft25 ws_X10_lineUp_29__X7_readyDay_29
    replace zt25 : jHo h g26 (h 29 4) (g26 29 6) (g26 29 6) ∧ 0 ≤ g26 29 6 ∧ g26 29 6 ≤ 16 := zt25
    refine st_gr jo_29 jr_29_5 ?_
    refine st_gi jo_29 (fun v27 ev27 b28 => ?_)
    replace ev27 : v27 = g26 29 6 := ev27
    replace b28 := (jbf_10_6 jo_29 _).1 b28
    refine st_cv (na := 4) (st := [.inr (.inr (.inl 16)), .inl v27, .inr (.inr (.inl 34)), .inr (.inr (.inl 29)), .inr (.inr (.inl 111))]) jo_111 rfl rfl rfl (c_X7_tryOut_29_34 v27 g26 (by omega)) rfl ?_
    rintro _ _ g30 ⟨rfl, ft29, rfl, zt29⟩ kt29
    have fg30 : jfr w_X7_readyDay_29 h g30 := jfr_tr fg26 ft29 ws_X7_tryOut_29_34__X7_readyDay_29
    replace zt29 : ∀ (D : Int → Prop) (hm : JH), jTq 34 v27 D g26 hm → ∀ i : Int, 0 ≤ i → i < v27 → g30 (126 + 3 * g26 34 i) 9 = jit jmPi 300 hm 198 (g26 34 i) ∧ g30 (126 + 3 * g26 34 i) 2 = g26 (36 + 3 * g26 34 i) 2 := zt29
    show jGo E l 145 229 229 _ 28 [.inr (.inr (.inl 111)), .inl a1, .inr (.inr (.inl 29)), .inr (.inr (.inl 16)), .inl 0] [] 229 jr0 g30
    have hc31 : jRdI 0 h g30 := by
      have t9 := zt29; rw [show v27 = g26 29 6 by omega] at t9
      exact jRdI_0 (fun i k q1 q2 => (ft25 i k (by unfold w_X10_lineUp_29; omega))) zt25.1 zt25.2 (ft29 29 6 (by unfold w_X7_tryOut_29_34; omega)) (fun i => (ft29 34 i (by unfold w_X7_tryOut_29_34; omega))) t9
    have e32 : g30 29 6 = g26 29 6 := ft29 29 6 (by unfold w_X7_tryOut_29_34; omega)
    exact (key 1000000000000) 0 g30 (by omega) (by exact hc31) (by omega) fg30 (by omega)

def w_X11_readyAhead (i k : Int) : Prop := (i = 15) ∨ (i = 34) ∨ (114 ≤ i ∧ i ≤ 118) ∨ (120 ≤ i ∧ i ≤ 121) ∨ (124 ≤ i ∧ i ≤ 174) ∨ (i = 11 ∧ k = 5) ∨ (i = 29 ∧ k = 6) ∨ (i = 111 ∧ k = 3) ∨ (i = 111 ∧ 9 ≤ k ∧ k ≤ 10) ∨ (i = 119 ∧ 6 ≤ k ∧ k ≤ 10)
theorem ws_X7_standAt__X11_readyAhead (i k : Int) (q : w_X7_standAt i k) : w_X11_readyAhead i k := by
  unfold w_X7_standAt at q; unfold w_X11_readyAhead
  rcases q with q | q | q | q | q
  · exact (Or.inl (by omega))
  · exact (Or.inr (Or.inr (Or.inl (by omega))))
  · exact (Or.inr (Or.inr (Or.inr (Or.inr (Or.inr (Or.inl (by omega)))))))
  · exact (Or.inr (Or.inr (Or.inr (Or.inr (Or.inr (Or.inr (Or.inr (Or.inl (by omega)))))))))
  · exact (Or.inr (Or.inr (Or.inr (Or.inr (Or.inr (Or.inr (Or.inr (Or.inr (Or.inl (by omega))))))))))
theorem ws_X7_readyDay_29__X11_readyAhead (i k : Int) (q : w_X7_readyDay_29 i k) : w_X11_readyAhead i k := by
  unfold w_X7_readyDay_29 at q; unfold w_X11_readyAhead
  rcases q with q | q | q | q | q | q
  · exact (Or.inr (Or.inl (by omega)))
  · exact (Or.inr (Or.inr (Or.inr (Or.inl (by omega)))))
  · exact (Or.inr (Or.inr (Or.inr (Or.inr (Or.inl (by omega))))))
  · exact (Or.inr (Or.inr (Or.inr (Or.inr (Or.inr (Or.inr (Or.inl (by omega))))))))
  · exact (Or.inr (Or.inr (Or.inr (Or.inr (Or.inr (Or.inr (Or.inr (Or.inr (Or.inl (by omega))))))))))
  · exact (Or.inr (Or.inr (Or.inr (Or.inr (Or.inr (Or.inr (Or.inr (Or.inr (Or.inr (by omega))))))))))
def k_X11_readyAhead (a1 : Int) (h : JH) (v : Option JV) (r' g : JH) : Prop := r' = jr0 ∧ jfr w_X11_readyAhead h g ∧ ∃ x : Int, v = some (.inl x) ∧ (True) ∧ (jRA a1 x h g)
set_option maxHeartbeats 4000000 in
theorem c_X11_readyAhead {E : JE} {l : Launch} (a1 : Int) (h : JH) (p1 : 0 ≤ a1 ∧ a1 ≤ 15) : jMt E l 146 [.inr (.inr (.inl 0)), .inl a1] 229 jr0 h (k_X11_readyAhead a1 h) := by
  refine jMt0 (nL := 2) (ls := [.inr (.inr (.inl 0)), .inl a1]) (by decide +kernel) (by decide +kernel) (by decide +kernel) rfl rfl ?_
  have f0 : jfr w_X11_readyAhead h h := jfr_rf _ _
  refine jGo_blk qX11_readyAhead_0 ?_
  refine st_gr jo_0 jr_0_11 ?_
  refine st_gi jo_0 (fun v1 ev1 b2 => ?_)
  replace ev1 : v1 = h 0 0 := ev1
  replace b2 := (jbf_11_0 jo_0 _).1 b2
  refine st_gr jo_0 jr_0_2 ?_
  refine st_gr jo_0 jr_0_3 ?_
  refine st_cv (na := 3) (st := [.inr (.inr (.inl 11)), .inr (.inr (.inl 2)), .inl v1, .inr (.inr (.inl 111))]) jo_111 rfl rfl rfl (c_X7_standAt v1 h (by omega)) rfl ?_
  rintro _ _ g4 ⟨rfl, ft3, rfl, zt3⟩ kt3
  have fg4 : jfr w_X11_readyAhead h g4 := jfr_tr f0 ft3 ws_X7_standAt__X11_readyAhead
  replace zt3 : jSAp v1 h g4 := zt3
  refine st_gr jo_0 jr_0_11 ?_
  refine st_gr jo_0 jr_0_5 ?_
  refine st_gr jo_0 jr_0_4 ?_
  refine st_cv (na := 3) (st := [.inr (.inr (.inl 16)), .inr (.inr (.inl 29)), .inl a1, .inr (.inr (.inl 111))]) jo_111 rfl rfl rfl (c_X7_readyDay_29 a1 g4 (by omega)) rfl ?_
  rintro _ _ g6 ⟨rfl, ft5, t5, rfl, ht5, zt5⟩ kt5
  replace kt5 : -2147483648 ≤ t5 ∧ t5 ≤ 2147483647 := kt5
  have fg6 : jfr w_X11_readyAhead h g6 := jfr_tr fg4 ft5 ws_X7_readyDay_29__X11_readyAhead
  replace zt5 : jRd a1 t5 g4 g6 := zt5
  exact st_r0 (ls := []) ⟨rfl, rfl, fg6, t5, rfl, trivial, (by exact jRA_mk zt3 (by omega) zt5 (fun i k q => by unfold jwk at q; exact (ft3 i k (by unfold w_X7_standAt; omega))) (fun i k q => (ft5 i k (by first | exact q | (unfold w_X7_readyDay_29; omega)))))⟩

def w_X11_ready (i k : Int) : Prop := (i = 1) ∨ (i = 15) ∨ (i = 34) ∨ (114 ≤ i ∧ i ≤ 118) ∨ (120 ≤ i ∧ i ≤ 121) ∨ (124 ≤ i ∧ i ≤ 174) ∨ (i = 11 ∧ k = 5) ∨ (i = 29 ∧ k = 6) ∨ (i = 111 ∧ k = 3) ∨ (i = 111 ∧ 9 ≤ k ∧ k ≤ 10) ∨ (i = 119 ∧ 6 ≤ k ∧ k ≤ 10)
theorem ws_X11_readyAhead__X11_ready (i k : Int) (q : w_X11_readyAhead i k) : w_X11_ready i k := by
  unfold w_X11_readyAhead at q; unfold w_X11_ready
  rcases q with q | q | q | q | q | q | q | q | q | q
  · exact (Or.inr (Or.inl (by omega)))
  · exact (Or.inr (Or.inr (Or.inl (by omega))))
  · exact (Or.inr (Or.inr (Or.inr (Or.inl (by omega)))))
  · exact (Or.inr (Or.inr (Or.inr (Or.inr (Or.inl (by omega))))))
  · exact (Or.inr (Or.inr (Or.inr (Or.inr (Or.inr (Or.inl (by omega)))))))
  · exact (Or.inr (Or.inr (Or.inr (Or.inr (Or.inr (Or.inr (Or.inl (by omega))))))))
  · exact (Or.inr (Or.inr (Or.inr (Or.inr (Or.inr (Or.inr (Or.inr (Or.inl (by omega)))))))))
  · exact (Or.inr (Or.inr (Or.inr (Or.inr (Or.inr (Or.inr (Or.inr (Or.inr (Or.inl (by omega))))))))))
  · exact (Or.inr (Or.inr (Or.inr (Or.inr (Or.inr (Or.inr (Or.inr (Or.inr (Or.inr (Or.inl (by omega)))))))))))
  · exact (Or.inr (Or.inr (Or.inr (Or.inr (Or.inr (Or.inr (Or.inr (Or.inr (Or.inr (Or.inr (by omega)))))))))))
theorem ws_X11_refused__X11_ready (i k : Int) (q : w_X11_refused i k) : w_X11_ready i k := by
  unfold w_X11_refused at q; unfold w_X11_ready
  exact (Or.inl (by omega))
def k_X11_ready (a1 : Int) (h : JH) (v : Option JV) (r' g : JH) : Prop := r' = jr0 ∧ jfr w_X11_ready h g ∧ ∃ x : Int, v = some (.inl x) ∧ (True) ∧ (P_X11_ready a1 x h g)
set_option maxHeartbeats 4000000 in
theorem c_X11_ready {E : JE} {l : Launch} (a1 : Int) (h : JH) : jMt E l 147 [.inr (.inr (.inl 0)), .inl a1] 229 jr0 h (k_X11_ready a1 h) := by
  refine jMt0 (nL := 3) (ls := [.inr (.inr (.inl 0)), .inl a1, .inr (.inr (.inr ()))]) (by decide +kernel) (by decide +kernel) (by decide +kernel) rfl rfl ?_
  have f0 : jfr w_X11_ready h h := jfr_rf _ _
  refine jGo_blk qX11_ready_0 ?_
  refine st_cv (na := 1) (st := [.inl a1, .inr (.inr (.inl 0))]) jo_0 rfl rfl rfl (c_X11_isHull a1 h) rfl ?_
  rintro _ _ _ ⟨rfl, rfl, t1, rfl, ht1, zt1⟩ kt1
  replace kt1 : -2147483648 ≤ t1 ∧ t1 ≤ 2147483647 := kt1
  replace ht1 : 0 ≤ t1 ∧ t1 ≤ 1 := ht1
  replace zt1 : (t1 = 1 ∧ 0 ≤ a1 ∧ a1 < h 29 4 ∧ h 29 4 ≤ 16) ∨ (t1 = 0 ∧ ¬ (0 ≤ a1 ∧ a1 < h 29 4)) := zt1
  refine And.intro (fun c3 => ?_) (fun c3 => ?_)
  · replace c3 : ¬ t1 = 0 := c3
    show jGo E l 147 229 229 _ 12 [.inr (.inr (.inl 0)), .inl a1, .inr (.inr (.inr ()))] [] 229 jr0 h
    refine jGo_blk qX11_ready_12 ?_
    refine st_gr jo_0 jr_0_5 ?_
    refine st_gr jo_29 jr_29_3 ?_
    refine st_ar jo_33 (by decide) (show 0 ≤ a1 by omega) (show a1 < ((16 : Nat) : Int) by omega) (fun u4 eu4 => ?_)
    replace eu4 : u4 = jr0 33 a1 := eu4
    have qu4 : u4 = 36 + 3 * a1 := eu4.trans (jhul_33 a1 (by omega) (by omega)).1
    have hu4 : jHl u4 := by rw [eu4]; exact (jhul_33 a1 (by omega) (by omega)).2
    refine st_gi hu4.1 (fun v5 ev5 b6 => ?_)
    replace ev5 : v5 = h u4 3 := ev5
    replace b6 := (jbf_4_3 hu4.1 _).1 b6
    refine And.intro (fun c7 => ?_) (fun c7 => ?_)
    · replace c7 : ¬ v5 = 3 := c7
      show jGo E l 147 229 229 _ 33 [.inr (.inr (.inl 0)), .inl a1, .inr (.inr (.inr ()))] [] 229 jr0 h
      refine jGo_blk qX11_ready_33 ?_
      show jGo E l 147 229 229 _ 34 [.inr (.inr (.inl 0)), .inl a1, .inr (.inr (.inr ()))] [.inl 0] 229 jr0 h
      refine jGo_blk qX11_ready_34 ?_
      refine And.intro (fun c8 => ?_) (fun c8 => ?_)
      · replace c8 : (0 : Int) = 0 := c8
        show jGo E l 147 229 229 _ 45 [.inr (.inr (.inl 0)), .inl a1, .inl 0] [] 229 jr0 h
        refine jGo_blk qX11_ready_45 ?_
        refine st_gr jo_0 jr_0_5 ?_
        refine st_gr jo_29 jr_29_3 ?_
        refine st_ar jo_33 (by decide) (show 0 ≤ a1 by omega) (show a1 < ((16 : Nat) : Int) by omega) (fun u9 eu9 => ?_)
        replace eu9 : u9 = jr0 33 a1 := eu9
        have qu9 : u9 = 36 + 3 * a1 := eu9.trans (jhul_33 a1 (by omega) (by omega)).1
        have hu9 : jHl u9 := by rw [eu9]; exact (jhul_33 a1 (by omega) (by omega)).2
        refine st_gi hu9.1 (fun v10 ev10 b11 => ?_)
        replace ev10 : v10 = h u9 3 := ev10
        replace b11 := (jbf_4_3 hu9.1 _).1 b11
        refine And.intro (fun c12 => ?_) (fun c12 => ?_)
        · replace c12 : ¬ v10 = 2 := c12
          show jGo E l 147 229 229 _ 74 [.inr (.inr (.inl 0)), .inl a1, .inl 0] [] 229 jr0 h
          refine jGo_blk qX11_ready_74 ?_
          refine st_cv (na := 1) (st := [.inl a1, .inr (.inr (.inl 0))]) jo_0 rfl rfl rfl (c_X11_readyAhead a1 h (by omega)) rfl ?_
          rintro _ _ g14 ⟨rfl, ft13, t13, rfl, ht13, zt13⟩ kt13
          replace kt13 : -2147483648 ≤ t13 ∧ t13 ≤ 2147483647 := kt13
          have fg14 : jfr w_X11_ready h g14 := jfr_tr f0 ft13 ws_X11_readyAhead__X11_ready
          replace zt13 : jRA a1 t13 h g14 := zt13
          have e15 : h u4 3 = h (36 + 3 * a1) 3 := by rw [qu4]
          have e16 : h u9 3 = h (36 + 3 * a1) 3 := by rw [qu9]
          have e17 : h u4 2 = h (36 + 3 * a1) 2 := by rw [qu4]
          have e18 : h u4 3 = h (36 + 3 * a1) 3 := by rw [qu4]
          have e19 : h u4 9 = h (36 + 3 * a1) 9 := by rw [qu4]
          have e20 : h u9 2 = h (36 + 3 * a1) 2 := by rw [qu9]
          have e21 : h u9 3 = h (36 + 3 * a1) 3 := by rw [qu9]
          have e22 : h u9 9 = h (36 + 3 * a1) 9 := by rw [qu9]
          exact st_r0 (ls := []) ⟨rfl, rfl, fg14, t13, rfl, trivial, (by unfold P_X11_ready; exact Or.inr (Or.inr (Or.inr ⟨by omega, t13, by omega, zt13⟩)))⟩
        · replace c12 : v10 = 2 := by first | exact c12 | exact Int.not_le.mp c12 | exact Int.not_lt.mp c12 | exact Decidable.not_not.mp c12
          refine st_gr jo_0 jr_0_5 ?_
          refine st_gr jo_29 jr_29_3 ?_
          refine st_ar jo_33 (by decide) (show 0 ≤ a1 by omega) (show a1 < ((16 : Nat) : Int) by omega) (fun u23 eu23 => ?_)
          replace eu23 : u23 = jr0 33 a1 := eu23
          have qu23 : u23 = 36 + 3 * a1 := eu23.trans (jhul_33 a1 (by omega) (by omega)).1
          have hu23 : jHl u23 := by rw [eu23]; exact (jhul_33 a1 (by omega) (by omega)).2
          refine st_gi hu23.1 (fun v24 ev24 b25 => ?_)
          replace ev24 : v24 = h u23 9 := ev24
          replace b25 := (jbf_4_9 hu23.1 _).1 b25
          have e26 : h u4 3 = h (36 + 3 * a1) 3 := by rw [qu4]
          have e27 : h u9 3 = h (36 + 3 * a1) 3 := by rw [qu9]
          have e28 : h u23 9 = h (36 + 3 * a1) 9 := by rw [qu23]
          have e29 : h u4 2 = h (36 + 3 * a1) 2 := by rw [qu4]
          have e30 : h u4 3 = h (36 + 3 * a1) 3 := by rw [qu4]
          have e31 : h u4 9 = h (36 + 3 * a1) 9 := by rw [qu4]
          have e32 : h u9 2 = h (36 + 3 * a1) 2 := by rw [qu9]
          have e33 : h u9 3 = h (36 + 3 * a1) 3 := by rw [qu9]
          have e34 : h u9 9 = h (36 + 3 * a1) 9 := by rw [qu9]
          have e35 : h u23 2 = h (36 + 3 * a1) 2 := by rw [qu23]
          have e36 : h u23 3 = h (36 + 3 * a1) 3 := by rw [qu23]
          have e37 : h u23 9 = h (36 + 3 * a1) 9 := by rw [qu23]
          have hc38 : jAP h h := jAP_fr (fun i k q => by unfold jwh3 at q; exact rfl)
          exact st_r0 (ls := []) ⟨rfl, rfl, f0, v24, rfl, trivial, (by unfold P_X11_ready; by_cases zz : v24 = -1 <;> first | exact Or.inl ⟨by omega, hc38⟩ | exact Or.inr (Or.inl ⟨by omega, hc38⟩) | exact Or.inr (Or.inr (Or.inl ⟨by omega, hc38⟩)))⟩
      · replace c8 : ¬ (0 : Int) = 0 := by first | exact c8 | exact Int.not_le.mp c8 | exact Int.not_lt.mp c8 | exact Decidable.not_not.mp c8
        exfalso; omega
    · replace c7 : v5 = 3 := by first | exact c7 | exact Int.not_le.mp c7 | exact Int.not_lt.mp c7 | exact Decidable.not_not.mp c7
      show jGo E l 147 229 229 _ 34 [.inr (.inr (.inl 0)), .inl a1, .inr (.inr (.inr ()))] [.inl (-3)] 229 jr0 h
      refine jGo_blk qX11_ready_34 ?_
      refine And.intro (fun c39 => ?_) (fun c39 => ?_)
      · replace c39 : (-3 : Int) = 0 := c39
        exfalso; omega
      · replace c39 : ¬ (-3 : Int) = 0 := by first | exact c39 | exact Int.not_le.mp c39 | exact Int.not_lt.mp c39 | exact Decidable.not_not.mp c39
        refine st_cv (na := 1) (st := [.inl (-3), .inr (.inr (.inl 0))]) jo_0 rfl rfl rfl (c_X11_refused (-3) h (by omega)) rfl ?_
        rintro _ _ g41 ⟨rfl, ft40, t40, rfl, ht40, zt40⟩ kt40
        replace kt40 : -2147483648 ≤ t40 ∧ t40 ≤ 2147483647 := kt40
        replace ht40 : -7 ≤ t40 ∧ t40 ≤ -1 := ht40
        have fg41 : jfr w_X11_ready h g41 := jfr_tr f0 ft40 ws_X11_refused__X11_ready
        replace zt40 : t40 = (-3 : Int) := zt40
        have e42 : h u4 3 = h (36 + 3 * a1) 3 := by rw [qu4]
        have e43 : h u4 2 = h (36 + 3 * a1) 2 := by rw [qu4]
        have e44 : h u4 3 = h (36 + 3 * a1) 3 := by rw [qu4]
        have e45 : h u4 9 = h (36 + 3 * a1) 9 := by rw [qu4]
        have hc46 : jAP h g41 := jAP_fr (fun i k q => by unfold jwh3 at q; exact (ft40 i k (by unfold w_X11_refused; omega)))
        exact st_r0 (ls := []) ⟨rfl, rfl, fg41, t40, rfl, trivial, (by unfold P_X11_ready; by_cases zz : t40 = -1 <;> first | exact Or.inl ⟨by omega, hc46⟩ | exact Or.inr (Or.inl ⟨by omega, hc46⟩) | exact Or.inr (Or.inr (Or.inl ⟨by omega, hc46⟩)))⟩
  · replace c3 : t1 = 0 := by first | exact c3 | exact Int.not_le.mp c3 | exact Int.not_lt.mp c3 | exact Decidable.not_not.mp c3
    show jGo E l 147 229 229 _ 34 [.inr (.inr (.inl 0)), .inl a1, .inr (.inr (.inr ()))] [.inl (-1)] 229 jr0 h
    refine jGo_blk qX11_ready_34 ?_
    refine And.intro (fun c47 => ?_) (fun c47 => ?_)
    · replace c47 : (-1 : Int) = 0 := c47
      exfalso; omega
    · replace c47 : ¬ (-1 : Int) = 0 := by first | exact c47 | exact Int.not_le.mp c47 | exact Int.not_lt.mp c47 | exact Decidable.not_not.mp c47
      refine st_cv (na := 1) (st := [.inl (-1), .inr (.inr (.inl 0))]) jo_0 rfl rfl rfl (c_X11_refused (-1) h (by omega)) rfl ?_
      rintro _ _ g49 ⟨rfl, ft48, t48, rfl, ht48, zt48⟩ kt48
      replace kt48 : -2147483648 ≤ t48 ∧ t48 ≤ 2147483647 := kt48
      replace ht48 : -7 ≤ t48 ∧ t48 ≤ -1 := ht48
      have fg49 : jfr w_X11_ready h g49 := jfr_tr f0 ft48 ws_X11_refused__X11_ready
      replace zt48 : t48 = (-1 : Int) := zt48
      have hc50 : jAP h g49 := jAP_fr (fun i k q => by unfold jwh3 at q; exact (ft48 i k (by unfold w_X11_refused; omega)))
      exact st_r0 (ls := []) ⟨rfl, rfl, fg49, t48, rfl, trivial, (by unfold P_X11_ready; by_cases zz : t48 = -1 <;> first | exact Or.inl ⟨by omega, hc50⟩ | exact Or.inr (Or.inl ⟨by omega, hc50⟩) | exact Or.inr (Or.inr (Or.inl ⟨by omega, hc50⟩)))⟩

def w_X12_swap (i k : Int) : Prop := (i = 224)
def k_X12_swap (a1 : Int) (a2 : Int) (a3 : Int) (h : JH) (v : Option JV) (r' g : JH) : Prop := r' = jr0 ∧ jfr w_X12_swap h g ∧ ∃ x : Int, v = some (.inl x) ∧ (True) ∧ (jbd 224 a1 x ∧ (a3 = 0 → x = a2 ∧ g = jup h 224 a1 a2) ∧ (¬ a3 = 0 → x = h 224 a1 ∧ g = h) ∧ (∀ j : Int, j ≠ a1 → g 224 j = h 224 j) ∧ (x = if a3 = 0 then a2 else h 224 a1) ∧ (g = if a3 = 0 then jup h 224 a1 a2 else h))
set_option maxHeartbeats 4000000 in
theorem c_X12_swap {E : JE} {l : Launch} (a1 : Int) (a2 : Int) (a3 : Int) (h : JH) (p1 : 0 ≤ a1 ∧ a1 ≤ 399) (p3 : a3 = 0 ∨ a3 = 1) (q0 : jR32 a2 → jbd 224 a1 a2) : jMt E l 148 [.inr (.inr (.inl 176)), .inl a1, .inl a2, .inl a3] 229 jr0 h (k_X12_swap a1 a2 a3 h) := by
  refine jMt0 (nL := 4) (ls := [.inr (.inr (.inl 176)), .inl a1, .inl a2, .inl a3]) (by decide +kernel) (by decide +kernel) (by decide +kernel) rfl rfl ?_
  have f0 : jfr w_X12_swap h h := jfr_rf _ _
  refine jGo_blk qX12_swap_0 ?_
  refine And.intro (fun c1 => ?_) (fun c1 => ?_)
  · replace c1 : ¬ a3 = 0 := c1
    show jGo E l 148 229 229 _ 11 [.inr (.inr (.inl 176)), .inl a1, .inl a2, .inl a3] [] 229 jr0 h
    refine jGo_blk qX12_swap_11 ?_
    refine st_gr jo_176 jr_176_59 ?_
    refine st_ai jo_224 (show 0 ≤ a1 by omega) (show a1 < ((400 : Nat) : Int) by omega) (fun v2 ev2 b3 => ?_)
    replace ev2 : v2 = h 224 a1 := ev2
    exact st_r0 (ls := []) ⟨rfl, rfl, f0, v2, rfl, trivial, (by exact ⟨by assumption, fun q => absurd q (by assumption), fun _ => ⟨ev2, rfl⟩, fun _ _ => rfl, ev2.trans (if_neg (by assumption)).symm, (if_neg (by assumption)).symm⟩)⟩
  · replace c1 : a3 = 0 := by first | exact c1 | exact Int.not_le.mp c1 | exact Int.not_lt.mp c1 | exact Decidable.not_not.mp c1
    refine st_gr jo_176 jr_176_59 ?_
    refine st_si jo_224 (show 0 ≤ a1 by omega) (show a1 < ((400 : Nat) : Int) by omega) (q0) (fun g4 eg4 => ?_)
    replace eg4 : g4 = jup h 224 a1 a2 := eg4
    have fg4 : jfr w_X12_swap h g4 := jfr_up f0 eg4 (by unfold w_X12_swap; omega)
    have e5 : g4 224 a1 = a2 := jup_s eg4
    show jGo E l 148 229 229 _ 11 [.inr (.inr (.inl 176)), .inl a1, .inl a2, .inl a3] [] 229 jr0 g4
    refine jGo_blk qX12_swap_11 ?_
    refine st_gr jo_176 jr_176_59 ?_
    refine st_ai jo_224 (show 0 ≤ a1 by omega) (show a1 < ((400 : Nat) : Int) by omega) (fun v6 ev6 b7 => ?_)
    replace ev6 : v6 = g4 224 a1 := ev6
    exact st_r0 (ls := []) ⟨rfl, rfl, fg4, v6, rfl, trivial, (by exact ⟨by assumption, fun _ => ⟨ev6.trans (jup_s eg4), eg4⟩, fun q => absurd (by assumption) q, fun j hj => jup_o eg4 (by first | exact fun q => absurd q.1 (by decide) | exact fun q => absurd q.2 (by decide) | omega), (ev6.trans (jup_s eg4)).trans (if_pos (by assumption)).symm, eg4.trans (if_pos (by assumption)).symm⟩)⟩
