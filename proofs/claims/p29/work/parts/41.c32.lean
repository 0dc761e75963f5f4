def w_X7_tryOut_29_175 (i k : Int) : Prop := (120 ≤ i ∧ i ≤ 121) ∨ (124 ≤ i ∧ i ≤ 173) ∨ (i = 119 ∧ 6 ≤ k ∧ k ≤ 10)
theorem ws_X10_passDay_119_113__X7_tryOut_29_175 (i k : Int) (q : w_X10_passDay_119_113 i k) : w_X7_tryOut_29_175 i k := by
  unfold w_X10_passDay_119_113 at q; unfold w_X7_tryOut_29_175
  rcases q with q | q | q
  · exact (Or.inl (by omega))
  · exact (Or.inr (Or.inl (by omega)))
  · exact (Or.inr (Or.inr (by omega)))
theorem ws_X10_become_119_29_175__X7_tryOut_29_175 (i k : Int) (q : w_X10_become_119_29_175 i k) : w_X7_tryOut_29_175 i k := by
  unfold w_X10_become_119_29_175 at q; unfold w_X7_tryOut_29_175
  rcases q with q | q | q | q
  · exact (Or.inl (by omega))
  · exact (Or.inr (Or.inl (by omega)))
  · exact (Or.inr (Or.inl (by omega)))
  · exact (Or.inr (Or.inr (by omega)))
def k_X7_tryOut_29_175 (a3 : Int) (h : JH) (v : Option JV) (r' g : JH) : Prop := r' = jr0 ∧ jfr w_X7_tryOut_29_175 h g ∧ v = none ∧ (∀ (D : Int → Prop) (hm : JH), jTq 175 a3 D h hm → ∀ i : Int, 0 ≤ i → i < a3 → g (126 + 3 * h 175 i) 9 = jit jmPi 300 hm 198 (h 175 i) ∧ g (126 + 3 * h 175 i) 2 = h (36 + 3 * h 175 i) 2)
set_option maxHeartbeats 4000000 in
theorem c_X7_tryOut_29_175 {E : JE} {l : Launch} (a3 : Int) (h : JH) (p3 : 0 ≤ a3 ∧ a3 ≤ 5) : jMt E l 144 [.inr (.inr (.inl 111)), .inr (.inr (.inl 29)), .inr (.inr (.inl 175)), .inl a3, .inr (.inr (.inl 16))] 229 jr0 h (k_X7_tryOut_29_175 a3 h) := by
  refine jMt0 (nL := 8) (ls := [.inr (.inr (.inl 111)), .inr (.inr (.inl 29)), .inr (.inr (.inl 175)), .inl a3, .inr (.inr (.inl 16)), .inr (.inr (.inr ())), .inr (.inr (.inr ())), .inr (.inr (.inr ()))]) (by decide +kernel) (by decide +kernel) (by decide +kernel) rfl rfl ?_
  have f0 : jfr w_X7_tryOut_29_175 h h := jfr_rf _ _
  have key : ∀ N : Nat, (∀ (x5 : Int) (x6 : Int) (x7 : Int) (g : JH), (0 ≤ x6 ∧ x6 ≤ 1 ∧ 0 ≤ x7 ∧ x7 ≤ 300) → (jTI 175 a3 x7 x5 x6 h g) → (x6 = 0 ∨ x6 = 1) → (0 ≤ x5 ∧ x5 ≤ x7) → jfr w_X7_tryOut_29_175 h g → (300 - x7) < (N : Int) → jGo E l 144 229 229 (jRK (k_X7_tryOut_29_175 a3 h)) 19 [.inr (.inr (.inl 111)), .inr (.inr (.inl 29)), .inr (.inr (.inl 175)), .inl a3, .inr (.inr (.inl 16)), .inl x5, .inl x6, .inl x7] [] 229 jr0 g) := by
    intro N
    induction N with
    | zero => exact fun _ _ _ _ hi hx0 hx1 hx2 _ hN => absurd hN (by omega)
    | succ N ih =>
      intro x5 x6 x7 g hi hx0 hx1 hx2 hf hN
      refine jGo_ok (fun hls _ => ?_)
      have rx5 : -2147483648 ≤ x5 ∧ x5 ≤ 2147483647 := hls (.inl x5) (by simp)
      refine jGo_blk qX7_tryOut_19 ?_
      refine And.intro (fun c1 => ?_) (fun c1 => ?_)
      · replace c1 : 300 ≤ x7 := c1
        show jGo E l 144 229 229 _ 99 [.inr (.inr (.inl 111)), .inr (.inr (.inl 29)), .inr (.inr (.inl 175)), .inl a3, .inr (.inr (.inl 16)), .inl x5, .inl x6, .inl x7] [] 229 jr0 g
        refine jGo_blk qX7_tryOut_99 ?_
        exact ⟨rfl, rfl, hf, rfl, (by exact fun D hm S => jTI_e hx0 (by omega) (by omega) (by omega) D hm S)⟩
      · replace c1 : x7 < 300 := by first | exact c1 | exact Int.not_le.mp c1 | exact Int.not_lt.mp c1 | exact Decidable.not_not.mp c1
        refine And.intro (fun c2 => ?_) (fun c2 => ?_)
        · replace c2 : a3 ≤ x5 := c2
          show jGo E l 144 229 229 _ 99 [.inr (.inr (.inl 111)), .inr (.inr (.inl 29)), .inr (.inr (.inl 175)), .inl a3, .inr (.inr (.inl 16)), .inl x5, .inl x6, .inl x7] [] 229 jr0 g
          refine jGo_blk qX7_tryOut_99 ?_
          exact ⟨rfl, rfl, hf, rfl, (by exact fun D hm S => jTI_e hx0 (by omega) (by omega) (by omega) D hm S)⟩
        · replace c2 : x5 < a3 := by first | exact c2 | exact Int.not_le.mp c2 | exact Int.not_lt.mp c2 | exact Decidable.not_not.mp c2
          refine And.intro (fun c3 => ?_) (fun c3 => ?_)
          · replace c3 : x6 = 0 := c3
            show jGo E l 144 229 229 _ 99 [.inr (.inr (.inl 111)), .inr (.inr (.inl 29)), .inr (.inr (.inl 175)), .inl a3, .inr (.inr (.inl 16)), .inl x5, .inl x6, .inl x7] [] 229 jr0 g
            refine jGo_blk qX7_tryOut_99 ?_
            exact ⟨rfl, rfl, hf, rfl, (by exact fun D hm S => jTI_e hx0 (by omega) (by omega) (by omega) D hm S)⟩
          · replace c3 : ¬ x6 = 0 := by first | exact c3 | exact Int.not_le.mp c3 | exact Int.not_lt.mp c3 | exact Decidable.not_not.mp c3
            refine st_gr jo_111 jr_111_6 ?_
            refine st_gi jo_111 (fun v4 ev4 b5 => ?_)
            replace ev4 : v4 = g 111 3 := ev4
            replace b5 := (jbf_7_3 jo_111 _).1 b5
            have e6 : jw32 (v4 + 1) = v4 + 1 := jzj32 (by omega)
            have e7 : jw32 ((jw32 (v4 + 1)) + x7) = (jw32 (v4 + 1)) + x7 := jzj32 (by omega)
            refine st_gr jo_111 jr_111_4 ?_
            refine st_cv (na := 4) (st := [.inr (.inr (.inl 16)), .inl x7, .inr (.inr (.inl 113)), .inl (jw32 ((jw32 (v4 + 1)) + x7)), .inr (.inr (.inl 119)), .inl x5]) jo_119 rfl rfl rfl (c_X10_passDay_119_113 (jw32 ((jw32 (v4 + 1)) + x7)) x7 g (by omega) (by omega)) rfl ?_
            rintro _ _ g9 ⟨rfl, ft8, t8, rfl, ht8, zt8⟩ kt8
            replace kt8 : -2147483648 ≤ t8 ∧ t8 ≤ 2147483647 := kt8
            have fg9 : jfr w_X7_tryOut_29_175 h g9 := jfr_tr hf ft8 ws_X10_passDay_119_113__X7_tryOut_29_175
            replace zt8 : (t8 = jMc 121 126 g) ∧ g9 = jPD 119 120 121 126 124 125 114 115 116 117 (jw32 ((jw32 (v4 + 1)) + x7)) x7 g := zt8
            refine st_gr jo_111 jr_111_6 ?_
            refine st_gi jo_119 (fun v10 ev10 b11 => ?_)
            replace ev10 : v10 = g9 119 10 := ev10
            replace b11 := (jbf_10_10 jo_119 _).1 b11
            refine And.intro (fun c12 => ?_) (fun c12 => ?_)
            · replace c12 : ¬ v10 = 0 := c12
              show jGo E l 144 229 229 _ 86 [.inr (.inr (.inl 111)), .inr (.inr (.inl 29)), .inr (.inr (.inl 175)), .inl a3, .inr (.inr (.inl 16)), .inl (jw32 (x5 + t8)), .inl x6, .inl x7] [] 229 jr0 g9
              refine jGo_blk qX7_tryOut_86 ?_
              show jGo E l 144 229 229 _ 91 [.inr (.inr (.inl 111)), .inr (.inr (.inl 29)), .inr (.inr (.inl 175)), .inl a3, .inr (.inr (.inl 16)), .inl (jw32 (x5 + t8)), .inl x6, .inl x7] [.inl 1] 229 jr0 g9
              refine jGo_blk qX7_tryOut_91 ?_
              have e13 : jw32 (x7 + 1) = x7 + 1 := jzj32 (by omega)
              show jGo E l 144 229 229 _ 19 [.inr (.inr (.inl 111)), .inr (.inr (.inl 29)), .inr (.inr (.inl 175)), .inl a3, .inr (.inr (.inl 16)), .inl (jw32 (x5 + t8)), .inl 1, .inl (jw32 (x7 + 1))] [] 229 jr0 g9
              have b9 := jMc_b (B := 121) (H := 126) (h := g)
              have j9 : jw32 (x5 + t8) = x5 + t8 := j32e (by have q9 := zt8.1; omega) (by have q9 := zt8.1; omega)
              have hc14 : jTI 175 a3 (jw32 (x7 + 1)) (jw32 (x5 + t8)) 1 h g9 := by
                rw [show jw32 (x7 + 1) = x7 + 1 by omega]
                have dd : jw32 ((jw32 (v4 + 1)) + x7) = h 111 3 + 1 + x7 := by have q9 := hf 111 3 (by unfold w_X7_tryOut_29_175; omega); omega
                have zz := zt8.2; rw [dd] at zz
                exact jTI_s hx0 (by omega) (by omega) zz (by have q9 := zt8.1; omega) (fun q => absurd q (by decide))
              exact ih (jw32 (x5 + t8)) 1 (jw32 (x7 + 1)) g9 (by omega) (by exact hc14) (by omega) (by have q9 := zt8.1; omega) fg9 (by omega)
            · replace c12 : v10 = 0 := by first | exact c12 | exact Int.not_le.mp c12 | exact Int.not_lt.mp c12 | exact Decidable.not_not.mp c12
              refine st_cv (na := 1) (st := [.inl x7, .inr (.inr (.inl 111))]) jo_111 rfl rfl rfl (c_X7_workIsAhead x7 g9) rfl ?_
              rintro _ _ _ ⟨rfl, rfl, t15, rfl, ht15, zt15⟩ kt15
              replace kt15 : -2147483648 ≤ t15 ∧ t15 ≤ 2147483647 := kt15
              replace ht15 : 0 ≤ t15 ∧ t15 ≤ 1 := ht15
              replace zt15 : t15 = 1 ∨ (t15 = 0 ∧ ∀ i : Int, 0 ≤ i → i < g9 119 6 → ¬ (g9 (126 + 3 * g9 124 i) 3 = 1 ∧ ¬ g9 (126 + 3 * g9 124 i) 7 = 0 ∧ 0 < g9 (126 + 3 * g9 124 i) 6 ∧ x7 < g9 118 (g9 (126 + 3 * g9 124 i) 5))) := zt15
              refine And.intro (fun c17 => ?_) (fun c17 => ?_)
              · replace c17 : t15 = 0 := c17
                show jGo E l 144 229 229 _ 90 [.inr (.inr (.inl 111)), .inr (.inr (.inl 29)), .inr (.inr (.inl 175)), .inl a3, .inr (.inr (.inl 16)), .inl (jw32 (x5 + t8)), .inl x6, .inl x7] [] 229 jr0 g9
                refine jGo_blk qX7_tryOut_90 ?_
                show jGo E l 144 229 229 _ 91 [.inr (.inr (.inl 111)), .inr (.inr (.inl 29)), .inr (.inr (.inl 175)), .inl a3, .inr (.inr (.inl 16)), .inl (jw32 (x5 + t8)), .inl x6, .inl x7] [.inl 0] 229 jr0 g9
                refine jGo_blk qX7_tryOut_91 ?_
                have e18 : jw32 (x7 + 1) = x7 + 1 := jzj32 (by omega)
                show jGo E l 144 229 229 _ 19 [.inr (.inr (.inl 111)), .inr (.inr (.inl 29)), .inr (.inr (.inl 175)), .inl a3, .inr (.inr (.inl 16)), .inl (jw32 (x5 + t8)), .inl 0, .inl (jw32 (x7 + 1))] [] 229 jr0 g9
                have b9 := jMc_b (B := 121) (H := 126) (h := g)
                have j9 : jw32 (x5 + t8) = x5 + t8 := j32e (by have q9 := zt8.1; omega) (by have q9 := zt8.1; omega)
                have hc19 : jTI 175 a3 (jw32 (x7 + 1)) (jw32 (x5 + t8)) 0 h g9 := by
                  rw [show jw32 (x7 + 1) = x7 + 1 by omega]
                  have dd : jw32 ((jw32 (v4 + 1)) + x7) = h 111 3 + 1 + x7 := by have q9 := hf 111 3 (by unfold w_X7_tryOut_29_175; omega); omega
                  have zz := zt8.2; rw [dd] at zz
                  exact jTI_s hx0 (by omega) (by omega) zz (by have q9 := zt8.1; omega) (fun _ => ⟨by omega, by rcases zt15 with q | q; exact absurd q (by omega); exact q.2⟩)
                exact ih (jw32 (x5 + t8)) 0 (jw32 (x7 + 1)) g9 (by omega) (by exact hc19) (by omega) (by have q9 := zt8.1; omega) fg9 (by omega)
              · replace c17 : ¬ t15 = 0 := by first | exact c17 | exact Int.not_le.mp c17 | exact Int.not_lt.mp c17 | exact Decidable.not_not.mp c17
                show jGo E l 144 229 229 _ 86 [.inr (.inr (.inl 111)), .inr (.inr (.inl 29)), .inr (.inr (.inl 175)), .inl a3, .inr (.inr (.inl 16)), .inl (jw32 (x5 + t8)), .inl x6, .inl x7] [] 229 jr0 g9
                refine jGo_blk qX7_tryOut_86 ?_
                show jGo E l 144 229 229 _ 91 [.inr (.inr (.inl 111)), .inr (.inr (.inl 29)), .inr (.inr (.inl 175)), .inl a3, .inr (.inr (.inl 16)), .inl (jw32 (x5 + t8)), .inl x6, .inl x7] [.inl 1] 229 jr0 g9
                refine jGo_blk qX7_tryOut_91 ?_
                have e20 : jw32 (x7 + 1) = x7 + 1 := jzj32 (by omega)
                show jGo E l 144 229 229 _ 19 [.inr (.inr (.inl 111)), .inr (.inr (.inl 29)), .inr (.inr (.inl 175)), .inl a3, .inr (.inr (.inl 16)), .inl (jw32 (x5 + t8)), .inl 1, .inl (jw32 (x7 + 1))] [] 229 jr0 g9
                have b9 := jMc_b (B := 121) (H := 126) (h := g)
                have j9 : jw32 (x5 + t8) = x5 + t8 := j32e (by have q9 := zt8.1; omega) (by have q9 := zt8.1; omega)
                have hc21 : jTI 175 a3 (jw32 (x7 + 1)) (jw32 (x5 + t8)) 1 h g9 := by
                  rw [show jw32 (x7 + 1) = x7 + 1 by omega]
                  have dd : jw32 ((jw32 (v4 + 1)) + x7) = h 111 3 + 1 + x7 := by have q9 := hf 111 3 (by unfold w_X7_tryOut_29_175; omega); omega
                  have zz := zt8.2; rw [dd] at zz
                  exact jTI_s hx0 (by omega) (by omega) zz (by have q9 := zt8.1; omega) (fun q => absurd q (by decide))
                exact ih (jw32 (x5 + t8)) 1 (jw32 (x7 + 1)) g9 (by omega) (by exact hc21) (by omega) (by have q9 := zt8.1; omega) fg9 (by omega)
  refine jGo_blk qX7_tryOut_0 ?_
  refine st_gr jo_111 jr_111_6 ?_
  refine st_cv (na := 3) (st := [.inl a3, .inr (.inr (.inl 175)), .inr (.inr (.inl 29)), .inr (.inr (.inl 119))]) jo_119 rfl rfl rfl (c_X10_become_119_29_175 a3 h (by omega)) rfl ?_
  rintro _ _ g23 ⟨rfl, ft22, rfl, zt22⟩ kt22
  have fg23 : jfr w_X7_tryOut_29_175 h g23 := jfr_tr f0 ft22 ws_X10_become_119_29_175__X7_tryOut_29_175
  replace zt22 : jBc 175 a3 h g23 := zt22
  show jGo E l 144 229 229 _ 19 [.inr (.inr (.inl 111)), .inr (.inr (.inl 29)), .inr (.inr (.inl 175)), .inl a3, .inr (.inr (.inl 16)), .inl 0, .inl 1, .inl 0] [] 229 jr0 g23
  exact (key 1000000000000) 0 1 0 g23 (by omega) (by exact jTI_0 zt22 (fun i k q => (ft22 i k (by first | exact q | (unfold w_X10_become_119_29_175; omega))))) (by omega) (by omega) fg23 (by omega)

def k_X7_sumOfLate (h : JH) (v : Option JV) (r' g : JH) : Prop := r' = jr0 ∧ h = g ∧ ∃ x : Int, v = some (.inl x) ∧ (True) ∧ (x = jsc3 h (h 111 2).toNat ∧ jsB h)
set_option maxHeartbeats 4000000 in
theorem c_X7_sumOfLate {E : JE} {l : Launch} (h : JH) : jMt E l 158 [.inr (.inr (.inl 111))] 229 jr0 h (k_X7_sumOfLate h) := by
  refine jMt0 (nL := 4) (ls := [.inr (.inr (.inl 111)), .inr (.inr (.inr ())), .inr (.inr (.inr ())), .inr (.inr (.inr ()))]) (by decide +kernel) (by decide +kernel) (by decide +kernel) rfl rfl ?_
  have key : ∀ N : Nat, (∀ (x1 : Int) (x2 : Int) (x3 : JV), (0 ≤ x2 ∧ x2 ≤ 5) → (x1 = jsc3 h (x2).toNat) → (∀ i : Int, 0 ≤ i → i < x2 → (0 ≤ h (126 + 3 * h 175 i) 2 ∧ h (126 + 3 * h 175 i) 2 ≤ 2000) ∧ 0 ≤ h 111 3 ∧ h 111 3 ≤ 2000) → (x2 = 0 ∨ x2 ≤ h 111 2) → (5 - x2) < (N : Int) → jGo E l 158 229 229 (jRK (k_X7_sumOfLate h)) 4 [.inr (.inr (.inl 111)), .inl x1, .inl x2, x3] [] 229 jr0 h) := by
    intro N
    induction N with
    | zero => exact fun _ _ _ hi hx0 hx1 hx2 hN => absurd hN (by omega)
    | succ N ih =>
      intro x1 x2 x3 hi hx0 hx1 hx2 hN
      refine jGo_ok (fun hls _ => ?_)
      have rx1 : -2147483648 ≤ x1 ∧ x1 ≤ 2147483647 := hls (.inl x1) (by simp)
      refine jGo_blk qX7_sumOfLate_4 ?_
      refine st_gi jo_111 (fun v1 ev1 b2 => ?_)
      replace ev1 : v1 = h 111 2 := ev1
      replace b2 := (jbf_7_2 jo_111 _).1 b2
      refine And.intro (fun c3 => ?_) (fun c3 => ?_)
      · replace c3 : v1 ≤ x2 := c3
        show jGo E l 158 229 229 _ 51 [.inr (.inr (.inl 111)), .inl x1, .inl x2, x3] [] 229 jr0 h
        refine jGo_blk qX7_sumOfLate_51 ?_
        exact st_r0 (ls := []) ⟨rfl, rfl, rfl, x1, rfl, trivial, (by rw [show h 111 2 = x2 by omega]; exact ⟨hx0, fun i p1 p2 => hx1 i p1 (by omega)⟩)⟩
      · replace c3 : x2 < v1 := by first | exact c3 | exact Int.not_le.mp c3 | exact Int.not_lt.mp c3 | exact Decidable.not_not.mp c3
        refine st_gr jo_111 jr_111_6 ?_
        refine st_gr jo_119 jr_119_3 ?_
        refine st_gr jo_111 jr_111_8 ?_
        refine st_ai jo_175 (show 0 ≤ x2 by omega) (show x2 < ((5 : Nat) : Int) by omega) (fun v4 ev4 b5 => ?_)
        replace ev4 : v4 = h 175 x2 := ev4
        replace b5 := (jba_175 x2 _).1 b5
        refine st_ar jo_123 (by decide) (show 0 ≤ v4 by omega) (show v4 < ((16 : Nat) : Int) by omega) (fun u6 eu6 => ?_)
        replace eu6 : u6 = jr0 123 v4 := eu6
        have qu6 : u6 = 126 + 3 * v4 := eu6.trans (jhul_123 v4 (by omega) (by omega)).1
        have hu6 : jHl u6 := by rw [eu6]; exact (jhul_123 v4 (by omega) (by omega)).2
        refine And.intro (show u6 ≠ -1 by omega) ?_
        refine st_gi hu6.1 (fun v7 ev7 b8 => ?_)
        replace ev7 : v7 = h u6 9 := ev7
        replace b8 := (jbf_4_9 hu6.1 _).1 b8
        refine st_gi hu6.1 (fun v9 ev9 b10 => ?_)
        replace ev9 : v9 = h u6 2 := ev9
        replace b10 := (jbf_4_2 hu6.1 _).1 b10
        refine st_gi jo_111 (fun v11 ev11 b12 => ?_)
        replace ev11 : v11 = h 111 3 := ev11
        replace b12 := (jbf_7_3 jo_111 _).1 b12
        refine st_cs (na := 3) (st := [.inl v11, .inl v9, .inl v7, .inl x1]) rfl rfl rfl (c_X11_lateness v7 v9 v11 h) rfl ?_
        rintro _ _ _ ⟨rfl, rfl, t13, rfl, ht13, zt13⟩ kt13
        replace kt13 : -2147483648 ≤ t13 ∧ t13 ≤ 2147483647 := kt13
        replace zt13 : t13 = jlt v7 v9 v11 := zt13
        have e15 : jw32 (x2 + 1) = x2 + 1 := jzj32 (by omega)
        show jGo E l 158 229 229 _ 4 [.inr (.inr (.inl 111)), .inl (jw32 (x1 + t13)), .inl (jw32 (x2 + 1)), .inr (.inr (.inl u6))] [] 229 jr0 h
        have hc16 : ∀ i : Int, 0 ≤ i → i < jw32 (x2 + 1) → (0 ≤ h (126 + 3 * h 175 i) 2 ∧ h (126 + 3 * h 175 i) 2 ≤ 2000) ∧ 0 ≤ h 111 3 ∧ h 111 3 ≤ 2000 := by
          intro i p1 p2
          by_cases y : i = x2
          · rw [y, show h 175 x2 = v4 by omega, show 126 + 3 * v4 = u6 by omega]; omega
          · exact hx1 i p1 (by omega)
        exact ih (jw32 (x1 + t13)) (jw32 (x2 + 1)) (.inr (.inr (.inl u6))) (by omega) (by rw [show jw32 (x2 + 1) = x2 + 1 by omega, jsc3_s (by omega), ← hx0, zt13, ev7, ev9, ev11, qu6, ev4]) (by exact hc16) (by omega) (by omega)
  refine jGo_blk qX7_sumOfLate_0 ?_
  show jGo E l 158 229 229 _ 4 [.inr (.inr (.inl 111)), .inl 0, .inl 0, .inr (.inr (.inr ()))] [] 229 jr0 h
  exact (key 1000000000000) 0 0 (.inr (.inr (.inr ()))) (by omega) (by rfl) (by exact fun i p1 p2 => absurd p2 (by omega)) (by omega) (by omega)

def w_X7_swapTried (i k : Int) : Prop := (i = 175)
def k_X7_swapTried (a1 : Int) (a2 : Int) (h : JH) (v : Option JV) (r' g : JH) : Prop := r' = jr0 ∧ jfr w_X7_swapTried h g ∧ v = none ∧ (∀ i : Int, g 175 i = jsw a1 a2 (h 175) i)
set_option maxHeartbeats 4000000 in
theorem c_X7_swapTried {E : JE} {l : Launch} (a1 : Int) (a2 : Int) (h : JH) (p1 : 0 ≤ a1 ∧ a1 ≤ 4) (p2 : 0 ≤ a2 ∧ a2 ≤ 4) : jMt E l 159 [.inr (.inr (.inl 111)), .inl a1, .inl a2] 229 jr0 h (k_X7_swapTried a1 a2 h) := by
  refine jMt0 (nL := 4) (ls := [.inr (.inr (.inl 111)), .inl a1, .inl a2, .inr (.inr (.inr ()))]) (by decide +kernel) (by decide +kernel) (by decide +kernel) rfl rfl ?_
  have f0 : jfr w_X7_swapTried h h := jfr_rf _ _
  refine jGo_blk qX7_swapTried_0 ?_
  refine st_gr jo_111 jr_111_8 ?_
  refine st_ai jo_175 (show 0 ≤ a1 by omega) (show a1 < ((5 : Nat) : Int) by omega) (fun v1 ev1 b2 => ?_)
  replace ev1 : v1 = h 175 a1 := ev1
  replace b2 := (jba_175 a1 _).1 b2
  refine st_gr jo_111 jr_111_8 ?_
  refine st_gr jo_111 jr_111_8 ?_
  refine st_ai jo_175 (show 0 ≤ a2 by omega) (show a2 < ((5 : Nat) : Int) by omega) (fun v3 ev3 b4 => ?_)
  replace ev3 : v3 = h 175 a2 := ev3
  replace b4 := (jba_175 a2 _).1 b4
  refine st_si jo_175 (show 0 ≤ a1 by omega) (show a1 < ((5 : Nat) : Int) by omega) (fun hx => (jba_175 _ _).2 (show 0 ≤ v3 ∧ v3 ≤ 15 by omega)) (fun g5 eg5 => ?_)
  replace eg5 : g5 = jup h 175 a1 v3 := eg5
  have fg5 : jfr w_X7_swapTried h g5 := jfr_up f0 eg5 (by unfold w_X7_swapTried; omega)
  have e6 : g5 175 a1 = v3 := jup_s eg5
  refine st_gr jo_111 jr_111_8 ?_
  refine st_si jo_175 (show 0 ≤ a2 by omega) (show a2 < ((5 : Nat) : Int) by omega) (fun hx => (jba_175 _ _).2 (show 0 ≤ v1 ∧ v1 ≤ 15 by omega)) (fun g7 eg7 => ?_)
  replace eg7 : g7 = jup g5 175 a2 v1 := eg7
  have fg7 : jfr w_X7_swapTried h g7 := jfr_up fg5 eg7 (by unfold w_X7_swapTried; omega)
  have e8 : g7 175 a2 = v1 := jup_s eg7
  exact ⟨rfl, rfl, fg7, rfl, (by exact fun i => by rw [eg7, eg5, ev1, ev3]; exact jsw_u)⟩

def w_X7_nextOrder (i k : Int) : Prop := (i = 175)
theorem ws_X7_swapTried__X7_nextOrder (i k : Int) (q : w_X7_swapTried i k) : w_X7_nextOrder i k := by
  unfold w_X7_swapTried at q; unfold w_X7_nextOrder
  exact (by omega)
def k_X7_nextOrder (h : JH) (v : Option JV) (r' g : JH) : Prop := r' = jr0 ∧ jfr w_X7_nextOrder h g ∧ v = none ∧ (∀ i : Int, g 175 i = jnx3 (h 111 2) (h 175) i)
set_option maxHeartbeats 4000000 in
theorem c_X7_nextOrder {E : JE} {l : Launch} (h : JH) : jMt E l 160 [.inr (.inr (.inl 111))] 229 jr0 h (k_X7_nextOrder h) := by
  refine jMt0 (nL := 5) (ls := [.inr (.inr (.inl 111)), .inr (.inr (.inr ())), .inr (.inr (.inr ())), .inr (.inr (.inr ())), .inr (.inr (.inr ()))]) (by decide +kernel) (by decide +kernel) (by decide +kernel) rfl rfl ?_
  have f0 : jfr w_X7_nextOrder h h := jfr_rf _ _
  have key : ∀ N : Nat, (∀ (x1 : Int) (g : JH), ((-2) ≤ x1 ∧ x1 ≤ 3) → (x1 + 2 ≤ g 111 2) → (jn1 (h 175) (h 111 2).toNat (h 111 2 - 2) = jn1 (h 175) (x1 + 2).toNat x1) → (g = h) → jfr w_X7_nextOrder h g → (x1 - (-2)) + 40000 < (N : Int) → jGo E l 160 229 229 (jRK (k_X7_nextOrder h)) 7 [.inr (.inr (.inl 111)), .inl x1, .inr (.inr (.inr ())), .inr (.inr (.inr ())), .inr (.inr (.inr ()))] [] 229 jr0 g) ∧
      (∀ (x1 : Int) (x2 : Int) (g : JH), (0 ≤ x1 ∧ x1 ≤ 3 ∧ (-1) ≤ x2 ∧ x2 ≤ 4) → (x1 + 1 ≤ x2 ∧ 0 ≤ x1 ∧ x2 + 1 ≤ g 111 2) → (jn1 (h 175) (h 111 2).toNat (h 111 2 - 2) = x1) → (jn2 (h 175) x1 (h 111 2 - 1 - x1).toNat (h 111 2 - 1) = jn2 (h 175) x1 (x2 - x1).toNat x2) → (g = h) → jfr w_X7_nextOrder h g → (x2 - (-1)) + 20000 < (N : Int) → jGo E l 160 229 229 (jRK (k_X7_nextOrder h)) 46 [.inr (.inr (.inl 111)), .inl x1, .inl x2, .inr (.inr (.inr ())), .inr (.inr (.inr ()))] [] 229 jr0 g) ∧
      (∀ (x1 : Int) (x2 : Int) (x3 : Int) (x4 : Int) (g : JH), (0 ≤ x1 ∧ x1 ≤ 3 ∧ (-1) ≤ x2 ∧ x2 ≤ 4 ∧ (-1) ≤ x3 ∧ x3 ≤ 4 ∧ 1 ≤ x4 ∧ x4 ≤ 4) → (jnx3 (h 111 2) (h 175) = jn3 (x3 + 1).toNat x4 x3 (g 175)) → jfr w_X7_nextOrder h g → (x3 - (-1)) < (N : Int) → jGo E l 160 229 229 (jRK (k_X7_nextOrder h)) 92 [.inr (.inr (.inl 111)), .inl x1, .inl x2, .inl x3, .inl x4] [] 229 jr0 g) := by
    intro N
    induction N with
    | zero => exact ⟨fun _ _ hi hx0 hx1 hx2 _ hN => absurd hN (by omega), fun _ _ _ hi hx0 hx1 hx2 hx3 _ hN => absurd hN (by omega), fun _ _ _ _ _ hi hx0 _ hN => absurd hN (by omega)⟩
    | succ N ih =>
      refine ⟨?_, ?_, ?_⟩
      · intro x1 g hi hx0 hx1 hx2 hf hN
        refine jGo_blk qX7_nextOrder_7 ?_
        refine And.intro (fun c1 => ?_) (fun c1 => ?_)
        · replace c1 : x1 < 0 := c1
          show jGo E l 160 229 229 _ 34 [.inr (.inr (.inl 111)), .inl x1, .inr (.inr (.inr ())), .inr (.inr (.inr ())), .inr (.inr (.inr ()))] [] 229 jr0 g
          refine jGo_blk qX7_nextOrder_34 ?_
          refine And.intro (fun c2 => ?_) (fun c2 => ?_)
          · replace c2 : 0 ≤ x1 := c2
            exfalso; omega
          · replace c2 : x1 < 0 := by first | exact c2 | exact Int.not_le.mp c2 | exact Int.not_lt.mp c2 | exact Decidable.not_not.mp c2
            exact ⟨rfl, rfl, hf, rfl, (by exact fun i => by rw [jnx3_n (hx1.trans (jn1_n (T := h 175) (by omega) _)) (by omega), hx2])⟩
        · replace c1 : 0 ≤ x1 := by first | exact c1 | exact Int.not_le.mp c1 | exact Int.not_lt.mp c1 | exact Decidable.not_not.mp c1
          refine st_gr jo_111 jr_111_8 ?_
          refine st_ai jo_175 (show 0 ≤ x1 by omega) (show x1 < ((5 : Nat) : Int) by omega) (fun v3 ev3 b4 => ?_)
          replace ev3 : v3 = g 175 x1 := ev3
          replace b4 := (jba_175 x1 _).1 b4
          refine st_gr jo_111 jr_111_8 ?_
          have e5 : jw32 (x1 + 1) = x1 + 1 := jzj32 (by omega)
          refine st_ai jo_175 (show 0 ≤ jw32 (x1 + 1) by omega) (show jw32 (x1 + 1) < ((5 : Nat) : Int) by omega) (fun v6 ev6 b7 => ?_)
          replace ev6 : v6 = g 175 (jw32 (x1 + 1)) := ev6
          replace b7 := (jba_175 (jw32 (x1 + 1)) _).1 b7
          refine And.intro (fun c8 => ?_) (fun c8 => ?_)
          · replace c8 : v3 ≤ v6 := c8
            show jGo E l 160 229 229 _ 34 [.inr (.inr (.inl 111)), .inl x1, .inr (.inr (.inr ())), .inr (.inr (.inr ())), .inr (.inr (.inr ()))] [] 229 jr0 g
            refine jGo_blk qX7_nextOrder_34 ?_
            refine And.intro (fun c9 => ?_) (fun c9 => ?_)
            · replace c9 : 0 ≤ x1 := c9
              show jGo E l 160 229 229 _ 39 [.inr (.inr (.inl 111)), .inl x1, .inr (.inr (.inr ())), .inr (.inr (.inr ())), .inr (.inr (.inr ()))] [] 229 jr0 g
              refine jGo_blk qX7_nextOrder_39 ?_
              refine st_gi jo_111 (fun v10 ev10 b11 => ?_)
              replace ev10 : v10 = g 111 2 := ev10
              replace b11 := (jbf_7_2 jo_111 _).1 b11
              have e12 : jw32 (v10 - 1) = v10 - 1 := jzj32 (by omega)
              show jGo E l 160 229 229 _ 46 [.inr (.inr (.inl 111)), .inl x1, .inl (jw32 (v10 - 1)), .inr (.inr (.inr ())), .inr (.inr (.inr ()))] [] 229 jr0 g
              exact ih.2.1 x1 (jw32 (v10 - 1)) g (by omega) (by omega) (by exact hx1.trans (jn1_e (T := h 175) (by omega) (fun q => by have q2 := q.2; rw [← hx2, show x1 + 1 = jw32 (x1 + 1) by omega] at q2; omega))) (by have q9 := congrFun (congrFun hx2 111) 2; rw [show jw32 (v10 - 1) = h 111 2 - 1 by omega]) (by exact hx2) hf (by omega)
            · replace c9 : x1 < 0 := by first | exact c9 | exact Int.not_le.mp c9 | exact Int.not_lt.mp c9 | exact Decidable.not_not.mp c9
              exfalso; omega
          · replace c8 : v6 < v3 := by first | exact c8 | exact Int.not_le.mp c8 | exact Int.not_lt.mp c8 | exact Decidable.not_not.mp c8
            have e13 : jw32 (x1 + (-1)) = x1 + (-1) := jzj32 (by omega)
            show jGo E l 160 229 229 _ 7 [.inr (.inr (.inl 111)), .inl (jw32 (x1 + (-1))), .inr (.inr (.inr ())), .inr (.inr (.inr ())), .inr (.inr (.inr ()))] [] 229 jr0 g
            exact ih.1 (jw32 (x1 + (-1))) g (by omega) (by omega) (by rw [show jw32 (x1 + (-1)) = x1 - 1 by omega]; exact hx1.trans (jn1_s (T := h 175) ⟨by omega, by rw [← hx2, show x1 + 1 = jw32 (x1 + 1) by omega]; omega⟩)) (by exact hx2) hf (by omega)
      · intro x1 x2 g hi hx0 hx1 hx2 hx3 hf hN
        refine jGo_blk qX7_nextOrder_46 ?_
        have e14 : jw32 (x1 + 1) = x1 + 1 := jzj32 (by omega)
        refine And.intro (fun c15 => ?_) (fun c15 => ?_)
        · replace c15 : x2 ≤ jw32 (x1 + 1) := c15
          show jGo E l 160 229 229 _ 74 [.inr (.inr (.inl 111)), .inl x1, .inl x2, .inr (.inr (.inr ())), .inr (.inr (.inr ()))] [] 229 jr0 g
          refine jGo_blk qX7_nextOrder_74 ?_
          refine st_cv (na := 2) (st := [.inl x2, .inl x1, .inr (.inr (.inl 111))]) jo_111 rfl rfl rfl (c_X7_swapTried x1 x2 g (by omega) (by omega)) rfl ?_
          rintro _ _ g17 ⟨rfl, ft16, rfl, zt16⟩ kt16
          have fg17 : jfr w_X7_nextOrder h g17 := jfr_tr hf ft16 ws_X7_swapTried__X7_nextOrder
          replace zt16 : ∀ i : Int, g17 175 i = jsw x1 x2 (g 175) i := zt16
          refine st_gi jo_111 (fun v18 ev18 b19 => ?_)
          replace ev18 : v18 = g17 111 2 := ev18
          replace b19 := (jbf_7_2 jo_111 _).1 b19
          have e20 : g17 111 2 = g 111 2 := ft16 111 2 (by unfold w_X7_swapTried; omega)
          have e21 : jw32 (v18 - 1) = v18 - 1 := jzj32 (by omega)
          have e22 : jw32 (x1 + 1) = x1 + 1 := jzj32 (by omega)
          show jGo E l 160 229 229 _ 92 [.inr (.inr (.inl 111)), .inl x1, .inl x2, .inl (jw32 (v18 - 1)), .inl (jw32 (x1 + 1))] [] 229 jr0 g17
          have q9 := congrFun (congrFun hx3 111) 2
          exact ih.2.2 x1 x2 (jw32 (v18 - 1)) (jw32 (x1 + 1)) g17 (by omega) (by rw [show jw32 (v18 - 1) = h 111 2 - 1 by omega, show jw32 (x1 + 1) = x1 + 1 by omega, show h 111 2 - 1 + 1 = h 111 2 by omega, show g17 175 = jsw x1 x2 (h 175) from funext (fun i => by rw [zt16 i, hx3])]; exact jnx3_i hx1 (by omega) (hx2.trans (jn2_e (T := h 175) (by omega) (fun q => by have q1 := q.1; have q2 := q.2; rw [← hx3] at q2; omega)))) fg17 (by omega)
        · replace c15 : jw32 (x1 + 1) < x2 := by first | exact c15 | exact Int.not_le.mp c15 | exact Int.not_lt.mp c15 | exact Decidable.not_not.mp c15
          refine st_gr jo_111 jr_111_8 ?_
          refine st_ai jo_175 (show 0 ≤ x2 by omega) (show x2 < ((5 : Nat) : Int) by omega) (fun v23 ev23 b24 => ?_)
          replace ev23 : v23 = g 175 x2 := ev23
          replace b24 := (jba_175 x2 _).1 b24
          refine st_gr jo_111 jr_111_8 ?_
          refine st_ai jo_175 (show 0 ≤ x1 by omega) (show x1 < ((5 : Nat) : Int) by omega) (fun v25 ev25 b26 => ?_)
          replace ev25 : v25 = g 175 x1 := ev25
          replace b26 := (jba_175 x1 _).1 b26
          refine And.intro (fun c27 => ?_) (fun c27 => ?_)
          · replace c27 : v25 ≤ v23 := c27
            show jGo E l 160 229 229 _ 74 [.inr (.inr (.inl 111)), .inl x1, .inl x2, .inr (.inr (.inr ())), .inr (.inr (.inr ()))] [] 229 jr0 g
            refine jGo_blk qX7_nextOrder_74 ?_
            refine st_cv (na := 2) (st := [.inl x2, .inl x1, .inr (.inr (.inl 111))]) jo_111 rfl rfl rfl (c_X7_swapTried x1 x2 g (by omega) (by omega)) rfl ?_
            rintro _ _ g29 ⟨rfl, ft28, rfl, zt28⟩ kt28
            have fg29 : jfr w_X7_nextOrder h g29 := jfr_tr hf ft28 ws_X7_swapTried__X7_nextOrder
            replace zt28 : ∀ i : Int, g29 175 i = jsw x1 x2 (g 175) i := zt28
            refine st_gi jo_111 (fun v30 ev30 b31 => ?_)
            replace ev30 : v30 = g29 111 2 := ev30
            replace b31 := (jbf_7_2 jo_111 _).1 b31
            have e32 : g29 111 2 = g 111 2 := ft28 111 2 (by unfold w_X7_swapTried; omega)
            have e33 : jw32 (v30 - 1) = v30 - 1 := jzj32 (by omega)
            have e34 : jw32 (x1 + 1) = x1 + 1 := jzj32 (by omega)
            show jGo E l 160 229 229 _ 92 [.inr (.inr (.inl 111)), .inl x1, .inl x2, .inl (jw32 (v30 - 1)), .inl (jw32 (x1 + 1))] [] 229 jr0 g29
            have q9 := congrFun (congrFun hx3 111) 2
            exact ih.2.2 x1 x2 (jw32 (v30 - 1)) (jw32 (x1 + 1)) g29 (by omega) (by rw [show jw32 (v30 - 1) = h 111 2 - 1 by omega, show jw32 (x1 + 1) = x1 + 1 by omega, show h 111 2 - 1 + 1 = h 111 2 by omega, show g29 175 = jsw x1 x2 (h 175) from funext (fun i => by rw [zt28 i, hx3])]; exact jnx3_i hx1 (by omega) (hx2.trans (jn2_e (T := h 175) (by omega) (fun q => by have q1 := q.1; have q2 := q.2; rw [← hx3] at q2; omega)))) fg29 (by omega)
          · replace c27 : v23 < v25 := by first | exact c27 | exact Int.not_le.mp c27 | exact Int.not_lt.mp c27 | exact Decidable.not_not.mp c27
            have e35 : jw32 (x2 + (-1)) = x2 + (-1) := jzj32 (by omega)
            show jGo E l 160 229 229 _ 46 [.inr (.inr (.inl 111)), .inl x1, .inl (jw32 (x2 + (-1))), .inr (.inr (.inr ())), .inr (.inr (.inr ()))] [] 229 jr0 g
            exact ih.2.1 x1 (jw32 (x2 + (-1))) g (by omega) (by omega) (by exact hx1) (by rw [show jw32 (x2 + (-1)) = x2 - 1 by omega]; exact hx2.trans (jn2_s (T := h 175) ⟨by omega, by rw [← hx3]; omega⟩)) (by exact hx3) hf (by omega)
      · intro x1 x2 x3 x4 g hi hx0 hf hN
        refine jGo_blk qX7_nextOrder_92 ?_
        refine And.intro (fun c36 => ?_) (fun c36 => ?_)
        · replace c36 : x3 ≤ x4 := c36
          show jGo E l 160 229 229 _ 114 [.inr (.inr (.inl 111)), .inl x1, .inl x2, .inl x3, .inl x4] [] 229 jr0 g
          refine jGo_blk qX7_nextOrder_114 ?_
          exact ⟨rfl, rfl, hf, rfl, (by exact fun i => by rw [hx0, jn3_e (by omega)])⟩
        · replace c36 : x4 < x3 := by first | exact c36 | exact Int.not_le.mp c36 | exact Int.not_lt.mp c36 | exact Decidable.not_not.mp c36
          refine st_cv (na := 2) (st := [.inl x3, .inl x4, .inr (.inr (.inl 111))]) jo_111 rfl rfl rfl (c_X7_swapTried x4 x3 g (by omega) (by omega)) rfl ?_
          rintro _ _ g38 ⟨rfl, ft37, rfl, zt37⟩ kt37
          have fg38 : jfr w_X7_nextOrder h g38 := jfr_tr hf ft37 ws_X7_swapTried__X7_nextOrder
          replace zt37 : ∀ i : Int, g38 175 i = jsw x4 x3 (g 175) i := zt37
          have e39 : jw32 (x3 + (-1)) = x3 + (-1) := jzj32 (by omega)
          have e40 : jw32 (x4 + 1) = x4 + 1 := jzj32 (by omega)
          show jGo E l 160 229 229 _ 92 [.inr (.inr (.inl 111)), .inl x1, .inl x2, .inl (jw32 (x3 + (-1))), .inl (jw32 (x4 + 1))] [] 229 jr0 g38
          exact ih.2.2 x1 x2 (jw32 (x3 + (-1))) (jw32 (x4 + 1)) g38 (by omega) (by rw [show jw32 (x3 + (-1)) = x3 - 1 by omega, show jw32 (x4 + 1) = x4 + 1 by omega, show g38 175 = jsw x4 x3 (g 175) from funext zt37]; exact hx0.trans (jn3_s (by omega) (by omega))) fg38 (by omega)
  refine jGo_blk qX7_nextOrder_0 ?_
  refine st_gi jo_111 (fun v41 ev41 b42 => ?_)
  replace ev41 : v41 = h 111 2 := ev41
  replace b42 := (jbf_7_2 jo_111 _).1 b42
  have e43 : jw32 (v41 - 2) = v41 - 2 := jzj32 (by omega)
  show jGo E l 160 229 229 _ 7 [.inr (.inr (.inl 111)), .inl (jw32 (v41 - 2)), .inr (.inr (.inr ())), .inr (.inr (.inr ())), .inr (.inr (.inr ()))] [] 229 jr0 h
  exact (key 1000000000000).1 (jw32 (v41 - 2)) h (by omega) (by omega) (by rw [show jw32 (v41 - 2) = h 111 2 - 2 by omega, show h 111 2 - 2 + 2 = h 111 2 by omega]) (by rfl) f0 (by omega)

def w_X7_findLeast_29 (i k : Int) : Prop := (i = 112) ∨ (120 ≤ i ∧ i ≤ 121) ∨ (124 ≤ i ∧ i ≤ 173) ∨ (i = 175) ∨ (i = 111 ∧ k = 0) ∨ (i = 111 ∧ k = 2) ∨ (i = 111 ∧ k = 11) ∨ (i = 119 ∧ 6 ≤ k ∧ k ≤ 10)
theorem ws_X7_tryOut_29_175__X7_findLeast_29 (i k : Int) (q : w_X7_tryOut_29_175 i k) : w_X7_findLeast_29 i k := by
  unfold w_X7_tryOut_29_175 at q; unfold w_X7_findLeast_29
  rcases q with q | q | q
  · exact (Or.inr (Or.inl (by omega)))
  · exact (Or.inr (Or.inr (Or.inl (by omega))))
  · exact (Or.inr (Or.inr (Or.inr (Or.inr (Or.inr (Or.inr (Or.inr (by omega))))))))
theorem ws_X7_nextOrder__X7_findLeast_29 (i k : Int) (q : w_X7_nextOrder i k) : w_X7_findLeast_29 i k := by
  unfold w_X7_nextOrder at q; unfold w_X7_findLeast_29
  exact (Or.inr (Or.inr (Or.inr (Or.inl (by omega)))))
theorem ws_X7_gatherByNumbers_29__X7_findLeast_29 (i k : Int) (q : w_X7_gatherByNumbers_29 i k) : w_X7_findLeast_29 i k := by
  unfold w_X7_gatherByNumbers_29 at q; unfold w_X7_findLeast_29
  rcases q with q | q
  · exact (Or.inr (Or.inr (Or.inr (Or.inl (by omega)))))
  · exact (Or.inr (Or.inr (Or.inr (Or.inr (Or.inr (Or.inl (by omega)))))))
def k_X7_findLeast_29 (h : JH) (v : Option JV) (r' g : JH) : Prop := r' = jr0 ∧ jfr w_X7_findLeast_29 h g ∧ v = none ∧ (¬ g 111 11 = 0 ∧ jFLp h g)
set_option maxHeartbeats 4000000 in
theorem c_X7_findLeast_29 {E : JE} {l : Launch} (h : JH) : jMt E l 161 [.inr (.inr (.inl 111)), .inr (.inr (.inl 29)), .inr (.inr (.inl 16))] 229 jr0 h (k_X7_findLeast_29 h) := by
  refine jMt0 (nL := 5) (ls := [.inr (.inr (.inl 111)), .inr (.inr (.inl 29)), .inr (.inr (.inl 16)), .inr (.inr (.inr ())), .inr (.inr (.inr ()))]) (by decide +kernel) (by decide +kernel) (by decide +kernel) rfl rfl ?_
  have f0 : jfr w_X7_findLeast_29 h h := jfr_rf _ _
  have key : ∀ N : Nat, (∀ (x3 : Int) (x4 : JV) (g : JH), (0 ≤ x3 ∧ x3 ≤ 120) → (jFX x3 h g) → jfr w_X7_findLeast_29 h g → (120 - x3) < (N : Int) → jGo E l 161 229 229 (jRK (k_X7_findLeast_29 h)) 21 [.inr (.inr (.inl 111)), .inr (.inr (.inl 29)), .inr (.inr (.inl 16)), .inl x3, x4] [] 229 jr0 g) := by
    intro N
    induction N with
    | zero => exact fun _ _ _ hi hx0 _ hN => absurd hN (by omega)
    | succ N ih =>
      intro x3 x4 g hi hx0 hf hN
      refine jGo_blk qX7_findLeast_21 ?_
      refine st_gi jo_111 (fun v1 ev1 b2 => ?_)
      replace ev1 : v1 = g 111 2 := ev1
      replace b2 := (jbf_7_2 jo_111 _).1 b2
      refine st_xi (by decide) jx_k7 (jx_l7 E) (show 0 ≤ v1 by omega) (show v1 < ((6 : Nat) : Int) by omega) (fun v3 ev3 => ?_)
      have bv3 : 1 ≤ v3 ∧ v3 ≤ 120 := by rw [ev3]; exact jx_w7 E v1 (by omega) (by omega)
      replace ev3 : v3 = jxv E (-7) v1 := ev3
      refine And.intro (fun c4 => ?_) (fun c4 => ?_)
      · replace c4 : v3 ≤ x3 := c4
        show jGo E l 161 229 229 _ 102 [.inr (.inr (.inl 111)), .inr (.inr (.inl 29)), .inr (.inr (.inl 16)), .inl x3, x4] [] 229 jr0 g
        refine jGo_blk qX7_findLeast_102 ?_
        refine st_pi jo_111 (fun hx => (jbf_7_11 jo_111 _).2 (show 0 ≤ 1 ∧ 1 ≤ 1 by omega)) (fun g5 eg5 => ?_)
        replace eg5 : g5 = jup g 111 11 1 := eg5
        have fg5 : jfr w_X7_findLeast_29 h g5 := jfr_up hf eg5 (by unfold w_X7_findLeast_29; omega)
        have e6 : g5 111 11 = 1 := jup_s eg5
        exact ⟨rfl, rfl, fg5, rfl, (by exact ⟨by rw [jup_s eg5]; decide, jFL_e hx0 (by omega) (Or.inl (by rw [← ev1, ← jx_d7 E (k := v1) (by omega) (by omega), ← ev3]; omega)) eg5⟩)⟩
      · replace c4 : x3 < v3 := by first | exact c4 | exact Int.not_le.mp c4 | exact Int.not_lt.mp c4 | exact Decidable.not_not.mp c4
        refine st_gi jo_111 (fun v7 ev7 b8 => ?_)
        replace ev7 : v7 = g 111 0 := ev7
        replace b8 := (jbf_7_0 jo_111 _).1 b8
        refine And.intro (fun c9 => ?_) (fun c9 => ?_)
        · replace c9 : v7 ≤ 0 := c9
          show jGo E l 161 229 229 _ 102 [.inr (.inr (.inl 111)), .inr (.inr (.inl 29)), .inr (.inr (.inl 16)), .inl x3, x4] [] 229 jr0 g
          refine jGo_blk qX7_findLeast_102 ?_
          refine st_pi jo_111 (fun hx => (jbf_7_11 jo_111 _).2 (show 0 ≤ 1 ∧ 1 ≤ 1 by omega)) (fun g10 eg10 => ?_)
          replace eg10 : g10 = jup g 111 11 1 := eg10
          have fg10 : jfr w_X7_findLeast_29 h g10 := jfr_up hf eg10 (by unfold w_X7_findLeast_29; omega)
          have e11 : g10 111 11 = 1 := jup_s eg10
          exact ⟨rfl, rfl, fg10, rfl, (by exact ⟨by rw [jup_s eg10]; decide, jFL_e hx0 (by omega) (Or.inr (by omega)) eg10⟩)⟩
        · replace c9 : 0 < v7 := by first | exact c9 | exact Int.not_le.mp c9 | exact Int.not_lt.mp c9 | exact Decidable.not_not.mp c9
          refine st_gr jo_111 jr_111_8 ?_
          refine st_gi jo_111 (fun v12 ev12 b13 => ?_)
          replace ev12 : v12 = g 111 2 := ev12
          replace b13 := (jbf_7_2 jo_111 _).1 b13
          refine st_cv (na := 4) (st := [.inr (.inr (.inl 16)), .inl v12, .inr (.inr (.inl 175)), .inr (.inr (.inl 29)), .inr (.inr (.inl 111))]) jo_111 rfl rfl rfl (c_X7_tryOut_29_175 v12 g (by omega)) rfl ?_
          rintro _ _ g15 ⟨rfl, ft14, rfl, zt14⟩ kt14
          have fg15 : jfr w_X7_findLeast_29 h g15 := jfr_tr hf ft14 ws_X7_tryOut_29_175__X7_findLeast_29
          replace zt14 : ∀ (D : Int → Prop) (hm : JH), jTq 175 v12 D g hm → ∀ i : Int, 0 ≤ i → i < v12 → g15 (126 + 3 * g 175 i) 9 = jit jmPi 300 hm 198 (g 175 i) ∧ g15 (126 + 3 * g 175 i) 2 = g (36 + 3 * g 175 i) 2 := zt14
          refine st_cv (na := 0) (st := [.inr (.inr (.inl 111))]) jo_111 rfl rfl rfl (c_X7_sumOfLate g15) rfl ?_
          rintro _ _ _ ⟨rfl, rfl, t16, rfl, ht16, zt16⟩ kt16
          replace kt16 : -2147483648 ≤ t16 ∧ t16 ≤ 2147483647 := kt16
          replace zt16 : t16 = jsc3 g15 (g15 111 2).toNat ∧ jsB g15 := zt16
          refine st_gi jo_111 (fun v18 ev18 b19 => ?_)
          replace ev18 : v18 = g15 111 0 := ev18
          replace b19 := (jbf_7_0 jo_111 _).1 b19
          have e20 : g15 111 0 = g 111 0 := ft14 111 0 (by unfold w_X7_tryOut_29_175; omega)
          refine And.intro (fun c21 => ?_) (fun c21 => ?_)
          · replace c21 : v18 ≤ t16 := c21
            show jGo E l 161 229 229 _ 92 [.inr (.inr (.inl 111)), .inr (.inr (.inl 29)), .inr (.inr (.inl 16)), .inl x3, .inl t16] [] 229 jr0 g15
            refine jGo_blk qX7_findLeast_92 ?_
            refine st_cv (na := 0) (st := [.inr (.inr (.inl 111))]) jo_111 rfl rfl rfl (c_X7_nextOrder g15) rfl ?_
            rintro _ _ g23 ⟨rfl, ft22, rfl, zt22⟩ kt22
            have fg23 : jfr w_X7_findLeast_29 h g23 := jfr_tr fg15 ft22 ws_X7_nextOrder__X7_findLeast_29
            replace zt22 : ∀ i : Int, g23 175 i = jnx3 (g15 111 2) (g15 175) i := zt22
            have e24 : jw32 (x3 + 1) = x3 + 1 := jzj32 (by omega)
            show jGo E l 161 229 229 _ 21 [.inr (.inr (.inl 111)), .inr (.inr (.inl 29)), .inr (.inr (.inl 16)), .inl (jw32 (x3 + 1)), .inl t16] [] 229 jr0 g23
            have hc25 : jFX (jw32 (x3 + 1)) h g23 := by
              rw [show jw32 (x3 + 1) = x3 + 1 by omega]
              refine jFX_s (g1 := g15) (g2 := g15) (t := t16) hx0 (by omega) (by rw [← ev1, ← jx_d7 E (k := v1) (by omega) (by omega), ← ev3]; omega) (fun i k q => hf i k (by unfold w_X7_findLeast_29; unfold jwk at q; omega)) (by rw [← ev12]; exact zt14) (fun i k q => ft14 i k (by unfold w_X7_tryOut_29_175; omega)) zt16.1 zt16.2 ?_ zt22 (fun i k q => ft22 i k (by unfold w_X7_nextOrder; omega))
              exact Or.inl ⟨by omega, rfl⟩
            exact ih (jw32 (x3 + 1)) (.inl t16) g23 (by omega) (by exact hc25) fg23 (by omega)
          · replace c21 : t16 < v18 := by first | exact c21 | exact Int.not_le.mp c21 | exact Int.not_lt.mp c21 | exact Decidable.not_not.mp c21
            refine st_pi jo_111 (fun hx => (jbf_7_0 jo_111 _).2 hx) (fun g26 eg26 => ?_)
            replace eg26 : g26 = jup g15 111 0 t16 := eg26
            have fg26 : jfr w_X7_findLeast_29 h g26 := jfr_up fg15 eg26 (by unfold w_X7_findLeast_29; omega)
            have e27 : g26 111 0 = t16 := jup_s eg26
            refine st_gr jo_111 jr_111_8 ?_
            refine st_gr jo_111 jr_111_1 ?_
            refine st_gi jo_111 (fun v28 ev28 b29 => ?_)
            replace ev28 : v28 = g26 111 2 := ev28
            replace b29 := (jbf_7_2 jo_111 _).1 b29
            have e30 : g26 111 2 = g15 111 2 := jup_o eg26 (by first | exact fun q => absurd q.1 (by decide) | exact fun q => absurd q.2 (by decide) | omega)
            have e31 : g15 111 2 = g 111 2 := ft14 111 2 (by unfold w_X7_tryOut_29_175; omega)
            refine st_cp jo_112 jo_175 (show 0 ≤ 0 by omega) (show 0 ≤ 0 by omega) (show 0 ≤ v28 by omega) (show 0 + v28 ≤ ((5 : Nat) : Int) by omega) (show 0 + v28 ≤ ((5 : Nat) : Int) by omega) rfl (fun hg j _ _ => (jba_112 _ _).2 ((jba_175 _ _).1 (hg _ _))) (fun g32 eg32 => ?_)
            replace eg32 : g32 = jcp g26 175 0 112 0 v28 := eg32
            have fg32 : jfr w_X7_findLeast_29 h g32 := jfr_cp fg26 eg32 (fun _ => by unfold w_X7_findLeast_29; omega)
            show jGo E l 161 229 229 _ 92 [.inr (.inr (.inl 111)), .inr (.inr (.inl 29)), .inr (.inr (.inl 16)), .inl x3, .inl t16] [] 229 jr0 g32
            refine jGo_blk qX7_findLeast_92 ?_
            refine st_cv (na := 0) (st := [.inr (.inr (.inl 111))]) jo_111 rfl rfl rfl (c_X7_nextOrder g32) rfl ?_
            rintro _ _ g34 ⟨rfl, ft33, rfl, zt33⟩ kt33
            have fg34 : jfr w_X7_findLeast_29 h g34 := jfr_tr fg32 ft33 ws_X7_nextOrder__X7_findLeast_29
            replace zt33 : ∀ i : Int, g34 175 i = jnx3 (g32 111 2) (g32 175) i := zt33
            have e35 : jw32 (x3 + 1) = x3 + 1 := jzj32 (by omega)
            show jGo E l 161 229 229 _ 21 [.inr (.inr (.inl 111)), .inr (.inr (.inl 29)), .inr (.inr (.inl 16)), .inl (jw32 (x3 + 1)), .inl t16] [] 229 jr0 g34
            have hc36 : jFX (jw32 (x3 + 1)) h g34 := by
              rw [show jw32 (x3 + 1) = x3 + 1 by omega]
              refine jFX_s (g1 := g15) (g2 := g32) (t := t16) hx0 (by omega) (by rw [← ev1, ← jx_d7 E (k := v1) (by omega) (by omega), ← ev3]; omega) (fun i k q => hf i k (by unfold w_X7_findLeast_29; unfold jwk at q; omega)) (by rw [← ev12]; exact zt14) (fun i k q => ft14 i k (by unfold w_X7_tryOut_29_175; omega)) zt16.1 zt16.2 ?_ zt33 (fun i k q => ft33 i k (by unfold w_X7_nextOrder; omega))
              refine Or.inr ⟨by omega, (jcp_o eg32 (by omega)).trans (jup_s eg26), fun i p1 p2 => ?_, (jcp_o eg32 (by omega)).trans (jup_o eg26 (by first | exact fun q => absurd q.1 (by decide) | exact fun q => absurd q.2 (by decide) | omega)), fun i => (jcp_o eg32 (by omega)).trans (jup_o eg26 (by first | exact fun q => absurd q.1 (by decide) | exact fun q => absurd q.2 (by decide) | omega))⟩
              rw [jcp_s eg32 p1 (by omega), show 0 + (i - 0) = i by omega, jup_o eg26 (by first | exact fun q => absurd q.1 (by decide) | exact fun q => absurd q.2 (by decide) | omega)]
            exact ih (jw32 (x3 + 1)) (.inl t16) g34 (by omega) (by exact hc36) fg34 (by omega)
  refine jGo_blk qX7_findLeast_0 ?_
  refine st_gi jo_111 (fun v37 ev37 b38 => ?_)
  replace ev37 : v37 = h 111 11 := ev37
  replace b38 := (jbf_7_11 jo_111 _).1 b38
  refine And.intro (fun c39 => ?_) (fun c39 => ?_)
  · replace c39 : v37 = 0 := c39
    show jGo E l 161 229 229 _ 8 [.inr (.inr (.inl 111)), .inr (.inr (.inl 29)), .inr (.inr (.inl 16)), .inr (.inr (.inr ())), .inr (.inr (.inr ()))] [] 229 jr0 h
    refine jGo_blk qX7_findLeast_8 ?_
    refine st_cv (na := 1) (st := [.inr (.inr (.inl 29)), .inr (.inr (.inl 111))]) jo_111 rfl rfl rfl (c_X7_gatherByNumbers_29 h) rfl ?_
    rintro _ _ g41 ⟨rfl, ft40, rfl, zt40⟩ kt40
    have fg41 : jfr w_X7_findLeast_29 h g41 := jfr_tr f0 ft40 ws_X7_gatherByNumbers_29__X7_findLeast_29
    replace zt40 : jGaP h g41 := zt40
    refine st_pi jo_111 (fun hx => (jbf_7_0 jo_111 _).2 hx) (fun g42 eg42 => ?_)
    replace eg42 : g42 = jup g41 111 0 1000000 := eg42
    have fg42 : jfr w_X7_findLeast_29 h g42 := jfr_up fg41 eg42 (by unfold w_X7_findLeast_29; omega)
    have e43 : g42 111 0 = 1000000 := jup_s eg42
    show jGo E l 161 229 229 _ 21 [.inr (.inr (.inl 111)), .inr (.inr (.inl 29)), .inr (.inr (.inl 16)), .inl 0, .inr (.inr (.inr ()))] [] 229 jr0 g42
    exact (key 1000000000000) 0 (.inr (.inr (.inr ()))) g42 (by omega) (by exact jFX_0 zt40 eg42) fg42 (by omega)
  · replace c39 : ¬ v37 = 0 := by first | exact c39 | exact Int.not_le.mp c39 | exact Int.not_lt.mp c39 | exact Decidable.not_not.mp c39
    exact ⟨rfl, rfl, f0, rfl, (by exact ⟨by omega, fun hm _ _ _ _ q => q⟩)⟩

def w_X11_findOrder (i k : Int) : Prop := (i = 15) ∨ (i = 112) ∨ (114 ≤ i ∧ i ≤ 118) ∨ (120 ≤ i ∧ i ≤ 121) ∨ (124 ≤ i ∧ i ≤ 173) ∨ (i = 175) ∨ (i = 11 ∧ k = 5) ∨ (i = 111 ∧ k = 0) ∨ (i = 111 ∧ 2 ≤ k ∧ k ≤ 3) ∨ (i = 111 ∧ k = 9) ∨ (i = 111 ∧ k = 11) ∨ (i = 119 ∧ 6 ≤ k ∧ k ≤ 10)
theorem ws_X7_standAt__X11_findOrder (i k : Int) (q : w_X7_standAt i k) : w_X11_findOrder i k := by
  unfold w_X7_standAt at q; unfold w_X11_findOrder
  rcases q with q | q | q | q | q
  · exact (Or.inl (by omega))
  · exact (Or.inr (Or.inr (Or.inl (by omega))))
  · exact (Or.inr (Or.inr (Or.inr (Or.inr (Or.inr (Or.inr (Or.inl (by omega))))))))
  · exact (Or.inr (Or.inr (Or.inr (Or.inr (Or.inr (Or.inr (Or.inr (Or.inr (Or.inl (by omega))))))))))
  · exact (Or.inr (Or.inr (Or.inr (Or.inr (Or.inr (Or.inr (Or.inr (Or.inr (Or.inr (Or.inl (by omega)))))))))))
theorem ws_X7_findLeast_29__X11_findOrder (i k : Int) (q : w_X7_findLeast_29 i k) : w_X11_findOrder i k := by
  unfold w_X7_findLeast_29 at q; unfold w_X11_findOrder
  rcases q with q | q | q | q | q | q | q | q
  · exact (Or.inr (Or.inl (by omega)))
  · exact (Or.inr (Or.inr (Or.inr (Or.inl (by omega)))))
  · exact (Or.inr (Or.inr (Or.inr (Or.inr (Or.inl (by omega))))))
  · exact (Or.inr (Or.inr (Or.inr (Or.inr (Or.inr (Or.inl (by omega)))))))
  · exact (Or.inr (Or.inr (Or.inr (Or.inr (Or.inr (Or.inr (Or.inr (Or.inl (by omega)))))))))
  · exact (Or.inr (Or.inr (Or.inr (Or.inr (Or.inr (Or.inr (Or.inr (Or.inr (Or.inl (by omega))))))))))
  · exact (Or.inr (Or.inr (Or.inr (Or.inr (Or.inr (Or.inr (Or.inr (Or.inr (Or.inr (Or.inr (Or.inl (by omega))))))))))))
  · exact (Or.inr (Or.inr (Or.inr (Or.inr (Or.inr (Or.inr (Or.inr (Or.inr (Or.inr (Or.inr (Or.inr (by omega))))))))))))
def k_X11_findOrder (h : JH) (v : Option JV) (r' g : JH) : Prop := r' = jr0 ∧ jfr w_X11_findOrder h g ∧ ∃ x : Int, v = some (.inl x) ∧ (0 ≤ x ∧ x ≤ 1) ∧ (((x = 0 ∧ 5 < (jull (jcS h) (h 29 4).toNat).length) ∨ (x = 1 ∧ (jull (jcS h) (h 29 4).toNat).length ≤ 5 ∧ ¬ g 111 11 = 0 ∧ ¬ g 111 9 = 0)) ∧ jAP h g)
set_option maxHeartbeats 4000000 in
theorem c_X11_findOrder {E : JE} {l : Launch} (h : JH) : jMt E l 162 [.inr (.inr (.inl 0))] 229 jr0 h (k_X11_findOrder h) := by
  refine jMt0 (nL := 1) (ls := [.inr (.inr (.inl 0))]) (by decide +kernel) (by decide +kernel) (by decide +kernel) rfl rfl ?_
  have f0 : jfr w_X11_findOrder h h := jfr_rf _ _
  refine jGo_blk qX11_findOrder_0 ?_
  refine st_gr jo_0 jr_0_5 ?_
  refine st_cv (na := 1) (st := [.inl 0, .inr (.inr (.inl 29))]) jo_29 rfl rfl rfl (c_X10_countOf_29 0 h) rfl ?_
  rintro _ _ _ ⟨rfl, rfl, t1, rfl, ht1, zt1⟩ kt1
  replace kt1 : -2147483648 ≤ t1 ∧ t1 ≤ 2147483647 := kt1
  replace zt1 : (t1 = jct (jcS h) (0 : Int) (h 29 4).toNat) ∧ 0 ≤ t1 ∧ t1 ≤ 16 := zt1
  refine st_gr jo_0 jr_0_5 ?_
  refine st_cv (na := 1) (st := [.inl 1, .inr (.inr (.inl 29)), .inl t1]) jo_29 rfl rfl rfl (c_X10_countOf_29 1 h) rfl ?_
  rintro _ _ _ ⟨rfl, rfl, t3, rfl, ht3, zt3⟩ kt3
  replace kt3 : -2147483648 ≤ t3 ∧ t3 ≤ 2147483647 := kt3
  replace zt3 : (t3 = jct (jcS h) (1 : Int) (h 29 4).toNat) ∧ 0 ≤ t3 ∧ t3 ≤ 16 := zt3
  refine And.intro (fun c5 => ?_) (fun c5 => ?_)
  · replace c5 : jw32 (t1 + t3) ≤ 5 := c5
    show jGo E l 162 229 229 _ 23 [.inr (.inr (.inl 0))] [] 229 jr0 h
    refine jGo_blk qX11_findOrder_23 ?_
    refine st_gr jo_0 jr_0_11 ?_
    refine st_gi jo_0 (fun v6 ev6 b7 => ?_)
    replace ev6 : v6 = h 0 0 := ev6
    replace b7 := (jbf_11_0 jo_0 _).1 b7
    refine st_gr jo_0 jr_0_2 ?_
    refine st_gr jo_0 jr_0_3 ?_
    refine st_cv (na := 3) (st := [.inr (.inr (.inl 11)), .inr (.inr (.inl 2)), .inl v6, .inr (.inr (.inl 111))]) jo_111 rfl rfl rfl (c_X7_standAt v6 h (by omega)) rfl ?_
    rintro _ _ g9 ⟨rfl, ft8, rfl, zt8⟩ kt8
    have fg9 : jfr w_X11_findOrder h g9 := jfr_tr f0 ft8 ws_X7_standAt__X11_findOrder
    replace zt8 : jSAp v6 h g9 := zt8
    refine st_gr jo_0 jr_0_11 ?_
    refine st_gr jo_0 jr_0_5 ?_
    refine st_gr jo_0 jr_0_4 ?_
    refine st_cv (na := 2) (st := [.inr (.inr (.inl 16)), .inr (.inr (.inl 29)), .inr (.inr (.inl 111))]) jo_111 rfl rfl rfl (c_X7_findLeast_29 g9) rfl ?_
    rintro _ _ g11 ⟨rfl, ft10, rfl, zt10⟩ kt10
    have fg11 : jfr w_X11_findOrder h g11 := jfr_tr fg9 ft10 ws_X7_findLeast_29__X11_findOrder
    replace zt10 : ¬ g11 111 11 = 0 ∧ jFLp g9 g11 := zt10
    have q9 := jct_l (S := jcS h) (h 29 4).toNat; rw [← zt1.1, ← zt3.1] at q9
    have j9 : jw32 (t1 + t3) = t1 + t3 := j32e (by have a := zt1.2; have b := zt3.2; omega) (by have a := zt1.2; have b := zt3.2; omega)
    exact st_r1 (ls := []) (show (1 : Int) = 0 ∨ (1 : Int) = 1 by omega) ⟨rfl, rfl, fg11, 1, rfl, (by omega), (by exact ⟨Or.inr ⟨by omega, by omega, zt10.1, by rw [ft10 111 9 (by unfold w_X7_findLeast_29; omega)]; exact jSA_9 zt8⟩, jFO_ap zt8 (by omega) (fun i k q => ft8 i k (by unfold w_X7_standAt; unfold jwk at q; omega)) zt10.2 (fun i k q => ft10 i k (by unfold w_X7_findLeast_29; omega))⟩)⟩
  · replace c5 : 5 < jw32 (t1 + t3) := by first | exact c5 | exact Int.not_le.mp c5 | exact Int.not_lt.mp c5 | exact Decidable.not_not.mp c5
    have q9 := jct_l (S := jcS h) (h 29 4).toNat; rw [← zt1.1, ← zt3.1] at q9
    have j9 : jw32 (t1 + t3) = t1 + t3 := j32e (by have a := zt1.2; have b := zt3.2; omega) (by have a := zt1.2; have b := zt3.2; omega)
    exact st_r1 (ls := []) (show (0 : Int) = 0 ∨ (0 : Int) = 1 by omega) ⟨rfl, rfl, f0, 0, rfl, (by omega), (by exact ⟨Or.inl ⟨by omega, by omega⟩, jAP_fr (fun i k q => by unfold jwh3 at q; exact rfl)⟩)⟩

def w_X11_least (i k : Int) : Prop := (i = 1) ∨ (i = 15) ∨ (i = 112) ∨ (114 ≤ i ∧ i ≤ 118) ∨ (120 ≤ i ∧ i ≤ 121) ∨ (124 ≤ i ∧ i ≤ 173) ∨ (i = 175) ∨ (i = 11 ∧ k = 5) ∨ (i = 111 ∧ k = 0) ∨ (i = 111 ∧ 2 ≤ k ∧ k ≤ 3) ∨ (i = 111 ∧ k = 9) ∨ (i = 111 ∧ k = 11) ∨ (i = 119 ∧ 6 ≤ k ∧ k ≤ 10)
theorem ws_X11_findOrder__X11_least (i k : Int) (q : w_X11_findOrder i k) : w_X11_least i k := by
  unfold w_X11_findOrder at q; unfold w_X11_least
  rcases q with q | q | q | q | q | q | q | q | q | q | q | q
  · exact (Or.inr (Or.inl (by omega)))
  · exact (Or.inr (Or.inr (Or.inl (by omega))))
  · exact (Or.inr (Or.inr (Or.inr (Or.inl (by omega)))))
  · exact (Or.inr (Or.inr (Or.inr (Or.inr (Or.inl (by omega))))))
  · exact (Or.inr (Or.inr (Or.inr (Or.inr (Or.inr (Or.inl (by omega)))))))
  · exact (Or.inr (Or.inr (Or.inr (Or.inr (Or.inr (Or.inr (Or.inl (by omega))))))))
  · exact (Or.inr (Or.inr (Or.inr (Or.inr (Or.inr (Or.inr (Or.inr (Or.inl (by omega)))))))))
  · exact (Or.inr (Or.inr (Or.inr (Or.inr (Or.inr (Or.inr (Or.inr (Or.inr (Or.inl (by omega))))))))))
  · exact (Or.inr (Or.inr (Or.inr (Or.inr (Or.inr (Or.inr (Or.inr (Or.inr (Or.inr (Or.inl (by omega)))))))))))
  · exact (Or.inr (Or.inr (Or.inr (Or.inr (Or.inr (Or.inr (Or.inr (Or.inr (Or.inr (Or.inr (Or.inl (by omega))))))))))))
  · exact (Or.inr (Or.inr (Or.inr (Or.inr (Or.inr (Or.inr (Or.inr (Or.inr (Or.inr (Or.inr (Or.inr (Or.inl (by omega)))))))))))))
  · exact (Or.inr (Or.inr (Or.inr (Or.inr (Or.inr (Or.inr (Or.inr (Or.inr (Or.inr (Or.inr (Or.inr (Or.inr (by omega)))))))))))))
theorem ws_X11_refused__X11_least (i k : Int) (q : w_X11_refused i k) : w_X11_least i k := by
  unfold w_X11_refused at q; unfold w_X11_least
  exact (Or.inl (by omega))
def k_X11_least (h : JH) (v : Option JV) (r' g : JH) : Prop := r' = jr0 ∧ jfr w_X11_least h g ∧ ∃ x : Int, v = some (.inl x) ∧ (True) ∧ (((x = -3 ∧ 5 < (jull (jcS h) (h 29 4).toNat).length) ∨ ((jull (jcS h) (h 29 4).toNat).length ≤ 5 ∧ ¬ g 111 11 = 0 ∧ ¬ g 111 9 = 0 ∧ x = g 111 0)) ∧ jAP h g)
set_option maxHeartbeats 4000000 in
theorem c_X11_least {E : JE} {l : Launch} (h : JH) : jMt E l 163 [.inr (.inr (.inl 0))] 229 jr0 h (k_X11_least h) := by
  refine jMt0 (nL := 1) (ls := [.inr (.inr (.inl 0))]) (by decide +kernel) (by decide +kernel) (by decide +kernel) rfl rfl ?_
  have f0 : jfr w_X11_least h h := jfr_rf _ _
  refine jGo_blk qX11_least_0 ?_
  refine st_cv (na := 0) (st := [.inr (.inr (.inl 0))]) jo_0 rfl rfl rfl (c_X11_findOrder h) rfl ?_
  rintro _ _ g2 ⟨rfl, ft1, t1, rfl, ht1, zt1⟩ kt1
  replace kt1 : -2147483648 ≤ t1 ∧ t1 ≤ 2147483647 := kt1
  replace ht1 : 0 ≤ t1 ∧ t1 ≤ 1 := ht1
  have fg2 : jfr w_X11_least h g2 := jfr_tr f0 ft1 ws_X11_findOrder__X11_least
  replace zt1 : ((t1 = 0 ∧ 5 < (jull (jcS h) (h 29 4).toNat).length) ∨ (t1 = 1 ∧ (jull (jcS h) (h 29 4).toNat).length ≤ 5 ∧ ¬ g2 111 11 = 0 ∧ ¬ g2 111 9 = 0)) ∧ jAP h g2 := zt1
  refine And.intro (fun c3 => ?_) (fun c3 => ?_)
  · replace c3 : ¬ t1 = 0 := c3
    show jGo E l 163 229 229 _ 14 [.inr (.inr (.inl 0))] [] 229 jr0 g2
    refine jGo_blk qX11_least_14 ?_
    refine st_gr jo_0 jr_0_11 ?_
    refine st_gi jo_111 (fun v4 ev4 b5 => ?_)
    replace ev4 : v4 = g2 111 0 := ev4
    replace b5 := (jbf_7_0 jo_111 _).1 b5
    exact st_r0 (ls := []) ⟨rfl, rfl, fg2, v4, rfl, trivial, (by refine ⟨Or.inr ⟨by omega, by omega, by omega, by omega⟩, zt1.2⟩)⟩
  · replace c3 : t1 = 0 := by first | exact c3 | exact Int.not_le.mp c3 | exact Int.not_lt.mp c3 | exact Decidable.not_not.mp c3
    refine st_cv (na := 1) (st := [.inl (-3), .inr (.inr (.inl 0))]) jo_0 rfl rfl rfl (c_X11_refused (-3) g2 (by omega)) rfl ?_
    rintro _ _ g7 ⟨rfl, ft6, t6, rfl, ht6, zt6⟩ kt6
    replace kt6 : -2147483648 ≤ t6 ∧ t6 ≤ 2147483647 := kt6
    replace ht6 : -7 ≤ t6 ∧ t6 ≤ -1 := ht6
    have fg7 : jfr w_X11_least h g7 := jfr_tr fg2 ft6 ws_X11_refused__X11_least
    replace zt6 : t6 = (-3 : Int) := zt6
    exact st_r0 (ls := []) ⟨rfl, rfl, fg7, t6, rfl, trivial, (by exact ⟨Or.inl ⟨by omega, by omega⟩, fun hm S q => jHH_fr (fun i k w => by unfold jwh3 at w; exact (ft6 i k (by unfold w_X11_refused; omega))) (zt1.2 hm S q)⟩)⟩
