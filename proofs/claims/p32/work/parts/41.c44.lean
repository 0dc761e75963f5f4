def k_X10_countOf_29 (a1 : Int) (h : JH) (v : Option JV) (r' g : JH) : Prop := r' = jr0 ∧ h = g ∧ ∃ x : Int, v = some (.inl x) ∧ (True) ∧ ((x = jct (jcS h) a1 (h 29 4).toNat) ∧ 0 ≤ x ∧ x ≤ 16)
set_option maxHeartbeats 4000000 in
theorem c_X10_countOf_29 {E : JE} {l : Launch} (a1 : Int) (h : JH) : jMt E l 156 [.inr (.inr (.inl 29)), .inl a1] 229 jr0 h (k_X10_countOf_29 a1 h) := by
  refine jMt0 (nL := 4) (ls := [.inr (.inr (.inl 29)), .inl a1, .inr (.inr (.inr ())), .inr (.inr (.inr ()))]) (by decide +kernel) (by decide +kernel) (by decide +kernel) rfl rfl ?_
  have key : ∀ N : Nat, (∀ (x2 : Int) (x3 : Int), (0 ≤ x3 ∧ x3 ≤ 16) → (x2 = jct (jcS h) a1 (x3).toNat) → (0 ≤ x2 ∧ x2 ≤ x3 ∧ (x3 = 0 ∨ x3 ≤ h 29 4)) → (16 - x3) < (N : Int) → jGo E l 156 229 229 (jRK (k_X10_countOf_29 a1 h)) 4 [.inr (.inr (.inl 29)), .inl a1, .inl x2, .inl x3] [] 229 jr0 h) := by
    intro N
    induction N with
    | zero => exact fun _ _ hi hx0 hx1 hN => absurd hN (by omega)
    | succ N ih =>
      intro x2 x3 hi hx0 hx1 hN
      refine jGo_ok (fun hls _ => ?_)
      have rx2 : -2147483648 ≤ x2 ∧ x2 ≤ 2147483647 := hls (.inl x2) (by simp)
      refine jGo_blk qX10_countOf_4 ?_
      refine st_gi jo_29 (fun v1 ev1 b2 => ?_)
      replace ev1 : v1 = h 29 4 := ev1
      replace b2 := (jbf_10_4 jo_29 _).1 b2
      refine And.intro (fun c3 => ?_) (fun c3 => ?_)
      · replace c3 : v1 ≤ x3 := c3
        show jGo E l 156 229 229 _ 34 [.inr (.inr (.inl 29)), .inl a1, .inl x2, .inl x3] [] 229 jr0 h
        refine jGo_blk qX10_countOf_34 ?_
        exact st_r0 (ls := []) ⟨rfl, rfl, rfl, x2, rfl, trivial, (by refine ⟨by rw [show h 29 4 = x3 by omega]; exact hx0, by omega, by omega⟩)⟩
      · replace c3 : x3 < v1 := by first | exact c3 | exact Int.not_le.mp c3 | exact Int.not_lt.mp c3 | exact Decidable.not_not.mp c3
        refine st_gr jo_29 jr_29_3 ?_
        refine st_ar jo_33 (by decide) (show 0 ≤ x3 by omega) (show x3 < ((16 : Nat) : Int) by omega) (fun u4 eu4 => ?_)
        replace eu4 : u4 = jr0 33 x3 := eu4
        have qu4 : u4 = 36 + 3 * x3 := eu4.trans (jhul_33 x3 (by omega) (by omega)).1
        have hu4 : jHl u4 := by rw [eu4]; exact (jhul_33 x3 (by omega) (by omega)).2
        refine st_gi hu4.1 (fun v5 ev5 b6 => ?_)
        replace ev5 : v5 = h u4 3 := ev5
        replace b6 := (jbf_4_3 hu4.1 _).1 b6
        refine And.intro (fun c7 => ?_) (fun c7 => ?_)
        · replace c7 : ¬ v5 = a1 := c7
          show jGo E l 156 229 229 _ 28 [.inr (.inr (.inl 29)), .inl a1, .inl x2, .inl x3] [] 229 jr0 h
          refine jGo_blk qX10_countOf_28 ?_
          have e8 : jw32 (x3 + 1) = x3 + 1 := j32e (by omega) (by omega)
          show jGo E l 156 229 229 _ 4 [.inr (.inr (.inl 29)), .inl a1, .inl x2, .inl (jw32 (x3 + 1))] [] 229 jr0 h
          exact ih x2 (jw32 (x3 + 1)) (by omega) (by rw [show jw32 (x3 + 1) = x3 + 1 by omega, jct_s (by omega), if_neg (by unfold jcS; rw [show 36 + 3 * x3 = u4 by omega]; omega)]; exact hx0) (by omega) (by omega)
        · replace c7 : v5 = a1 := by first | exact c7 | exact Int.not_le.mp c7 | exact Int.not_lt.mp c7 | exact Decidable.not_not.mp c7
          show jGo E l 156 229 229 _ 28 [.inr (.inr (.inl 29)), .inl a1, .inl (jw32 (x2 + 1)), .inl x3] [] 229 jr0 h
          refine jGo_blk qX10_countOf_28 ?_
          have e9 : jw32 (x3 + 1) = x3 + 1 := j32e (by omega) (by omega)
          show jGo E l 156 229 229 _ 4 [.inr (.inr (.inl 29)), .inl a1, .inl (jw32 (x2 + 1)), .inl (jw32 (x3 + 1))] [] 229 jr0 h
          exact ih (jw32 (x2 + 1)) (jw32 (x3 + 1)) (by omega) (by have j9 : jw32 (x2 + 1) = x2 + 1 := j32e (by omega) (by omega); rw [show jw32 (x3 + 1) = x3 + 1 by omega, jct_s (by omega), if_pos (by unfold jcS; rw [show 36 + 3 * x3 = u4 by omega]; omega)]; omega) (by have j9 : jw32 (x2 + 1) = x2 + 1 := j32e (by omega) (by omega); omega) (by omega)
  refine jGo_blk qX10_countOf_0 ?_
  show jGo E l 156 229 229 _ 4 [.inr (.inr (.inl 29)), .inl a1, .inl 0, .inl 0] [] 229 jr0 h
  exact (key 1000000000000) 0 0 (by omega) (by rfl) (by omega) (by omega)

def w_X7_gatherByNumbers_29 (i k : Int) : Prop := (i = 175) ∨ (i = 111 ∧ k = 2)
def k_X7_gatherByNumbers_29 (h : JH) (v : Option JV) (r' g : JH) : Prop := r' = jr0 ∧ jfr w_X7_gatherByNumbers_29 h g ∧ v = none ∧ (jGaP h g)
set_option maxHeartbeats 4000000 in
theorem c_X7_gatherByNumbers_29 {E : JE} {l : Launch} (h : JH) : jMt E l 157 [.inr (.inr (.inl 111)), .inr (.inr (.inl 29))] 229 jr0 h (k_X7_gatherByNumbers_29 h) := by
  refine jMt0 (nL := 3) (ls := [.inr (.inr (.inl 111)), .inr (.inr (.inl 29)), .inr (.inr (.inr ()))]) (by decide +kernel) (by decide +kernel) (by decide +kernel) rfl rfl ?_
  have f0 : jfr w_X7_gatherByNumbers_29 h h := jfr_rf _ _
  have key : ∀ N : Nat, (∀ (x2 : Int) (g : JH), (0 ≤ x2 ∧ x2 ≤ 16) → (jGa x2 h g) → (x2 = 0 ∨ x2 ≤ h 29 4) → jfr w_X7_gatherByNumbers_29 h g → (16 - x2) < (N : Int) → jGo E l 157 229 229 (jRK (k_X7_gatherByNumbers_29 h)) 7 [.inr (.inr (.inl 111)), .inr (.inr (.inl 29)), .inl x2] [] 229 jr0 g) := by
    intro N
    induction N with
    | zero => exact fun _ _ hi hx0 hx1 _ hN => absurd hN (by omega)
    | succ N ih =>
      intro x2 g hi hx0 hx1 hf hN
      refine jGo_blk qX7_gatherByNumbers_7 ?_
      refine st_gi jo_29 (fun v1 ev1 b2 => ?_)
      replace ev1 : v1 = g 29 4 := ev1
      replace b2 := (jbf_10_4 jo_29 _).1 b2
      refine And.intro (fun c3 => ?_) (fun c3 => ?_)
      · replace c3 : v1 ≤ x2 := c3
        show jGo E l 157 229 229 _ 61 [.inr (.inr (.inl 111)), .inr (.inr (.inl 29)), .inl x2] [] 229 jr0 g
        refine jGo_blk qX7_gatherByNumbers_61 ?_
        exact ⟨rfl, rfl, hf, rfl, (by have q9 := hf 29 4 (by unfold w_X7_gatherByNumbers_29; omega); exact jGa_e (by omega) (by omega) (by omega) hx0)⟩
      · replace c3 : x2 < v1 := by first | exact c3 | exact Int.not_le.mp c3 | exact Int.not_lt.mp c3 | exact Decidable.not_not.mp c3
        refine st_gi jo_111 (fun v4 ev4 b5 => ?_)
        replace ev4 : v4 = g 111 2 := ev4
        replace b5 := (jbf_7_2 jo_111 _).1 b5
        refine And.intro (fun c6 => ?_) (fun c6 => ?_)
        · replace c6 : 5 ≤ v4 := c6
          show jGo E l 157 229 229 _ 61 [.inr (.inr (.inl 111)), .inr (.inr (.inl 29)), .inl x2] [] 229 jr0 g
          refine jGo_blk qX7_gatherByNumbers_61 ?_
          exact ⟨rfl, rfl, hf, rfl, (by have q9 := hf 29 4 (by unfold w_X7_gatherByNumbers_29; omega); exact jGa_e (by omega) (by omega) (by omega) hx0)⟩
        · replace c6 : v4 < 5 := by first | exact c6 | exact Int.not_le.mp c6 | exact Int.not_lt.mp c6 | exact Decidable.not_not.mp c6
          refine st_gr jo_29 jr_29_3 ?_
          refine st_ar jo_33 (by decide) (show 0 ≤ x2 by omega) (show x2 < ((16 : Nat) : Int) by omega) (fun u7 eu7 => ?_)
          replace eu7 : u7 = jr0 33 x2 := eu7
          have qu7 : u7 = 36 + 3 * x2 := eu7.trans (jhul_33 x2 (by omega) (by omega)).1
          have hu7 : jHl u7 := by rw [eu7]; exact (jhul_33 x2 (by omega) (by omega)).2
          refine st_cv (na := 0) (st := [.inr (.inr (.inl u7))]) hu7.1 rfl rfl rfl (c_X4_isUnderWay u7 g hu7) rfl ?_
          rintro _ _ _ ⟨rfl, rfl, t8, rfl, ht8, zt8⟩ kt8
          replace kt8 : -2147483648 ≤ t8 ∧ t8 ≤ 2147483647 := kt8
          replace ht8 : 0 ≤ t8 ∧ t8 ≤ 1 := ht8
          replace zt8 : (t8 = 1 ∧ (g u7 3 = 0 ∨ g u7 3 = 1)) ∨ (t8 = 0 ∧ ¬ (g u7 3 = 0 ∨ g u7 3 = 1)) := zt8
          refine And.intro (fun c10 => ?_) (fun c10 => ?_)
          · replace c10 : t8 = 0 := c10
            show jGo E l 157 229 229 _ 55 [.inr (.inr (.inl 111)), .inr (.inr (.inl 29)), .inl x2] [] 229 jr0 g
            refine jGo_blk qX7_gatherByNumbers_55 ?_
            have e11 : jw32 (x2 + 1) = x2 + 1 := j32e (by omega) (by omega)
            show jGo E l 157 229 229 _ 7 [.inr (.inr (.inl 111)), .inr (.inr (.inl 29)), .inl (jw32 (x2 + 1))] [] 229 jr0 g
            have hc12 : h (36 + 3 * x2) 3 = g u7 3 := by rw [← hf (36 + 3 * x2) 3 (by unfold w_X7_gatherByNumbers_29; omega), show 36 + 3 * x2 = u7 by omega]
            exact ih (jw32 (x2 + 1)) g (by omega) (by rw [show jw32 (x2 + 1) = x2 + 1 by omega]; exact jGa_n (by omega) (by omega) hx0) (by have q9 := hf 29 4 (by unfold w_X7_gatherByNumbers_29; omega); omega) hf (by omega)
          · replace c10 : ¬ t8 = 0 := by first | exact c10 | exact Int.not_le.mp c10 | exact Int.not_lt.mp c10 | exact Decidable.not_not.mp c10
            refine st_gr jo_111 jr_111_8 ?_
            refine st_gi jo_111 (fun v13 ev13 b14 => ?_)
            replace ev13 : v13 = g 111 2 := ev13
            replace b14 := (jbf_7_2 jo_111 _).1 b14
            refine st_si jo_175 (show 0 ≤ v13 by omega) (show v13 < ((5 : Nat) : Int) by omega) (fun hx => (jba_175 _ _).2 (show 0 ≤ x2 ∧ x2 ≤ 15 by omega)) (fun g15 eg15 => ?_)
            replace eg15 : g15 = jup g 175 v13 x2 := eg15
            have fg15 : jfr w_X7_gatherByNumbers_29 h g15 := jfr_up hf eg15 (by unfold w_X7_gatherByNumbers_29; omega)
            have e16 : g15 175 v13 = x2 := jup_s eg15
            refine st_gi jo_111 (fun v17 ev17 b18 => ?_)
            replace ev17 : v17 = g15 111 2 := ev17
            replace b18 := (jbf_7_2 jo_111 _).1 b18
            have e19 : g15 111 2 = g 111 2 := jup_o eg15 (by omega)
            have e20 : jw32 (v17 + 1) = v17 + 1 := j32e (by omega) (by omega)
            refine st_pi jo_111 (fun hx => (jbf_7_2 jo_111 _).2 (show 0 ≤ jw32 (v17 + 1) ∧ jw32 (v17 + 1) ≤ 5 by omega)) (fun g21 eg21 => ?_)
            replace eg21 : g21 = jup g15 111 2 (jw32 (v17 + 1)) := eg21
            have fg21 : jfr w_X7_gatherByNumbers_29 h g21 := jfr_up fg15 eg21 (by unfold w_X7_gatherByNumbers_29; omega)
            have e22 : g21 111 2 = jw32 (v17 + 1) := jup_s eg21
            show jGo E l 157 229 229 _ 55 [.inr (.inr (.inl 111)), .inr (.inr (.inl 29)), .inl x2] [] 229 jr0 g21
            refine jGo_blk qX7_gatherByNumbers_55 ?_
            have e23 : jw32 (x2 + 1) = x2 + 1 := j32e (by omega) (by omega)
            show jGo E l 157 229 229 _ 7 [.inr (.inr (.inl 111)), .inr (.inr (.inl 29)), .inl (jw32 (x2 + 1))] [] 229 jr0 g21
            have hc24 : h (36 + 3 * x2) 3 = g u7 3 := by rw [← hf (36 + 3 * x2) 3 (by unfold w_X7_gatherByNumbers_29; omega), show 36 + 3 * x2 = u7 by omega]
            exact ih (jw32 (x2 + 1)) g21 (by omega) (by rw [show jw32 (x2 + 1) = x2 + 1 by omega]; exact jGa_y (g := g) (g1 := g15) (by omega) (by omega) (by omega) (by rw [show g 111 2 = v13 by omega]; exact eg15) (by rw [show g 111 2 + 1 = jw32 (v17 + 1) by omega]; exact eg21) hx0) (by have q9 := hf 29 4 (by unfold w_X7_gatherByNumbers_29; omega); omega) fg21 (by omega)
  refine jGo_blk qX7_gatherByNumbers_0 ?_
  refine st_pi jo_111 (fun hx => (jbf_7_2 jo_111 _).2 (show 0 ≤ 0 ∧ 0 ≤ 5 by omega)) (fun g25 eg25 => ?_)
  replace eg25 : g25 = jup h 111 2 0 := eg25
  have fg25 : jfr w_X7_gatherByNumbers_29 h g25 := jfr_up f0 eg25 (by unfold w_X7_gatherByNumbers_29; omega)
  have e26 : g25 111 2 = 0 := jup_s eg25
  show jGo E l 157 229 229 _ 7 [.inr (.inr (.inl 111)), .inr (.inr (.inl 29)), .inl 0] [] 229 jr0 g25
  exact (key 1000000000000) 0 g25 (by omega) (by exact jGa_0 eg25) (by omega) fg25 (by omega)

def w_X10_become_119_29_175 (i k : Int) : Prop := (120 ≤ i ∧ i ≤ 121) ∨ (i = 124) ∨ (126 ≤ i ∧ i ≤ 173) ∨ (i = 119 ∧ k = 6)
def k_X10_become_119_29_175 (a3 : Int) (h : JH) (v : Option JV) (r' g : JH) : Prop := r' = jr0 ∧ jfr w_X10_become_119_29_175 h g ∧ v = none ∧ (jBc 175 a3 h g)
set_option maxHeartbeats 4000000 in
theorem c_X10_become_119_29_175 {E : JE} {l : Launch} (a3 : Int) (h : JH) (p3 : 0 ≤ a3 ∧ a3 ≤ 5) : jMt E l 142 [.inr (.inr (.inl 119)), .inr (.inr (.inl 29)), .inr (.inr (.inl 175)), .inl a3] 229 jr0 h (k_X10_become_119_29_175 a3 h) := by
  refine jMt0 (nL := 5) (ls := [.inr (.inr (.inl 119)), .inr (.inr (.inl 29)), .inr (.inr (.inl 175)), .inl a3, .inr (.inr (.inr ()))]) (by decide +kernel) (by decide +kernel) (by decide +kernel) rfl rfl ?_
  have f0 : jfr w_X10_become_119_29_175 h h := jfr_rf _ _
  have key : ∀ N : Nat, (∀ (x4 : Int) (g : JH), (0 ≤ x4 ∧ x4 ≤ 5) → ((∀ x : Int, 0 ≤ x → x < 6 → g 120 x = h 30 x) ∧ (∀ b : Int, 0 ≤ b → b < 6 → g 121 b = h 31 b) ∧ (∀ i : Int, 0 ≤ i → i < a3 → g 124 i = h 175 i) ∧ g 119 6 = a3) → (∀ i : Int, 0 ≤ i → i < x4 → (∀ f : Int, 0 ≤ f → f ≤ 9 → g (126 + 3 * h 175 i) f = h (36 + 3 * h 175 i) f) ∧ (∀ f : Int, 0 ≤ f → f < 6 → g (126 + 3 * h 175 i + 1) f = h (36 + 3 * h 175 i + 1) f ∧ g (126 + 3 * h 175 i + 2) f = h (36 + 3 * h 175 i + 2) f)) → (x4 ≤ a3) → jfr w_X10_become_119_29_175 h g → (5 - x4) < (N : Int) → jGo E l 142 229 229 (jRK (k_X10_become_119_29_175 a3 h)) 49 [.inr (.inr (.inl 119)), .inr (.inr (.inl 29)), .inr (.inr (.inl 175)), .inl a3, .inl x4] [] 229 jr0 g) := by
    intro N
    induction N with
    | zero => exact fun _ _ hi hx0 hx1 hx2 _ hN => absurd hN (by omega)
    | succ N ih =>
      intro x4 g hi hx0 hx1 hx2 hf hN
      refine jGo_blk qX10_become_49 ?_
      refine And.intro (fun c1 => ?_) (fun c1 => ?_)
      · replace c1 : a3 ≤ x4 := c1
        show jGo E l 142 229 229 _ 88 [.inr (.inr (.inl 119)), .inr (.inr (.inl 29)), .inr (.inr (.inl 175)), .inl a3, .inl x4] [] 229 jr0 g
        refine jGo_blk qX10_become_88 ?_
        exact ⟨rfl, rfl, hf, rfl, (by exact ⟨hx0.1, hx0.2.1, hx0.2.2.1, hx0.2.2.2, fun i p1 p2 => hx1 i p1 (by omega)⟩)⟩
      · replace c1 : x4 < a3 := by first | exact c1 | exact Int.not_le.mp c1 | exact Int.not_lt.mp c1 | exact Decidable.not_not.mp c1
        refine st_gr jo_119 jr_119_3 ?_
        refine st_gr jo_119 jr_119_5 ?_
        refine st_ai jo_124 (show 0 ≤ x4 by omega) (show x4 < ((16 : Nat) : Int) by omega) (fun v2 ev2 b3 => ?_)
        replace ev2 : v2 = g 124 x4 := ev2
        replace b3 := (jba_124 x4 _).1 b3
        refine st_ar jo_123 (by decide) (show 0 ≤ v2 by omega) (show v2 < ((16 : Nat) : Int) by omega) (fun u4 eu4 => ?_)
        replace eu4 : u4 = jr0 123 v2 := eu4
        have qu4 : u4 = 126 + 3 * v2 := eu4.trans (jhul_123 v2 (by omega) (by omega)).1
        have hu4 : jHl u4 := by rw [eu4]; exact (jhul_123 v2 (by omega) (by omega)).2
        refine st_gr jo_29 jr_29_3 ?_
        refine st_gr jo_119 jr_119_5 ?_
        refine st_ai jo_124 (show 0 ≤ x4 by omega) (show x4 < ((16 : Nat) : Int) by omega) (fun v5 ev5 b6 => ?_)
        replace ev5 : v5 = g 124 x4 := ev5
        replace b6 := (jba_124 x4 _).1 b6
        refine st_ar jo_33 (by decide) (show 0 ≤ v5 by omega) (show v5 < ((16 : Nat) : Int) by omega) (fun u7 eu7 => ?_)
        replace eu7 : u7 = jr0 33 v5 := eu7
        have qu7 : u7 = 36 + 3 * v5 := eu7.trans (jhul_33 v5 (by omega) (by omega)).1
        have hu7 : jHl u7 := by rw [eu7]; exact (jhul_33 v5 (by omega) (by omega)).2
        refine st_cv (na := 1) (st := [.inr (.inr (.inl u7)), .inr (.inr (.inl u4))]) hu4.1 rfl rfl rfl (c_X4_become u4 u7 g hu4 hu7 (by omega)) rfl ?_
        rintro _ _ g9 ⟨rfl, ft8, rfl, zt8⟩ kt8
        have fg9 : jfr w_X10_become_119_29_175 h g9 := jfr_tr hf ft8 (fun i k q => by unfold w_X4_become at q; unfold w_X10_become_119_29_175; omega)
        replace zt8 : (∀ f : Int, 0 ≤ f → f ≤ 9 → g9 u4 f = g u7 f) ∧ (∀ f : Int, 0 ≤ f → f < 6 → g9 (u4 + 1) f = g (u7 + 1) f ∧ g9 (u4 + 2) f = g (u7 + 2) f) := zt8
        have e10 : jw32 (x4 + 1) = x4 + 1 := j32e (by omega) (by omega)
        show jGo E l 142 229 229 _ 49 [.inr (.inr (.inl 119)), .inr (.inr (.inl 29)), .inr (.inr (.inl 175)), .inl a3, .inl (jw32 (x4 + 1))] [] 229 jr0 g9
        have e11 : g9 119 6 = g 119 6 := ft8 119 6 (by unfold w_X4_become; omega)
        have hc12 : ∀ i : Int, 0 ≤ i → i < (jw32 (x4 + 1)) → (∀ f : Int, 0 ≤ f → f ≤ 9 → g9 (126 + 3 * h 175 i) f = h (36 + 3 * h 175 i) f) ∧ (∀ f : Int, 0 ≤ f → f < 6 → g9 (126 + 3 * h 175 i + 1) f = h (36 + 3 * h 175 i + 1) f ∧ g9 (126 + 3 * h 175 i + 2) f = h (36 + 3 * h 175 i + 2) f) := by
          intro i p1 p2
          have l4 := hx0.2.2.1 x4 (by omega) (by omega)
          have hR : ∀ k m : Int, 36 ≤ k → k ≤ 83 → g k m = h k m := fun k m q1 q2 => hf k m (by unfold w_X10_become_119_29_175; omega)
          by_cases y : h 175 i = v2
          · rw [y, show 126 + 3 * v2 = u4 by omega, show 36 + 3 * v2 = u7 by omega]
            exact ⟨fun f q1 q2 => (zt8.1 f q1 q2).trans (hR _ f (by omega) (by omega)), fun f q1 q2 => ⟨(zt8.2 f q1 q2).1.trans (hR _ f (by omega) (by omega)), (zt8.2 f q1 q2).2.trans (hR _ f (by omega) (by omega))⟩⟩
          · have o := hx1 i p1 (by by_cases y2 : i = x4; exact absurd (by rw [y2]; omega) y; omega)
            exact ⟨fun f q1 q2 => (ft8 _ f (by unfold w_X4_become; omega)).trans (o.1 f q1 q2), fun f q1 q2 => ⟨(ft8 _ f (by unfold w_X4_become; omega)).trans (o.2 f q1 q2).1, (ft8 _ f (by unfold w_X4_become; omega)).trans (o.2 f q1 q2).2⟩⟩
        exact ih (jw32 (x4 + 1)) g9 (by omega) (by exact ⟨fun x p1 p2 => (ft8 120 x (by unfold w_X4_become; omega)).trans (hx0.1 x p1 p2), fun b p1 p2 => (ft8 121 b (by unfold w_X4_become; omega)).trans (hx0.2.1 b p1 p2), fun i p1 p2 => (ft8 124 i (by unfold w_X4_become; omega)).trans (hx0.2.2.1 i p1 p2), (ft8 119 6 (by unfold w_X4_become; omega)).trans hx0.2.2.2⟩) (by exact hc12) (by omega) fg9 (by omega)
  refine jGo_blk qX10_become_0 ?_
  refine st_gr jo_29 jr_29_0 ?_
  refine st_gr jo_119 jr_119_0 ?_
  refine st_cp jo_120 jo_30 (show 0 ≤ 0 by omega) (show 0 ≤ 0 by omega) (show 0 ≤ 6 by omega) (show 0 + 6 ≤ ((6 : Nat) : Int) by omega) (show 0 + 6 ≤ ((6 : Nat) : Int) by omega) rfl (fun hg j _ _ => (jba_120 _ _).2 (jbd_int (by rw [jo_30.2.2]; decide) (hg _ _))) (fun g13 eg13 => ?_)
  replace eg13 : g13 = jcp h 30 0 120 0 6 := eg13
  have fg13 : jfr w_X10_become_119_29_175 h g13 := jfr_cp f0 eg13 (fun _ => by unfold w_X10_become_119_29_175; omega)
  refine st_gr jo_29 jr_29_1 ?_
  refine st_gr jo_119 jr_119_1 ?_
  refine st_cp jo_121 jo_31 (show 0 ≤ 0 by omega) (show 0 ≤ 0 by omega) (show 0 ≤ 6 by omega) (show 0 + 6 ≤ ((6 : Nat) : Int) by omega) (show 0 + 6 ≤ ((6 : Nat) : Int) by omega) rfl (fun hg j _ _ => (jba_121 _ _).2 ((jba_31 _ _).1 (hg _ _))) (fun g14 eg14 => ?_)
  replace eg14 : g14 = jcp g13 31 0 121 0 6 := eg14
  have fg14 : jfr w_X10_become_119_29_175 h g14 := jfr_cp fg13 eg14 (fun _ => by unfold w_X10_become_119_29_175; omega)
  refine st_gr jo_119 jr_119_5 ?_
  refine st_cp jo_124 jo_175 (show 0 ≤ 0 by omega) (show 0 ≤ 0 by omega) (show 0 ≤ a3 by omega) (show 0 + a3 ≤ ((5 : Nat) : Int) by omega) (show 0 + a3 ≤ ((16 : Nat) : Int) by omega) rfl (fun hg j _ _ => (jba_124 _ _).2 ((jba_175 _ _).1 (hg _ _))) (fun g15 eg15 => ?_)
  replace eg15 : g15 = jcp g14 175 0 124 0 a3 := eg15
  have fg15 : jfr w_X10_become_119_29_175 h g15 := jfr_cp fg14 eg15 (fun _ => by unfold w_X10_become_119_29_175; omega)
  refine st_pi jo_119 (fun hx => (jbf_10_6 jo_119 _).2 (show 0 ≤ a3 ∧ a3 ≤ 16 by omega)) (fun g16 eg16 => ?_)
  replace eg16 : g16 = jup g15 119 6 a3 := eg16
  have fg16 : jfr w_X10_become_119_29_175 h g16 := jfr_up fg15 eg16 (by unfold w_X10_become_119_29_175; omega)
  have e17 : g16 119 6 = a3 := jup_s eg16
  show jGo E l 142 229 229 _ 49 [.inr (.inr (.inl 119)), .inr (.inr (.inl 29)), .inr (.inr (.inl 175)), .inl a3, .inl 0] [] 229 jr0 g16
  exact (key 1000000000000) 0 g16 (by omega) (by exact ⟨fun x p1 p2 => ((((jup_o eg16 (by omega)).trans ((jcp_o eg15 (by omega)).trans (jcp_o eg14 (by omega))))).trans (jcp_s eg13 p1 (by omega))).trans (congrArg (h 30) (by omega)), fun b p1 p2 => ((((jup_o eg16 (by omega)).trans (jcp_o eg15 (by omega)))).trans ((jcp_s eg14 p1 (by omega)).trans ((jcp_o eg13 (by omega))))).trans (congrArg (h 31) (by omega)), fun i p1 p2 => (((jup_o eg16 (by omega))).trans ((jcp_s eg15 p1 (by omega)).trans (((jcp_o eg14 (by omega)).trans (jcp_o eg13 (by omega)))))).trans (congrArg (h 175) (by omega)), jup_s eg16⟩) (by exact fun i p1 p2 => absurd p2 (by omega)) (by omega) fg16 (by omega)
