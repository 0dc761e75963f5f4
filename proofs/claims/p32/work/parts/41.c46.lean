def k_X7_sumOfLate (h : JH) (v : Option JV) (r' g : JH) : Prop := r' = jr0 ∧ h = g ∧ ∃ x : Int, v = some (.inl x) ∧ (True) ∧ (x = jsc3 h (h 111 2).toNat ∧ jsB h)
set_option maxHeartbeats 4000000 in
theorem c_X7_sumOfLate {E : JE} {l : Launch} (h : JH) : jMt E l 158 [.inr (.inr (.inl 111))] 229 jr0 h (k_X7_sumOfLate h) := by
  refine jMt0 (nL := 4) (ls := [.inr (.inr (.inl 111)), .inr (.inr (.inr ())), .inr (.inr (.inr ())), .inr (.inr (.inr ()))]) (by decide +kernel) (by decide +kernel) (by decide +kernel) rfl rfl ?_
  have key : ∀ N : Nat, (∀ (x1 : Int) (x2 : Int) (x3 : JV), (0 ≤ x2 ∧ x2 ≤ 5) → (x1 = jsc3 h (x2).toNat) → (∀ i : Int, 0 ≤ i → i < x2 → (0 ≤ h (126 + 3 * h 175 i) 2 ∧ h (126 + 3 * h 175 i) 2 ≤ 2000) ∧ 0 ≤ h 111 3 ∧ h 111 3 ≤ 2000) → (x2 = 0 ∨ x2 ≤ h 111 2) → (5 - x2) < (N : Int) → jGo E l 158 229 229 (jRK (k_X7_sumOfLate h)) 4 [.inr (.inr (.inl 111)), .inl x1, .inl x2, x3] [] 229 jr0 h) := by
    intro N
    induction N with
    | zero => exact fun _ _ _ hi hx0 hx1 hx2 hN => absurd hN (by omega)
    | succ N ih =>
      intro x1 x2 x3 hi hx0 hx1 hx2 hN
      refine jGo_ok (fun hls _ => ?_)
      have rx1 : -2147483648 ≤ x1 ∧ x1 ≤ 2147483647 := hls (.inl x1) (by simp)
      refine jGo_blk qX7_sumOfLate_4 ?_
      refine st_gi jo_111 (fun v1 ev1 b2 => ?_)
      replace ev1 : v1 = h 111 2 := ev1
      replace b2 := (jbf_7_2 jo_111 _).1 b2
      refine And.intro (fun c3 => ?_) (fun c3 => ?_)
      · replace c3 : v1 ≤ x2 := c3
        show jGo E l 158 229 229 _ 51 [.inr (.inr (.inl 111)), .inl x1, .inl x2, x3] [] 229 jr0 h
        refine jGo_blk qX7_sumOfLate_51 ?_
        exact st_r0 (ls := []) ⟨rfl, rfl, rfl, x1, rfl, trivial, (by rw [show h 111 2 = x2 by omega]; exact ⟨hx0, fun i p1 p2 => hx1 i p1 (by omega)⟩)⟩
      · replace c3 : x2 < v1 := by first | exact c3 | exact Int.not_le.mp c3 | exact Int.not_lt.mp c3 | exact Decidable.not_not.mp c3
        refine st_gr jo_111 jr_111_6 ?_
        refine st_gr jo_119 jr_119_3 ?_
        refine st_gr jo_111 jr_111_8 ?_
        refine st_ai jo_175 (show 0 ≤ x2 by omega) (show x2 < ((5 : Nat) : Int) by omega) (fun v4 ev4 b5 => ?_)
        replace ev4 : v4 = h 175 x2 := ev4
        replace b5 := (jba_175 x2 _).1 b5
        refine st_ar jo_123 (by decide) (show 0 ≤ v4 by omega) (show v4 < ((16 : Nat) : Int) by omega) (fun u6 eu6 => ?_)
        replace eu6 : u6 = jr0 123 v4 := eu6
        have qu6 : u6 = 126 + 3 * v4 := eu6.trans (jhul_123 v4 (by omega) (by omega)).1
        have hu6 : jHl u6 := by rw [eu6]; exact (jhul_123 v4 (by omega) (by omega)).2
        refine And.intro (show u6 ≠ -1 by omega) ?_
        refine st_gi hu6.1 (fun v7 ev7 b8 => ?_)
        replace ev7 : v7 = h u6 9 := ev7
        replace b8 := (jbf_4_9 hu6.1 _).1 b8
        refine st_gi hu6.1 (fun v9 ev9 b10 => ?_)
        replace ev9 : v9 = h u6 2 := ev9
        replace b10 := (jbf_4_2 hu6.1 _).1 b10
        refine st_gi jo_111 (fun v11 ev11 b12 => ?_)
        replace ev11 : v11 = h 111 3 := ev11
        replace b12 := (jbf_7_3 jo_111 _).1 b12
        refine st_cs (na := 3) (st := [.inl v11, .inl v9, .inl v7, .inl x1]) rfl rfl rfl (c_X11_lateness v7 v9 v11 h) rfl ?_
        rintro _ _ _ ⟨rfl, rfl, t13, rfl, ht13, zt13⟩ kt13
        replace kt13 : -2147483648 ≤ t13 ∧ t13 ≤ 2147483647 := kt13
        replace zt13 : t13 = jlt v7 v9 v11 := zt13
        have e15 : jw32 (x2 + 1) = x2 + 1 := j32e (by omega) (by omega)
        show jGo E l 158 229 229 _ 4 [.inr (.inr (.inl 111)), .inl (jw32 (x1 + t13)), .inl (jw32 (x2 + 1)), .inr (.inr (.inl u6))] [] 229 jr0 h
        have hc16 : ∀ i : Int, 0 ≤ i → i < jw32 (x2 + 1) → (0 ≤ h (126 + 3 * h 175 i) 2 ∧ h (126 + 3 * h 175 i) 2 ≤ 2000) ∧ 0 ≤ h 111 3 ∧ h 111 3 ≤ 2000 := by
          intro i p1 p2
          by_cases y : i = x2
          · rw [y, show h 175 x2 = v4 by omega, show 126 + 3 * v4 = u6 by omega]; omega
          · exact hx1 i p1 (by omega)
        exact ih (jw32 (x1 + t13)) (jw32 (x2 + 1)) (.inr (.inr (.inl u6))) (by omega) (by rw [show jw32 (x2 + 1) = x2 + 1 by omega, jsc3_s (by omega), ← hx0, zt13, ev7, ev9, ev11, qu6, ev4]) (by exact hc16) (by omega) (by omega)
  refine jGo_blk qX7_sumOfLate_0 ?_
  show jGo E l 158 229 229 _ 4 [.inr (.inr (.inl 111)), .inl 0, .inl 0, .inr (.inr (.inr ()))] [] 229 jr0 h
  exact (key 1000000000000) 0 0 (.inr (.inr (.inr ()))) (by omega) (by rfl) (by exact fun i p1 p2 => absurd p2 (by omega)) (by omega) (by omega)
