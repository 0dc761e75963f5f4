def k_X12_firstBehind (a1 : Int) (a2 : Int) (h : JH) (v : Option JV) (r' g : JH) : Prop := r' = jr0 ∧ h = g ∧ ∃ x : Int, v = some (.inl x) ∧ (-1 ≤ x ∧ x ≤ 15) ∧ ((x = -1 ∨ (0 ≤ x ∧ x ≤ 15 ∧ (a1 < 0 ∨ (99 - h 190 a1) * 16 + a1 < (99 - h 190 x) * 16 + x))) ∧ x = jfb h a1 a2 (h 176 14).toNat)
set_option maxHeartbeats 4000000 in
theorem c_X12_firstBehind {E : JE} {l : Launch} (a1 : Int) (a2 : Int) (h : JH) (p1 : -1 ≤ a1 ∧ a1 ≤ 15) : jMt E l 89 [.inr (.inr (.inl 176)), .inl a1, .inl a2] 229 jr0 h (k_X12_firstBehind a1 a2 h) := by
  refine jMt0 (nL := 5) (ls := [.inr (.inr (.inl 176)), .inl a1, .inl a2, .inr (.inr (.inr ())), .inr (.inr (.inr ()))]) (by decide +kernel) (by decide +kernel) (by decide +kernel) rfl rfl ?_
  refine jGo_bd (fun hbd => ?_)
  have hb0 := (jbf_12_14 jo_176 _).1 (hbd 176 14)
  have key : ∀ N : Nat, (∀ (x3 : Int) (x4 : Int), ((-1) ≤ x3 ∧ 0 ≤ x4 ∧ x4 ≤ 16) → (x3 = -1 ∨ (0 ≤ x3 ∧ x3 ≤ 15 ∧ (a1 < 0 ∨ (99 - h 190 a1) * 16 + a1 < (99 - h 190 x3) * 16 + x3))) → (x3 = jfb h a1 a2 (x4).toNat) → (0 ≤ x4 ∧ x4 ≤ h 176 14) → (16 - x4) < (N : Int) → jGo E l 89 229 229 (jRK (k_X12_firstBehind a1 a2 h)) 5 [.inr (.inr (.inl 176)), .inl a1, .inl a2, .inl x3, .inl x4] [] 229 jr0 h) := by
    intro N
    induction N with
    | zero => exact fun _ _ hi hx0 hx1 hx2 hN => absurd hN (by omega)
    | succ N ih =>
      intro x3 x4 hi hx0 hx1 hx2 hN
      refine jGo_ok (fun hls _ => ?_)
      have rx3 : -2147483648 ≤ x3 ∧ x3 ≤ 2147483647 := hls (.inl x3) (by simp)
      refine jGo_blk qX12_firstBehind_5 ?_
      refine st_gi jo_176 (fun v1 ev1 b2 => ?_)
      replace ev1 : v1 = h 176 14 := ev1
      replace b2 := (jbf_12_14 jo_176 _).1 b2
      refine And.intro (fun c3 => ?_) (fun c3 => ?_)
      · replace c3 : v1 ≤ x4 := c3
        show jGo E l 89 229 229 _ 62 [.inr (.inr (.inl 176)), .inl a1, .inl a2, .inl x3, .inl x4] [] 229 jr0 h
        refine jGo_blk qX12_firstBehind_62 ?_
        exact st_r0 (ls := []) ⟨rfl, rfl, rfl, x3, rfl, (by omega), (by exact ⟨by omega, by rw [show h 176 14 = x4 by omega]; exact hx1⟩)⟩
      · replace c3 : x4 < v1 := by first | exact c3 | exact Int.not_le.mp c3 | exact Int.not_lt.mp c3 | exact Decidable.not_not.mp c3
        refine st_gr jo_176 jr_176_18 ?_
        refine st_ai jo_192 (show 0 ≤ x4 by omega) (show x4 < ((16 : Nat) : Int) by omega) (fun v4 ev4 b5 => ?_)
        replace ev4 : v4 = h 192 x4 := ev4
        replace b5 := (jba_192 x4 _).1 b5
        refine And.intro (fun c6 => ?_) (fun c6 => ?_)
        · replace c6 : ¬ v4 = a2 := c6
          show jGo E l 89 229 229 _ 56 [.inr (.inr (.inl 176)), .inl a1, .inl a2, .inl x3, .inl x4] [] 229 jr0 h
          refine jGo_blk qX12_firstBehind_56 ?_
          have e7 : jw32 (x4 + 1) = x4 + 1 := j32e (by omega) (by omega)
          show jGo E l 89 229 229 _ 5 [.inr (.inr (.inl 176)), .inl a1, .inl a2, .inl x3, .inl (jw32 (x4 + 1))] [] 229 jr0 h
          exact ih x3 (jw32 (x4 + 1)) (by omega) (by omega) (by rw [show jw32 (x4 + 1) = x4 + 1 by omega, jfb_s (by omega), ← hx1]; unfold jKy; exact (if_neg (fun q => by omega)).symm) (by omega) (by omega)
        · replace c6 : v4 = a2 := by first | exact c6 | exact Int.not_le.mp c6 | exact Int.not_lt.mp c6 | exact Decidable.not_not.mp c6
          refine And.intro (fun c8 => ?_) (fun c8 => ?_)
          · replace c8 : a1 < 0 := c8
            show jGo E l 89 229 229 _ 39 [.inr (.inr (.inl 176)), .inl a1, .inl a2, .inl x3, .inl x4] [] 229 jr0 h
            refine jGo_blk qX12_firstBehind_39 ?_
            refine And.intro (fun c9 => ?_) (fun c9 => ?_)
            · replace c9 : x3 < 0 := c9
              show jGo E l 89 229 229 _ 53 [.inr (.inr (.inl 176)), .inl a1, .inl a2, .inl x3, .inl x4] [] 229 jr0 h
              refine jGo_blk qX12_firstBehind_53 ?_
              show jGo E l 89 229 229 _ 56 [.inr (.inr (.inl 176)), .inl a1, .inl a2, .inl x4, .inl x4] [] 229 jr0 h
              refine jGo_blk qX12_firstBehind_56 ?_
              have e10 : jw32 (x4 + 1) = x4 + 1 := j32e (by omega) (by omega)
              show jGo E l 89 229 229 _ 5 [.inr (.inr (.inl 176)), .inl a1, .inl a2, .inl x4, .inl (jw32 (x4 + 1))] [] 229 jr0 h
              exact ih x4 (jw32 (x4 + 1)) (by omega) (by omega) (by rw [show jw32 (x4 + 1) = x4 + 1 by omega, jfb_s (by omega), ← hx1]; unfold jKy; exact (if_pos (by omega)).symm) (by omega) (by omega)
            · replace c9 : 0 ≤ x3 := by first | exact c9 | exact Int.not_le.mp c9 | exact Int.not_lt.mp c9 | exact Decidable.not_not.mp c9
              refine st_cv (na := 2) (st := [.inl x3, .inl x4, .inr (.inr (.inl 176))]) jo_176 rfl rfl rfl (c_X12_isFirst x4 x3 h (by omega) (by omega)) rfl ?_
              rintro _ _ _ ⟨rfl, rfl, t11, rfl, ht11, zt11⟩ kt11
              replace kt11 : -2147483648 ≤ t11 ∧ t11 ≤ 2147483647 := kt11
              replace ht11 : 0 ≤ t11 ∧ t11 ≤ 1 := ht11
              replace zt11 : (t11 = 1 ∧ (99 - h 190 x4) * 16 + x4 < (99 - h 190 x3) * 16 + x3) ∨ (t11 = 0 ∧ ¬ ((99 - h 190 x4) * 16 + x4 < (99 - h 190 x3) * 16 + x3)) := zt11
              refine And.intro (fun c13 => ?_) (fun c13 => ?_)
              · replace c13 : t11 = 0 := c13
                show jGo E l 89 229 229 _ 56 [.inr (.inr (.inl 176)), .inl a1, .inl a2, .inl x3, .inl x4] [] 229 jr0 h
                refine jGo_blk qX12_firstBehind_56 ?_
                have e14 : jw32 (x4 + 1) = x4 + 1 := j32e (by omega) (by omega)
                show jGo E l 89 229 229 _ 5 [.inr (.inr (.inl 176)), .inl a1, .inl a2, .inl x3, .inl (jw32 (x4 + 1))] [] 229 jr0 h
                exact ih x3 (jw32 (x4 + 1)) (by omega) (by omega) (by rw [show jw32 (x4 + 1) = x4 + 1 by omega, jfb_s (by omega), ← hx1]; unfold jKy; exact (if_neg (fun q => by omega)).symm) (by omega) (by omega)
              · replace c13 : ¬ t11 = 0 := by first | exact c13 | exact Int.not_le.mp c13 | exact Int.not_lt.mp c13 | exact Decidable.not_not.mp c13
                show jGo E l 89 229 229 _ 53 [.inr (.inr (.inl 176)), .inl a1, .inl a2, .inl x3, .inl x4] [] 229 jr0 h
                refine jGo_blk qX12_firstBehind_53 ?_
                show jGo E l 89 229 229 _ 56 [.inr (.inr (.inl 176)), .inl a1, .inl a2, .inl x4, .inl x4] [] 229 jr0 h
                refine jGo_blk qX12_firstBehind_56 ?_
                have e15 : jw32 (x4 + 1) = x4 + 1 := j32e (by omega) (by omega)
                show jGo E l 89 229 229 _ 5 [.inr (.inr (.inl 176)), .inl a1, .inl a2, .inl x4, .inl (jw32 (x4 + 1))] [] 229 jr0 h
                exact ih x4 (jw32 (x4 + 1)) (by omega) (by omega) (by rw [show jw32 (x4 + 1) = x4 + 1 by omega, jfb_s (by omega), ← hx1]; unfold jKy; exact (if_pos (by omega)).symm) (by omega) (by omega)
          · replace c8 : 0 ≤ a1 := by first | exact c8 | exact Int.not_le.mp c8 | exact Int.not_lt.mp c8 | exact Decidable.not_not.mp c8
            refine st_cv (na := 2) (st := [.inl x4, .inl a1, .inr (.inr (.inl 176))]) jo_176 rfl rfl rfl (c_X12_isFirst a1 x4 h (by omega) (by omega)) rfl ?_
            rintro _ _ _ ⟨rfl, rfl, t16, rfl, ht16, zt16⟩ kt16
            replace kt16 : -2147483648 ≤ t16 ∧ t16 ≤ 2147483647 := kt16
            replace ht16 : 0 ≤ t16 ∧ t16 ≤ 1 := ht16
            replace zt16 : (t16 = 1 ∧ (99 - h 190 a1) * 16 + a1 < (99 - h 190 x4) * 16 + x4) ∨ (t16 = 0 ∧ ¬ ((99 - h 190 a1) * 16 + a1 < (99 - h 190 x4) * 16 + x4)) := zt16
            refine And.intro (fun c18 => ?_) (fun c18 => ?_)
            · replace c18 : t16 = 0 := c18
              show jGo E l 89 229 229 _ 56 [.inr (.inr (.inl 176)), .inl a1, .inl a2, .inl x3, .inl x4] [] 229 jr0 h
              refine jGo_blk qX12_firstBehind_56 ?_
              have e19 : jw32 (x4 + 1) = x4 + 1 := j32e (by omega) (by omega)
              show jGo E l 89 229 229 _ 5 [.inr (.inr (.inl 176)), .inl a1, .inl a2, .inl x3, .inl (jw32 (x4 + 1))] [] 229 jr0 h
              exact ih x3 (jw32 (x4 + 1)) (by omega) (by omega) (by rw [show jw32 (x4 + 1) = x4 + 1 by omega, jfb_s (by omega), ← hx1]; unfold jKy; exact (if_neg (fun q => by omega)).symm) (by omega) (by omega)
            · replace c18 : ¬ t16 = 0 := by first | exact c18 | exact Int.not_le.mp c18 | exact Int.not_lt.mp c18 | exact Decidable.not_not.mp c18
              show jGo E l 89 229 229 _ 39 [.inr (.inr (.inl 176)), .inl a1, .inl a2, .inl x3, .inl x4] [] 229 jr0 h
              refine jGo_blk qX12_firstBehind_39 ?_
              refine And.intro (fun c20 => ?_) (fun c20 => ?_)
              · replace c20 : x3 < 0 := c20
                show jGo E l 89 229 229 _ 53 [.inr (.inr (.inl 176)), .inl a1, .inl a2, .inl x3, .inl x4] [] 229 jr0 h
                refine jGo_blk qX12_firstBehind_53 ?_
                show jGo E l 89 229 229 _ 56 [.inr (.inr (.inl 176)), .inl a1, .inl a2, .inl x4, .inl x4] [] 229 jr0 h
                refine jGo_blk qX12_firstBehind_56 ?_
                have e21 : jw32 (x4 + 1) = x4 + 1 := j32e (by omega) (by omega)
                show jGo E l 89 229 229 _ 5 [.inr (.inr (.inl 176)), .inl a1, .inl a2, .inl x4, .inl (jw32 (x4 + 1))] [] 229 jr0 h
                exact ih x4 (jw32 (x4 + 1)) (by omega) (by omega) (by rw [show jw32 (x4 + 1) = x4 + 1 by omega, jfb_s (by omega), ← hx1]; unfold jKy; exact (if_pos (by omega)).symm) (by omega) (by omega)
              · replace c20 : 0 ≤ x3 := by first | exact c20 | exact Int.not_le.mp c20 | exact Int.not_lt.mp c20 | exact Decidable.not_not.mp c20
                refine st_cv (na := 2) (st := [.inl x3, .inl x4, .inr (.inr (.inl 176))]) jo_176 rfl rfl rfl (c_X12_isFirst x4 x3 h (by omega) (by omega)) rfl ?_
                rintro _ _ _ ⟨rfl, rfl, t22, rfl, ht22, zt22⟩ kt22
                replace kt22 : -2147483648 ≤ t22 ∧ t22 ≤ 2147483647 := kt22
                replace ht22 : 0 ≤ t22 ∧ t22 ≤ 1 := ht22
                replace zt22 : (t22 = 1 ∧ (99 - h 190 x4) * 16 + x4 < (99 - h 190 x3) * 16 + x3) ∨ (t22 = 0 ∧ ¬ ((99 - h 190 x4) * 16 + x4 < (99 - h 190 x3) * 16 + x3)) := zt22
                refine And.intro (fun c24 => ?_) (fun c24 => ?_)
                · replace c24 : t22 = 0 := c24
                  show jGo E l 89 229 229 _ 56 [.inr (.inr (.inl 176)), .inl a1, .inl a2, .inl x3, .inl x4] [] 229 jr0 h
                  refine jGo_blk qX12_firstBehind_56 ?_
                  have e25 : jw32 (x4 + 1) = x4 + 1 := j32e (by omega) (by omega)
                  show jGo E l 89 229 229 _ 5 [.inr (.inr (.inl 176)), .inl a1, .inl a2, .inl x3, .inl (jw32 (x4 + 1))] [] 229 jr0 h
                  exact ih x3 (jw32 (x4 + 1)) (by omega) (by omega) (by rw [show jw32 (x4 + 1) = x4 + 1 by omega, jfb_s (by omega), ← hx1]; unfold jKy; exact (if_neg (fun q => by omega)).symm) (by omega) (by omega)
                · replace c24 : ¬ t22 = 0 := by first | exact c24 | exact Int.not_le.mp c24 | exact Int.not_lt.mp c24 | exact Decidable.not_not.mp c24
                  show jGo E l 89 229 229 _ 53 [.inr (.inr (.inl 176)), .inl a1, .inl a2, .inl x3, .inl x4] [] 229 jr0 h
                  refine jGo_blk qX12_firstBehind_53 ?_
                  show jGo E l 89 229 229 _ 56 [.inr (.inr (.inl 176)), .inl a1, .inl a2, .inl x4, .inl x4] [] 229 jr0 h
                  refine jGo_blk qX12_firstBehind_56 ?_
                  have e26 : jw32 (x4 + 1) = x4 + 1 := j32e (by omega) (by omega)
                  show jGo E l 89 229 229 _ 5 [.inr (.inr (.inl 176)), .inl a1, .inl a2, .inl x4, .inl (jw32 (x4 + 1))] [] 229 jr0 h
                  exact ih x4 (jw32 (x4 + 1)) (by omega) (by omega) (by rw [show jw32 (x4 + 1) = x4 + 1 by omega, jfb_s (by omega), ← hx1]; unfold jKy; exact (if_pos (by omega)).symm) (by omega) (by omega)
  refine jGo_blk qX12_firstBehind_0 ?_
  show jGo E l 89 229 229 _ 5 [.inr (.inr (.inl 176)), .inl a1, .inl a2, .inl (-1), .inl 0] [] 229 jr0 h
  exact (key 1000000000000) (-1) 0 (by omega) (by omega) (by rfl) (by omega) (by omega)
