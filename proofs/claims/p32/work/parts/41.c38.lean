def w_X12_goAhead (i k : Int) : Prop := (i = 181) ∨ (192 ≤ i ∧ i ≤ 200) ∨ (i = 202) ∨ (i = 176 ∧ k = 0) ∨ (i = 176 ∧ 30 ≤ k ∧ k ≤ 32)
def k_X12_goAhead (h : JH) (v : Option JV) (r' g : JH) : Prop := r' = jr0 ∧ jfr w_X12_goAhead h g ∧ v = none ∧ ((g 176 0 = h 176 0 + 300) ∧ g = jit jmPi 300 h)
set_option maxHeartbeats 4000000 in
theorem c_X12_goAhead {E : JE} {l : Launch} (h : JH) (q0 : h 176 0 ≤ 2000) : jMt E l 150 [.inr (.inr (.inl 176))] 229 jr0 h (k_X12_goAhead h) := by
  refine jMt0 (nL := 3) (ls := [.inr (.inr (.inl 176)), .inr (.inr (.inr ())), .inr (.inr (.inr ()))]) (by decide +kernel) (by decide +kernel) (by decide +kernel) rfl rfl ?_
  have f0 : jfr w_X12_goAhead h h := jfr_rf _ _
  have key : ∀ N : Nat, (∀ (x1 : Int) (x2 : JV) (g : JH), (0 ≤ x1 ∧ x1 ≤ 300) → (g 176 0 = h 176 0 + x1) → (g = jit jmPi (x1).toNat h) → jfr w_X12_goAhead h g → (300 - x1) < (N : Int) → jGo E l 150 229 229 (jRK (k_X12_goAhead h)) 2 [.inr (.inr (.inl 176)), .inl x1, x2] [] 229 jr0 g) := by
    intro N
    induction N with
    | zero => exact fun _ _ _ hi hx0 hx1 _ hN => absurd hN (by omega)
    | succ N ih =>
      intro x1 x2 g hi hx0 hx1 hf hN
      refine jGo_blk qX12_goAhead_2 ?_
      refine And.intro (fun c1 => ?_) (fun c1 => ?_)
      · replace c1 : 300 ≤ x1 := c1
        show jGo E l 150 229 229 _ 20 [.inr (.inr (.inl 176)), .inl x1, x2] [] 229 jr0 g
        refine jGo_blk qX12_goAhead_20 ?_
        exact ⟨rfl, rfl, hf, rfl, (by refine ⟨by omega, ?_⟩; rw [hx1, show x1 = 300 by omega, jtn300])⟩
      · replace c1 : x1 < 300 := by first | exact c1 | exact Int.not_le.mp c1 | exact Int.not_lt.mp c1 | exact Decidable.not_not.mp c1
        refine st_cv (na := 0) (st := [.inr (.inr (.inl 176))]) jo_176 rfl rfl rfl (c_X12_pass g (by omega)) rfl ?_
        rintro _ _ g3 ⟨rfl, ft2, t2, rfl, ht2, zt2⟩ kt2
        replace kt2 : -2147483648 ≤ t2 ∧ t2 ≤ 2147483647 := kt2
        have fg3 : jfr w_X12_goAhead h g3 := jfr_tr hf ft2 (fun i k q => by unfold w_X12_pass at q; unfold w_X12_goAhead; omega)
        replace zt2 : (g3 176 0 = g 176 0 + 1) ∧ g3 = jmPs g := zt2
        have y4 := zt2.2
        have e5 : jw32 (x1 + 1) = x1 + 1 := j32e (by omega) (by omega)
        show jGo E l 150 229 229 _ 2 [.inr (.inr (.inl 176)), .inl (jw32 (x1 + 1)), .inl t2] [] 229 jr0 g3
        exact ih (jw32 (x1 + 1)) (.inl t2) g3 (by omega) (by omega) (by rw [show jw32 (x1 + 1) = x1 + 1 by omega, jit_s (by omega), ← hx1]; exact y4) fg3 (by omega)
  refine jGo_blk qX12_goAhead_0 ?_
  show jGo E l 150 229 229 _ 2 [.inr (.inr (.inl 176)), .inl 0, .inr (.inr (.inr ()))] [] 229 jr0 h
  exact (key 1000000000000) 0 (.inr (.inr (.inr ()))) h (by omega) (by omega) (by rfl) f0 (by omega)
