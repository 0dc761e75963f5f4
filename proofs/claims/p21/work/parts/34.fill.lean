/-! ===== Arrays.fill ===== -/
theorem jlc_u (x y : Int) : (jlc x y = 1 ∧ y < x) ∨ (jlc x y = 0 ∧ x = y) ∨ (jlc x y = -1 ∧ x < y) := by
  unfold jlc
  by_cases h1 : y < x
  · rw [if_pos h1]; exact Or.inl ⟨rfl, h1⟩
  · rw [if_neg h1]
    by_cases h2 : x = y
    · rw [if_pos h2]; exact Or.inr (Or.inl ⟨rfl, h2⟩)
    · rw [if_neg h2]; exact Or.inr (Or.inr ⟨rfl, by omega⟩)
theorem j64d {x y : Int} (h1 : 0 ≤ x) (h2 : x ≤ 9223372036854775807) (hy : 0 < y) : jw64 (x.tdiv y) = x / y ∧ 0 ≤ x / y ∧ x / y ≤ x := by
  have h3 : x / y ≤ x := Int.ediv_le_self y h1
  have h4 : 0 ≤ x / y := Int.ediv_nonneg h1 (by omega)
  refine ⟨?_, h4, h3⟩
  rw [Int.tdiv_eq_ediv_of_nonneg h1]
  exact j64e (by omega) (by omega)
def w_fill (a i k : Int) : Prop := i = a
def k_fill (a a1 : Int) (N : Nat) (h : JH) (v : Option JV) (r' g : JH) : Prop := r' = jr0 ∧ jfr (w_fill a) h g ∧ v = none ∧ ∀ k : Int, 0 ≤ k → k < N → g a k = a1
set_option maxHeartbeats 4000000 in
theorem c_fill {E : JE} {l : Launch} {N : Nat} (a a1 : Int) (h : JH) (ha : jF 229 a 1 N) (hN : N ≤ 5000) (hb : ∀ k : Int, jR32 a1 → jbd a k a1) : jMt E l 0 [.inr (.inr (.inl a)), .inl a1] 229 jr0 h (k_fill a a1 N h) := by
  refine jMt0 (nL := 4) (ls := [.inr (.inr (.inl a)), .inl a1, .inr (.inr (.inr ())), .inr (.inr (.inr ()))]) (by decide +kernel) (by decide +kernel) (by decide +kernel) rfl rfl ?_
  have key : ∀ M : Nat, ∀ (x2 : Int) (g : JH), (0 ≤ x2 ∧ x2 ≤ N) → (∀ k : Int, 0 ≤ k → k < x2 → g a k = a1) → jfr (w_fill a) h g → N - x2 < (M : Int) → jGo E l 0 229 229 (jRK (k_fill a a1 N h)) 5 [.inr (.inr (.inl a)), .inl a1, .inl x2, .inl N] [] 229 jr0 g := by
    intro M
    induction M with
    | zero => exact fun _ _ hi _ _ hN => absurd hN (by omega)
    | succ M ih =>
      intro x2 g hi hv hf hM
      refine jGo_blk qJ7_fill_53178_5 ?_
      refine And.intro (fun c1 => ?_) (fun c1 => ?_)
      · have c1 : (N : Int) ≤ x2 := c1
        show jGo E l 0 229 229 _ 20 [.inr (.inr (.inl a)), .inl a1, .inl x2, .inl N] [] 229 jr0 g
        refine jGo_blk qJ7_fill_53178_20 ?_
        exact ⟨rfl, rfl, hf, rfl, fun k h0 h1 => hv k h0 (by omega)⟩
      · have c1 : x2 < (N : Int) := Int.not_le.mp c1
        refine st_si ha (show 0 ≤ x2 by omega) (show x2 < (N : Int) by omega) (hb x2) (fun g1 eg1 => ?_)
        have eg1 : g1 = jup g a x2 a1 := eg1
        have e1 : jw32 (x2 + 1) = x2 + 1 := j32e (by omega) (by omega)
        show jGo E l 0 229 229 _ 5 [.inr (.inr (.inl a)), .inl a1, .inl (jw32 (x2 + 1)), .inl N] [] 229 jr0 g1
        rw [e1]
        refine ih _ g1 (by omega) (fun k h0 h1 => ?_) (jfr_up hf eg1 rfl) (by omega)
        by_cases hk : k = x2
        · subst hk; exact jup_s eg1
        · rw [jup_o eg1 (by omega)]; exact hv k h0 (by omega)
  refine jGo_blk qJ7_fill_53178_0 ?_
  refine st_al ha ⟨by decide, by decide⟩ ?_
  show jGo E l 0 229 229 _ 5 [.inr (.inr (.inl a)), .inl a1, .inl 0, .inl N] [] 229 jr0 h
  exact key (N + 1) 0 h (by omega) (fun k h0 h1 => absurd h1 (by omega)) (jfr_rf _ _) (by omega)
set_option maxHeartbeats 4000000 in
theorem c_fillL {E : JE} {l : Launch} {N : Nat} (a a1 : Int) (h : JH) (ha : jF 229 a 2 N) (hN : N ≤ 5000) (hb : ∀ k : Int, jR64 a1 → jbd a k a1) : jMt E l 106 [.inr (.inr (.inl a)), .inr (.inl a1)] 229 jr0 h (k_fill a a1 N h) := by
  refine jMt0 (nL := 5) (ls := [.inr (.inr (.inl a)), .inr (.inl a1), .inr (.inr (.inr ())), .inr (.inr (.inr ())), .inr (.inr (.inr ()))]) (by decide +kernel) (by decide +kernel) (by decide +kernel) rfl rfl ?_
  have key : ∀ M : Nat, ∀ (x2 : Int) (g : JH), (0 ≤ x2 ∧ x2 ≤ N) → (∀ k : Int, 0 ≤ k → k < x2 → g a k = a1) → jfr (w_fill a) h g → N - x2 < (M : Int) → jGo E l 106 229 229 (jRK (k_fill a a1 N h)) 6 [.inr (.inr (.inl a)), .inr (.inl a1), .inr (.inr (.inr ())), .inl x2, .inl N] [] 229 jr0 g := by
    intro M
    induction M with
    | zero => exact fun _ _ hi _ _ hN => absurd hN (by omega)
    | succ M ih =>
      intro x2 g hi hv hf hM
      refine jGo_blk qJ7_fill_d0a16_6 ?_
      refine And.intro (fun c1 => ?_) (fun c1 => ?_)
      · have c1 : (N : Int) ≤ x2 := c1
        show jGo E l 106 229 229 _ 22 [.inr (.inr (.inl a)), .inr (.inl a1), .inr (.inr (.inr ())), .inl x2, .inl N] [] 229 jr0 g
        refine jGo_blk qJ7_fill_d0a16_22 ?_
        exact ⟨rfl, rfl, hf, rfl, fun k h0 h1 => hv k h0 (by omega)⟩
      · have c1 : x2 < (N : Int) := Int.not_le.mp c1
        refine st_sl ha (show 0 ≤ x2 by omega) (show x2 < (N : Int) by omega) (hb x2) (fun g1 eg1 => ?_)
        have eg1 : g1 = jup g a x2 a1 := eg1
        have e1 : jw32 (x2 + 1) = x2 + 1 := j32e (by omega) (by omega)
        show jGo E l 106 229 229 _ 6 [.inr (.inr (.inl a)), .inr (.inl a1), .inr (.inr (.inr ())), .inl (jw32 (x2 + 1)), .inl N] [] 229 jr0 g1
        rw [e1]
        refine ih _ g1 (by omega) (fun k h0 h1 => ?_) (jfr_up hf eg1 rfl) (by omega)
        by_cases hk : k = x2
        · subst hk; exact jup_s eg1
        · rw [jup_o eg1 (by omega)]; exact hv k h0 (by omega)
  refine jGo_blk qJ7_fill_d0a16_0 ?_
  refine st_al ha ⟨by decide, by decide⟩ ?_
  show jGo E l 106 229 229 _ 6 [.inr (.inr (.inl a)), .inr (.inl a1), .inr (.inr (.inr ())), .inl 0, .inl N] [] 229 jr0 h
  exact key (N + 1) 0 h (by omega) (fun k h0 h1 => absurd h1 (by omega)) (jfr_rf _ _) (by omega)
