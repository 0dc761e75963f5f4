/-! ===== THE YARD, CALL BY CALL ===== -/
def jwy (i k : Int) : Prop := (30 ≤ i ∧ i ≤ 32) ∨ (36 ≤ i ∧ i ≤ 83 ∧ ¬ k = 10)
def jmy (i k : Int) : Prop := ((i = 181 ∨ i = 202 ∨ i = 203) ∧ 0 ≤ k ∧ k < 6) ∨ (189 ≤ i ∧ i ≤ 198 ∧ 0 ≤ k ∧ k < 16) ∨ (199 ≤ i ∧ i ≤ 200 ∧ 0 ≤ k ∧ k < 96) ∨ (i = 176 ∧ k = 14)
def jYd2 (hc hm : JH) : Prop := jR2 29 (jDn 16) hc hm ∧ (∀ k : Int, 0 ≤ k → k < 16 → hc (36 + 3 * k) 1 = hm 190 k ∧ hc (36 + 3 * k) 2 = hm 191 k) ∧
  (∀ b : Int, 0 ≤ b → b < 6 → (hm 202 b = 100 → hc 32 b = hm 203 b ∧ 0 ≤ hm 203 b ∧ hm 203 b ≤ 1000) ∧ (¬ hm 202 b = 100 → hc 32 b = 0)) ∧ jNd hm
theorem jYd2_fr {hc hm X Z : JH} (cf : ∀ i k : Int, jwy i k → X i k = hc i k) (mf : ∀ i k : Int, jmy i k → Z i k = hm i k) (Y : jYd2 hc hm) : jYd2 X Z := by
  obtain ⟨R, K, P, N⟩ := Y
  refine ⟨jR2_fr jDn_16 (fun i k q q2 => cf i k (by unfold jwy; omega)) (fun i k q => mf i k (by unfold jmy; omega)) R, fun k a b => ?_, fun b a c => ?_, jNd_fr (fun i j q => mf i j (by unfold jmy; omega)) N⟩
  · rw [cf _ 1 (by unfold jwy; omega), cf _ 2 (by unfold jwy; omega), mf 190 k (by unfold jmy; omega), mf 191 k (by unfold jmy; omega)]; exact K k a b
  · rw [mf 202 b (by unfold jmy; omega), mf 203 b (by unfold jmy; omega), cf 32 b (by unfold jwy; omega)]; exact P b a c
/-- stock -/
theorem jY_st {hc hm X Z : JH} (cf : ∀ i k : Int, jwy i k → ¬ i = 30 → X i k = hc i k) (mf : ∀ i k : Int, jmy i k → ¬ i = 181 → Z i k = hm i k) (st : ∀ g : Int, 0 ≤ g → g < 6 → X 30 g = Z 181 g ∧ 0 ≤ Z 181 g ∧ Z 181 g ≤ 1000000) (Y : jYd2 hc hm) : jYd2 X Z := by
  obtain ⟨R, K, P, N⟩ := Y
  refine ⟨⟨st, fun b a c => ?_, fun k hk => ?_⟩, fun k a b => ?_, fun b a c => ?_, jNd_fr (fun i j q => mf i j (by unfold jmy; omega) (by omega)) N⟩
  · exact jBR_fr (cf _ _ (by unfold jwy; omega) (by omega)) (mf _ _ (by unfold jmy; omega) (by omega)) (fun k _ _ _ => ⟨mf _ _ (by unfold jmy; omega) (by omega), mf _ _ (by unfold jmy; omega) (by omega)⟩) (R.2.1 b a c)
  · have := jDn_16 k hk
    exact jHR_fr (fun f q => cf _ _ (by unfold jwy; omega) (by omega)) (fun f _ _ => cf _ _ (by unfold jwy; omega) (by omega)) (fun f _ _ => cf _ _ (by unfold jwy; omega) (by omega)) (fun i _ _ => mf _ _ (by unfold jmy; omega) (by omega)) (fun i g _ _ _ _ => mf _ _ (by unfold jmy; omega) (by omega)) (R.2.2 k hk)
  · rw [cf _ 1 (by unfold jwy; omega) (by omega), cf _ 2 (by unfold jwy; omega) (by omega), mf 190 k (by unfold jmy; omega) (by omega), mf 191 k (by unfold jmy; omega) (by omega)]; exact K k a b
  · rw [mf 202 b (by unfold jmy; omega) (by omega), mf 203 b (by unfold jmy; omega) (by omega), cf 32 b (by unfold jwy; omega) (by omega)]; exact P b a c
/-- a berth and its planks -/
theorem jY_bt {hc hm X Z : JH} {b0 : Int} (cf : ∀ i k : Int, jwy i k → ¬ ((i = 31 ∨ i = 32) ∧ k = b0) → X i k = hc i k) (mf : ∀ i k : Int, jmy i k → ¬ ((i = 202 ∨ i = 203) ∧ k = b0) → Z i k = hm i k)
    (nb : (X 31 b0 = -1 ∧ Z 202 b0 = -1 ∧ X 32 b0 = 0) ∨ (X 31 b0 = -2 ∧ Z 202 b0 = 100 ∧ X 32 b0 = Z 203 b0 ∧ 0 ≤ Z 203 b0 ∧ Z 203 b0 ≤ 1000)) (Y : jYd2 hc hm) : jYd2 X Z := by
  obtain ⟨R, K, P, N⟩ := Y
  refine ⟨⟨fun g a c => ?_, fun b a c => ?_, fun k hk => ?_⟩, fun k a b => ?_, fun b a c => ?_, jNd_fr (fun i j q => mf i j (by unfold jmy; omega) (by omega)) N⟩
  · rw [cf _ _ (by unfold jwy; omega) (by omega), mf _ _ (by unfold jmy; omega) (by omega)]; exact R.1 g a c
  · by_cases z : b = b0
    · subst z
      rcases nb with ⟨n1, n2, _⟩ | ⟨n1, n2, _⟩
      · exact Or.inl ⟨n1, n2⟩
      · exact Or.inr (Or.inl ⟨n1, n2⟩)
    · exact jBR_fr (cf _ _ (by unfold jwy; omega) (by omega)) (mf _ _ (by unfold jmy; omega) (by omega)) (fun k _ _ _ => ⟨mf _ _ (by unfold jmy; omega) (by omega), mf _ _ (by unfold jmy; omega) (by omega)⟩) (R.2.1 b a c)
  · have := jDn_16 k hk
    exact jHR_fr (fun f q => cf _ _ (by unfold jwy; omega) (by omega)) (fun f _ _ => cf _ _ (by unfold jwy; omega) (by omega)) (fun f _ _ => cf _ _ (by unfold jwy; omega) (by omega)) (fun i _ _ => mf _ _ (by unfold jmy; omega) (by omega)) (fun i g _ _ _ _ => mf _ _ (by unfold jmy; omega) (by omega)) (R.2.2 k hk)
  · rw [cf _ 1 (by unfold jwy; omega) (by omega), cf _ 2 (by unfold jwy; omega) (by omega), mf 190 k (by unfold jmy; omega) (by omega), mf 191 k (by unfold jmy; omega) (by omega)]; exact K k a b
  · by_cases z : b = b0
    · subst z
      rcases nb with ⟨n1, n2, n3⟩ | ⟨n1, n2, n3⟩
      · exact ⟨fun q => by omega, fun _ => n3⟩
      · exact ⟨fun _ => n3, fun q => absurd n2 q⟩
    · rw [mf 202 b (by unfold jmy; omega) (by omega), mf 203 b (by unfold jmy; omega) (by omega), cf 32 b (by unfold jwy; omega) (by omega)]; exact P b a c
/-- a priority -/
theorem jY_pr {hc hm X Z : JH} {k0 p : Int} (hk0 : 0 ≤ k0 ∧ k0 < 16) (cf : ∀ i k : Int, jwy i k → ¬ (i = 36 + 3 * k0 ∧ k = 1) → X i k = hc i k) (mf : ∀ i k : Int, jmy i k → ¬ (i = 190 ∧ k = k0) → Z i k = hm i k) (e1 : X (36 + 3 * k0) 1 = p) (e2 : Z 190 k0 = p) (Y : jYd2 hc hm) : jYd2 X Z := by
  obtain ⟨R, K, P, N⟩ := Y
  refine ⟨⟨fun g a c => ?_, fun b a c => ?_, fun k hk => ?_⟩, fun k a b => ?_, fun b a c => ?_, jNd_fr (fun i j q => mf i j (by unfold jmy; omega) (by omega)) N⟩
  · rw [cf _ _ (by unfold jwy; omega) (by omega), mf _ _ (by unfold jmy; omega) (by omega)]; exact R.1 g a c
  · exact jBR_fr (cf _ _ (by unfold jwy; omega) (by omega)) (mf _ _ (by unfold jmy; omega) (by omega)) (fun k _ _ _ => ⟨mf _ _ (by unfold jmy; omega) (by omega), mf _ _ (by unfold jmy; omega) (by omega)⟩) (R.2.1 b a c)
  · have k16 := jDn_16 k hk
    have q := R.2.2 k hk
    unfold jHR at q ⊢
    obtain ⟨q1, q2, q3, q4, q5⟩ := q
    have c : ∀ f : Int, ¬ f = 1 → ¬ f = 10 → X (29 + 7 + 3 * k) f = hc (29 + 7 + 3 * k) f := fun f a b => cf _ _ (by unfold jwy; omega) (by omega)
    have m : ∀ i : Int, 189 ≤ i → i ≤ 198 → ¬ i = 190 → Z i k = hm i k := fun i a b c => mf _ _ (by unfold jmy; omega) (by omega)
    rw [c 0 (by decide) (by decide), c 3 (by decide) (by decide), c 4 (by decide) (by decide), c 5 (by decide) (by decide), c 6 (by decide) (by decide), c 7 (by decide) (by decide), c 8 (by decide) (by decide), c 9 (by decide) (by decide), m 189 (by decide) (by decide) (by decide), m 192 (by decide) (by decide) (by decide), m 193 (by decide) (by decide) (by decide), m 194 (by decide) (by decide) (by decide), m 195 (by decide) (by decide) (by decide), m 196 (by decide) (by decide) (by decide), m 197 (by decide) (by decide) (by decide), m 198 (by decide) (by decide) (by decide)]
    refine ⟨q1, fun g a b => ?_, q3, fun z g a b => ?_, q5⟩
    · rw [cf _ g (by unfold jwy; omega) (by omega), mf 200 _ (by unfold jmy; omega) (by omega)]; exact q2 g a b
    · rw [cf _ g (by unfold jwy; omega) (by omega), mf 199 _ (by unfold jmy; omega) (by omega)]; exact q4 z g a b
  · rw [cf _ 2 (by unfold jwy; omega) (by omega), mf 191 k (by unfold jmy; omega) (by omega)]
    by_cases z : k = k0
    · rw [z, e1, e2]; exact ⟨rfl, by rw [← z]; exact (K k a b).2⟩
    · rw [cf _ 1 (by unfold jwy; omega) (by omega), mf 190 k (by unfold jmy; omega) (by omega)]; exact K k a b
  · rw [mf 202 b (by unfold jmy; omega) (by omega), mf 203 b (by unfold jmy; omega) (by omega), cf 32 b (by unfold jwy; omega) (by omega)]; exact P b a c
/-- a new hull -/
theorem jY_hu {hc hm X Z : JH} {k0 s p d : Int} (hk0 : 0 ≤ k0 ∧ k0 < 16) (hN : hm 176 14 = k0) (hs : 0 ≤ s ∧ s ≤ 2)
    (cf : ∀ i k : Int, jwy i k → ¬ (i = 36 + 3 * k0 ∧ (k ≤ 4 ∨ k = 9)) → X i k = hc i k) (mf : ∀ i k : Int, jmy i k → ¬ (((189 ≤ i ∧ i ≤ 193) ∨ i = 198) ∧ k = k0) → ¬ i = 176 → Z i k = hm i k)
    (x0 : X (36 + 3 * k0) 0 = s ∧ X (36 + 3 * k0) 1 = p ∧ X (36 + 3 * k0) 2 = d ∧ X (36 + 3 * k0) 3 = 0 ∧ X (36 + 3 * k0) 4 = -9 ∧ X (36 + 3 * k0) 9 = -9)
    (z0 : Z 189 k0 = s ∧ Z 190 k0 = p ∧ Z 191 k0 = d ∧ Z 192 k0 = 0 ∧ Z 193 k0 = -9 ∧ Z 198 k0 = -9 ∧ Z 176 14 = k0 + 1) (Y : jYd2 hc hm) : jYd2 X Z := by
  obtain ⟨R, K, P, N⟩ := Y
  obtain ⟨y0, y1, y2, y3, y4, y9⟩ := x0
  obtain ⟨w0, w1, w2, w3, w4, w9, wn⟩ := z0
  have u0 := N.2 k0 hk0.1 (by omega) hk0.2
  refine ⟨⟨fun g a c => ?_, fun b a c => ?_, fun k hk => ?_⟩, fun k a b => ?_, fun b a c => ?_, ⟨fun k g a b c d => ?_, fun k c a b => ?_⟩⟩
  · rw [cf _ _ (by unfold jwy; omega) (by omega), mf _ _ (by unfold jmy; omega) (by omega) (by omega)]; exact R.1 g a c
  · have r := R.2.1 b a c
    refine jBR_fr (cf _ _ (by unfold jwy; omega) (by omega)) (mf _ _ (by unfold jmy; omega) (by omega) (by omega)) (fun k e _ _ => ?_) r
    have n : k = k0 → ¬ hm 202 b = k := fun z y => by
      unfold jBR at r
      rw [y, z] at r
      rcases r with r | r | r <;> omega
    have n' : ¬ k = k0 := fun z => n z e.symm
    exact ⟨mf _ _ (by unfold jmy; omega) (by omega) (by omega), mf _ _ (by unfold jmy; omega) (by omega) (by omega)⟩
  · have k16 := jDn_16 k hk
    by_cases z : k = k0
    · subst z
      have q := R.2.2 k hk
      unfold jHR at q ⊢
      obtain ⟨⟨q1, q1', q1'', q8, _, _, _, ql⟩, q2, q3, q4, q5⟩ := q
      have e : ∀ f : Int, X (29 + 7 + 3 * k) f = X (36 + 3 * k) f := fun f => rfl
      have c : ∀ f : Int, 5 ≤ f → ¬ f = 9 → ¬ f = 10 → X (36 + 3 * k) f = hc (36 + 3 * k) f := fun f a b d => cf _ _ (by unfold jwy; omega) (by omega)
      have q5' := q5 (by omega)
      rw [e 0, e 3, e 4, e 6, e 7, e 8, e 9, y0, y3, y4, y9, w0, w3, w4, w9, c 6 (by decide) (by decide) (by decide), c 7 (by decide) (by decide) (by decide), c 8 (by decide) (by decide) (by decide), mf 197 k (by unfold jmy; omega) (by omega) (by omega)]
      refine ⟨⟨rfl, rfl, rfl, q8, rfl, hs.1, hs.2, ql⟩, fun g a b => ?_, fun q => absurd q (by decide), fun q => absurd q (by decide), fun _ => q5'⟩
      rw [cf _ g (by unfold jwy; omega) (by omega), mf 200 _ (by unfold jmy; omega) (by omega) (by omega)]; exact q2 g a b
    · exact jHR_fr (fun f q => cf _ _ (by unfold jwy; omega) (by omega)) (fun f _ _ => cf _ _ (by unfold jwy; omega) (by omega)) (fun f _ _ => cf _ _ (by unfold jwy; omega) (by omega)) (fun i _ _ => mf _ _ (by unfold jmy; omega) (by omega) (by omega)) (fun i g _ _ _ _ => mf _ _ (by unfold jmy; omega) (by omega) (by omega)) (R.2.2 k hk)
  · by_cases z : k = k0
    · rw [z, y1, y2, w1, w2]; exact ⟨rfl, rfl⟩
    · rw [cf _ 1 (by unfold jwy; omega) (by omega), cf _ 2 (by unfold jwy; omega) (by omega), mf 190 k (by unfold jmy; omega) (by omega) (by omega), mf 191 k (by unfold jmy; omega) (by omega) (by omega)]; exact K k a b
  · rw [mf 202 b (by unfold jmy; omega) (by omega) (by omega), mf 203 b (by unfold jmy; omega) (by omega) (by omega), cf 32 b (by unfold jwy; omega) (by omega)]; exact P b a c
  · have n := N.1 k g a b c d
    rw [mf 200 _ (by unfold jmy; omega) (by omega) (by omega)]
    by_cases z : k = k0
    · rw [z] at n ⊢
      rw [w3, if_pos rfl]; rw [if_pos u0] at n; exact n
    · rw [mf 192 k (by unfold jmy; omega) (by omega) (by omega), mf 193 k (by unfold jmy; omega) (by omega) (by omega)]; exact n
  · rw [mf 192 k (by unfold jmy; omega) (by omega) (by omega)]; exact N.2 k c (by omega) b
/-- a hull is broken up -/
theorem jBk_r {u : Int} {h : JH} (hu : 33 < u) : ∀ n : Nat, (∀ g : Int, 0 ≤ g → g < n → jit (jBk u) n h 30 g = jw32 (h 30 g + jmin (jw32 ((h (u + 2) g).tdiv 2)) (jw32 (1000000 - h 30 g)))) ∧ (∀ i k : Int, ¬ (i = 30 ∧ 0 ≤ k ∧ k < n) → jit (jBk u) n h i k = h i k)
  | 0 => ⟨fun g a c => absurd c (by omega), fun i k _ => rfl⟩
  | n + 1 => by
      obtain ⟨i1, i2⟩ := jBk_r (h := h) hu n
      have st : jit (jBk u) (n + 1) h = jup (jit (jBk u) n h) 30 n (jw32 (jit (jBk u) n h 30 n + jmin (jw32 ((jit (jBk u) n h (u + 2) n).tdiv 2)) (jw32 (1000000 - jit (jBk u) n h 30 n)))) := rfl
      rw [st]
      generalize jit (jBk u) n h = G at i1 i2
      rw [i2 30 n (by omega), i2 (u + 2) n (by omega)]
      refine ⟨fun g a c => ?_, fun i k q => ?_⟩
      · by_cases z : g = (n : Int)
        · rw [z]; exact jup_eq
        · rw [jup_ne (by omega)]; exact i1 g a (by omega)
      · rw [jup_ne (by omega)]; exact i2 i k (by omega)
theorem jmBk_r {k : Int} {h : JH} : ∀ n : Nat, (∀ g : Int, 0 ≤ g → g < n → jit (jmBk k) n h 181 g = jw32 (h 181 g + jmii (jw32 ((h 200 (6 * k + g)).tdiv 2)) (jw32 (1000000 - h 181 g)))) ∧ (∀ i j : Int, ¬ (i = 181 ∧ 0 ≤ j ∧ j < n) → jit (jmBk k) n h i j = h i j)
  | 0 => ⟨fun g a c => absurd c (by omega), fun i k _ => rfl⟩
  | n + 1 => by
      obtain ⟨i1, i2⟩ := jmBk_r (k := k) (h := h) n
      have st : jit (jmBk k) (n + 1) h = jup (jit (jmBk k) n h) 181 n (jw32 (jit (jmBk k) n h 181 n + jmii (jw32 ((jit (jmBk k) n h 200 (6 * k + n)).tdiv 2)) (jw32 (1000000 - jit (jmBk k) n h 181 n)))) := rfl
      rw [st]
      generalize jit (jmBk k) n h = G at i1 i2
      rw [i2 181 n (by omega), i2 200 _ (by omega)]
      refine ⟨fun g a c => ?_, fun i j q => ?_⟩
      · by_cases z : g = (n : Int)
        · rw [z]; exact jup_eq
        · rw [jup_ne (by omega)]; exact i1 g a (by omega)
      · rw [jup_ne (by omega)]; exact i2 i j (by omega)
/-- as much comes by the class as by the reference -/
theorem jBk_x {k : Int} {hc hm : JH} (hk : 0 ≤ k ∧ k < 16) (e1 : ∀ g : Int, 0 ≤ g → g < 6 → hc 30 g = hm 181 g) (e2 : ∀ g : Int, 0 ≤ g → g < 6 → hc (36 + 3 * k + 2) g = hm 200 (6 * k + g)) : ∀ n : Nat, n ≤ 6 → jsu (jBk (36 + 3 * k)) (jBkx (36 + 3 * k)) n hc = jsu (jmBk k) (jmBkx k) n hm
  | 0, _ => rfl
  | n + 1, hn => by
      have ih := jBk_x hk e1 e2 n (by omega)
      show jw32 (jsu (jBk (36 + 3 * k)) (jBkx (36 + 3 * k)) n hc + jBkx (36 + 3 * k) n (jit (jBk (36 + 3 * k)) n hc)) = jw32 (jsu (jmBk k) (jmBkx k) n hm + jmBkx k n (jit (jmBk k) n hm))
      rw [ih]
      unfold jBkx jmBkx
      rw [(jBk_r (by omega) n).2 _ _ (by omega), (jBk_r (by omega) n).2 _ _ (by omega), (jmBk_r n).2 _ _ (by omega), (jmBk_r n).2 _ _ (by omega), e1 n (by omega) (by omega), e2 n (by omega) (by omega), jmin_ii]
set_option maxHeartbeats 1000000 in
theorem jY_bk {hc hm : JH} {k : Int} (hk : 0 ≤ k ∧ k < 16) (h2 : hm 192 k = 2) (hN : k < hm 176 14) (Y : jYd2 hc hm) :
    jYd2 (jit (jBk (36 + 3 * k)) 6 (jup hc (36 + 3 * k) 3 3)) (jup (jit (jmBk k) 6 hm) 192 k 3) ∧ jsu (jBk (36 + 3 * k)) (jBkx (36 + 3 * k)) 6 (jup hc (36 + 3 * k) 3 3) = jsu (jmBk k) (jmBkx k) 6 hm := by
  have Rk := Y.1.2.2 k hk
  have Rs := Y.1.1
  have Nk := Y.2.2.2
  -- its state
  have Y1 : jYd2 (jup hc (36 + 3 * k) 3 3) (jup hm 192 k 3) := by
    obtain ⟨R, K, P, N⟩ := Y
    have cf : ∀ i j : Int, ¬ (i = 36 + 3 * k ∧ j = 3) → jup hc (36 + 3 * k) 3 3 i j = hc i j := fun i j q => jup_ne q
    have mf : ∀ i j : Int, ¬ (i = 192 ∧ j = k) → jup hm 192 k 3 i j = hm i j := fun i j q => jup_ne q
    have c3 : jup hc (36 + 3 * k) 3 3 (36 + 3 * k) 3 = 3 := jup_eq
    have m3 : jup hm 192 k 3 192 k = 3 := jup_eq
    generalize jup hc (36 + 3 * k) 3 3 = X at cf c3
    generalize jup hm 192 k 3 = Z at mf m3
    refine ⟨⟨fun g a c => ?_, fun b a c => ?_, fun k' hk' => ?_⟩, fun k' a b => ?_, fun b a c => ?_, ⟨fun k' g a b c d => ?_, fun k' c a b => ?_⟩⟩
    · rw [cf _ _ (by omega), mf _ _ (by omega)]; exact R.1 g a c
    · have r := R.2.1 b a c
      refine jBR_fr (cf _ _ (by omega)) (mf _ _ (by omega)) (fun k1 e _ _ => ?_) r
      have n' : ¬ k1 = k := fun z => by
        unfold jBR at r
        rw [← e, z] at r
        rcases r with r | r | r <;> omega
      exact ⟨mf _ _ (by omega), mf _ _ (by omega)⟩
    · have k16 := jDn_16 k' hk'
      by_cases z : k' = k
      · subst z
        have q := R.2.2 k' hk'
        unfold jHR at q ⊢
        obtain ⟨⟨q0, q3', q4', q8, q9, qa, qb, ql⟩, q2, q3, q4, q5⟩ := q
        have q5' := q5 (by omega)
        have e : ∀ f : Int, X (29 + 7 + 3 * k') f = X (36 + 3 * k') f := fun f => rfl
        rw [e 0, e 3, e 4, e 6, e 7, e 8, e 9, c3, m3, cf _ 0 (by omega), cf _ 4 (by omega), cf _ 6 (by omega), cf _ 7 (by omega), cf _ 8 (by omega), cf _ 9 (by omega), mf 189 _ (by omega), mf 193 _ (by omega), mf 197 _ (by omega), mf 198 _ (by omega)]
        refine ⟨⟨q0, rfl, q4', q8, q9, qa, qb, ql⟩, fun g a b => ?_, fun q => absurd q (by decide), fun q => absurd q (by decide), fun _ => q5'⟩
        rw [cf _ g (by omega), mf 200 _ (by omega)]; exact q2 g a b
      · exact jHR_fr (fun f q => cf _ _ (by omega)) (fun f _ _ => cf _ _ (by omega)) (fun f _ _ => cf _ _ (by omega)) (fun i _ _ => mf _ _ (by omega)) (fun i g _ _ _ _ => mf _ _ (by omega)) (R.2.2 k' hk')
    · rw [cf _ 1 (by omega), cf _ 2 (by omega), mf 190 k' (by omega), mf 191 k' (by omega)]; exact K k' a b
    · rw [mf 202 b (by omega), mf 203 b (by omega), cf 32 b (by omega)]; exact P b a c
    · have n := N.1 k' g a b c d
      rw [mf 200 _ (by omega), mf 193 k' (by omega)]
      by_cases z : k' = k
      · rw [z] at n ⊢
        rw [m3, if_neg (by decide), if_neg (by decide)]; rw [if_neg (by omega), if_neg (by omega)] at n; exact n
      · rw [mf 192 k' (by omega)]; exact n
    · rw [mf 176 14 (by omega)] at a
      rw [mf 192 k' (by omega)]; exact N.2 k' c a b
  obtain ⟨c1, c2⟩ := jBk_r (u := 36 + 3 * k) (h := jup hc (36 + 3 * k) 3 3) (by omega) 6
  obtain ⟨m1, m2⟩ := jmBk_r (k := k) (h := hm) 6
  have f0 : ∀ i j : Int, ¬ (i = 36 + 3 * k ∧ j = 3) → jup hc (36 + 3 * k) 3 3 i j = hc i j := fun i j q => jup_ne q
  have ne : ∀ g : Int, 0 ≤ g → g < 6 → hc (36 + 3 * k + 2) g = hm 200 (6 * k + g) := fun g a b => Rk.2.1 g a b
  refine ⟨jY_st (hc := jup hc (36 + 3 * k) 3 3) (hm := jup hm 192 k 3) (fun i j _ q => c2 i j (by omega)) (fun i j _ q => ?_) (fun g a b => ?_) Y1, jBk_x hk (fun g a b => by rw [f0 _ _ (by omega)]; exact (Rs g a b).1) (fun g a b => by rw [f0 _ _ (by omega)]; exact ne g a b) 6 (Nat.le_refl _)⟩
  · exact jup_cc rfl rfl rfl (m2 i j (by omega))
  · have w : jup (jit (jmBk k) 6 hm) 192 k 3 181 g = jit (jmBk k) 6 hm 181 g := jup_ne (by omega)
    rw [c1 g a b, w, m1 g a b, f0 30 g (by omega), f0 (36 + 3 * k + 2) g (by omega)]
    have s := Rs g a b
    have n := Nk.1 k g hk.1 hk.2 a b
    have e1 : hc 30 g = hm 181 g := s.1
    rw [e1, ne g a b, jmin_ii]
    rw [if_neg (by omega), if_neg (by omega)] at n
    have t : jw32 ((hm 200 (6 * k + g)).tdiv 2) = hm 200 (6 * k + g) / 2 := j32d (by omega) (by omega) (by omega)
    have v : jw32 (1000000 - hm 181 g) = 1000000 - hm 181 g := j32e (by omega) (by omega)
    rw [t, v]
    unfold jmii
    by_cases z : hm 200 (6 * k + g) / 2 < 1000000 - hm 181 g
    · rw [if_pos z, j32e (by omega) (by omega)]; exact ⟨rfl, by omega, by omega⟩
    · rw [if_neg z, j32e (by omega) (by omega)]; exact ⟨rfl, by omega, by omega⟩
