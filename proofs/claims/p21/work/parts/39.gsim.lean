/-! ===== THE LINE IS MADE ===== -/
def jUnw (h : JH) (k : Int) : Prop := h (36 + 3 * k) 3 = 0 ∨ h (36 + 3 * k) 3 = 1
def jLk (h : JH) (k : Int) : Int := (99 - h (36 + 3 * k) 1) * 16 + k
/-- a line of n and a hole, of the hulls ahead of m -/
def jHo (h g : JH) (m n a : Int) : Prop :=
  (∀ i : Int, 0 ≤ i → i ≤ n → ¬ i = a → 0 ≤ g 34 i ∧ g 34 i < m ∧ jUnw h (g 34 i)) ∧
  (∀ i j : Int, 0 ≤ i → i < j → j ≤ n → ¬ i = a → ¬ j = a → jLk h (g 34 i) < jLk h (g 34 j)) ∧
  (∀ k : Int, 0 ≤ k → k < m → jUnw h k → ∃ i : Int, 0 ≤ i ∧ i ≤ n ∧ ¬ i = a ∧ g 34 i = k)
theorem jHo_0 (h g : JH) : jHo h g 0 0 0 := ⟨fun i a b c => absurd (show i = 0 by omega) c, fun i j a b c d e => absurd (show j = 0 by omega) e, fun k a b _ => absurd b (by omega)⟩
theorem jHo_no {h g : JH} {m n : Int} (H : jHo h g m n n) (u : ¬ jUnw h m) : jHo h g (m + 1) n n := by
  obtain ⟨h1, h2, h3⟩ := H
  refine ⟨fun i a b c => ?_, h2, fun k a b c => ?_⟩
  · obtain ⟨q1, q2, q3⟩ := h1 i a b c
    exact ⟨q1, by omega, q3⟩
  · by_cases z : k = m
    · rw [z] at c; exact absurd c u
    · exact h3 k a (by omega) c
theorem jHo_mv {h g g' : JH} {m n a : Int} (H : jHo h g m n a) (a0 : 0 < a) (an : a ≤ n) (e1 : g' 34 a = g 34 (a - 1)) (e2 : ∀ i : Int, ¬ i = a → g' 34 i = g 34 i) : jHo h g' m n (a - 1) := by
  obtain ⟨h1, h2, h3⟩ := H
  -- every slot but the hole holds what an elder slot held
  have s : ∀ i : Int, 0 ≤ i → i ≤ n → ¬ i = a - 1 → ∃ i' : Int, 0 ≤ i' ∧ i' ≤ n ∧ ¬ i' = a ∧ g' 34 i = g 34 i' ∧ ((i = a ∧ i' = a - 1) ∨ (¬ i = a ∧ i' = i)) := fun i b c d => by
    by_cases z : i = a
    · exact ⟨a - 1, by omega, by omega, by omega, by rw [z]; exact e1, Or.inl ⟨z, rfl⟩⟩
    · exact ⟨i, b, c, z, e2 i z, Or.inr ⟨z, rfl⟩⟩
  refine ⟨fun i b c d => ?_, fun i j b c d e f => ?_, fun k b c d => ?_⟩
  · obtain ⟨i', p1, p2, p3, p4, _⟩ := s i b c d
    rw [p4]; exact h1 i' p1 p2 p3
  · obtain ⟨i', p1, p2, p3, p4, p5⟩ := s i b (by omega) e
    obtain ⟨j', q1, q2, q3, q4, q5⟩ := s j (by omega) d f
    rw [p4, q4]
    exact h2 i' j' p1 (by omega) q2 p3 q3
  · obtain ⟨i, p1, p2, p3, p4⟩ := h3 k b c d
    by_cases z : i = a - 1
    · exact ⟨a, by omega, an, by omega, by rw [e1, ← z]; exact p4⟩
    · exact ⟨i, p1, p2, z, by rw [e2 i p3]; exact p4⟩
theorem jHo_in {h g g' : JH} {m n a : Int} (H : jHo h g m n a) (a0 : 0 ≤ a) (an : a ≤ n) (m0 : 0 ≤ m ∧ m < 16) (u : jUnw h m) (r1 : ∀ j : Int, a < j → j ≤ n → h (36 + 3 * g 34 j) 1 < h (36 + 3 * m) 1) (r2 : a = 0 ∨ h (36 + 3 * m) 1 ≤ h (36 + 3 * g 34 (a - 1)) 1) (e1 : g' 34 a = m) (e2 : ∀ i : Int, ¬ i = a → g' 34 i = g 34 i) : jHo h g' (m + 1) (n + 1) (n + 1) := by
  obtain ⟨h1, h2, h3⟩ := H
  have lo : ∀ i : Int, 0 ≤ i → i < a → jLk h (g 34 i) < jLk h m := fun i b c => by
    rcases r2 with r2 | r2
    · omega
    · obtain ⟨q1, q2, q3⟩ := h1 (a - 1) (by omega) (by omega) (by omega)
      have k1 : jLk h (g 34 (a - 1)) < jLk h m := by unfold jLk; omega
      by_cases z : i = a - 1
      · rw [z]; exact k1
      · have := h2 i (a - 1) b (by omega) (by omega) (by omega) (by omega); omega
  have hi : ∀ j : Int, a < j → j ≤ n → jLk h m < jLk h (g 34 j) := fun j b c => by
    obtain ⟨q1, q2, q3⟩ := h1 j (by omega) c (by omega)
    have := r1 j b c
    unfold jLk; omega
  refine ⟨fun i b c d => ?_, fun i j b c d e f => ?_, fun k b c d => ?_⟩
  · by_cases z : i = a
    · rw [z, e1]; exact ⟨m0.1, by omega, u⟩
    · rw [e2 i z]
      obtain ⟨q1, q2, q3⟩ := h1 i b (by omega) z
      exact ⟨q1, by omega, q3⟩
  · by_cases z : i = a
    · rw [z, e1, e2 j (by omega)]; exact hi j (by omega) (by omega)
    · by_cases y : j = a
      · rw [y, e1, e2 i z]; exact lo i b (by omega)
      · rw [e2 i z, e2 j y]; exact h2 i j b c (by omega) z y
  · by_cases z : k = m
    · exact ⟨a, a0, by omega, by omega, by rw [z]; exact e1⟩
    · obtain ⟨i, p1, p2, p3, p4⟩ := h3 k b (by omega) d
      exact ⟨i, p1, by omega, by omega, by rw [e2 i p3]; exact p4⟩
theorem jHo_fr {h g g' : JH} {m n a : Int} (H : jHo h g m n a) (e2 : ∀ i : Int, g' 34 i = g 34 i) : jHo h g' m n a := by
  unfold jHo at H ⊢
  rw [jfn e2]
  exact H
/-! ===== DECREES WHILE DAYS PASS ===== -/
def jSrt (h : JH) : Prop := ∀ i j : Int, 0 ≤ i → i < j → j < h 11 0 → h 14 i ≤ h 14 j
def jCd (h : JH) (d : Int) : Prop := jCo h ∧ 0 ≤ h 11 5 ∧ h 11 5 ≤ h 11 0 ∧ ∀ i : Int, 0 ≤ i → i < h 11 5 → h 14 i ≤ d
def jGOP (d : Int) (h g : JH) : Prop := (jCo h → jCo g) ∧ h 11 5 ≤ g 11 5 ∧ (∀ i : Int, h 11 5 ≤ i → i < g 11 5 → h 14 i ≤ d) ∧ (h 11 5 ≤ h 11 0 → g 11 5 ≤ h 11 0) ∧ (h 11 0 ≤ g 11 5 ∨ d < h 14 (g 11 5))
theorem jCo_fr {g g' : JH} (e : ∀ i k : Int, 11 ≤ i → i ≤ 15 → g' i k = g i k) (q : jCo g) : jCo g' := fun t a b => by
  rw [e 15 t (by decide) (by decide), e 11 5 (by decide) (by decide), jfn (fun k => e 12 k (by decide) (by decide)), jfn (fun k => e 13 k (by decide) (by decide))]
  exact q t a b
theorem jGOP_fr {d : Int} {h g g' : JH} (e : ∀ i k : Int, 11 ≤ i → i ≤ 15 → g' i k = g i k) (q : jGOP d h g) : jGOP d h g' := by
  obtain ⟨q1, q2, q3, q4, q5⟩ := q
  unfold jGOP
  rw [e 11 5 (by decide) (by decide)]
  exact ⟨fun z => jCo_fr e (q1 z), q2, q3, q4, q5⟩
def jcF (h : JH) (t d : Int) : Int := (jcv (h 12) (h 13) (h 14) t d (h 11 0).toNat).1
theorem jCd_go {h g : JH} {d d' : Int} (S : jSrt h) (C : jCd h d) (hd : d ≤ d') (G : jGOP d' h g) (e : ∀ i k : Int, 12 ≤ i → i ≤ 14 → g i k = h i k) (e0 : g 11 0 = h 11 0) : jCd g d' ∧ ∀ t : Int, 0 ≤ t → t ≤ 9 → g 15 t = jcF h t d' := by
  obtain ⟨c1, c2, c3, c4⟩ := C
  obtain ⟨g1, g2, g3, g4, g5⟩ := G
  have lo : ∀ i : Int, 0 ≤ i → i < g 11 5 → h 14 i ≤ d' := fun i a b => by
    by_cases z : i < h 11 5
    · have := c4 i a z; omega
    · exact g3 i (by omega) b
  refine ⟨⟨g1 c1, by omega, by have := g4 c3; omega, fun i a b => by rw [e 14 i (by decide) (by decide)]; exact lo i a b⟩, fun t a b => ?_⟩
  rw [g1 c1 t a b, jfn (fun k => e 12 k (by decide) (by decide)), jfn (fun k => e 13 k (by decide) (by decide))]
  unfold jcF
  refine (jov_cv (S := h 12) (N := h 13) (D := h 14) (s := t) (d := d') (p := (g 11 5).toNat) (fun j hj => ?_) (h 11 0).toNat (by have := g4 c3; omega) (fun j b0 b1 => ?_)).symm
  · exact lo j (by omega) (by omega)
  · rcases g5 with z | z
    · omega
    · by_cases y : (j : Int) = g 11 5
      · rw [y]; exact z
      · have := S (g 11 5) j (by omega) (by omega) (by omega); omega
theorem jHd_c {h h' : JH} {c d : Int} (e : ∀ i k : Int, 3 ≤ i → i ≤ 10 → h' i k = h i k) (b : -1 ≤ h 4 c ∧ h 4 c ≤ 3) : jHd h' c d = jHd h c d := by
  unfold jHd
  rw [e 4 c (by decide) (by decide), e 3 c (by decide) (by decide), e 10 _ (by decide) (by decide), e (6 + h 4 c) _ (by omega) (by omega)]
/-- what write leaves in an almanac's row -/
def jWri (A r d : Int) (h g : JH) : Prop :=
  jGOP d h g ∧ g (A + 1) r = (if ¬ g 15 8 = 0 ∧ d.tmod (g 15 8) = 0 then 0 else g 15 9) ∧
  (∀ c : Int, 0 ≤ c → c < 4 → g A (r * 4 + c) = jHd h c d ∧ 0 ≤ g A (r * 4 + c) ∧ g A (r * 4 + c) ≤ 400) ∧
  (∀ c : Int, 0 ≤ c → c < 4 → 0 ≤ jHd h c d * g 15 (4 + c) ∧ jHd h c d * g 15 (4 + c) ≤ 80000) ∧
  g (A + 3) r = jHd h 0 d * g 15 4 + jHd h 1 d * g 15 5 + jHd h 2 d * g 15 6 + jHd h 3 d * g 15 7 ∧ 0 ≤ g (A + 1) r ∧
  (∀ k : Int, ¬ (r * 4 ≤ k ∧ k < r * 4 + 4) → g A k = h A k) ∧ (∀ i k : Int, A + 1 ≤ i → i ≤ A + 3 → ¬ k = r → g i k = h i k)
/-- trees grow -/
def jGw (t : Int) (h : JH) : JH := if h 88 t = -9 then jup h 87 t (jw32 (h 87 t + h 90 (h 85 t))) else h
