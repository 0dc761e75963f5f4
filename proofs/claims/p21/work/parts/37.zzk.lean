/-! ===== PICTURES THAT ARE ALIKE BUT FOR WHAT ISN'T SHOWN ===== -/
def jSx (g h : JH) : Prop := ∀ i k : Int, ¬ i = 1 → ¬ i = 111 → g i k = h i k
def jSy (g h : JH) : Prop := ∀ i k : Int, ¬ i = 219 → g i k = h i k
theorem jup_cc {g h : JH} {i k x i' k' x' a b : Int} (e1 : i = i') (e2 : k = k') (e3 : x = x') (e : g a b = h a b) : jup g i k x a b = jup h i' k' x' a b := by
  subst e1; subst e2; subst e3
  unfold jup
  by_cases z : a = i ∧ b = k
  · rw [if_pos z, if_pos z]
  · rw [if_neg z, if_neg z]; exact e
/-! a hull begins; goods come back; inventories -/
def jBgn (u a b c : Int) (h : JH) : JH := jup (jup (jup (jup (jup (jup h u 0 a) u 1 b) u 2 c) u 3 0) u 4 (-9)) u 9 (-9)
def jSto (S g n : Int) (h : JH) : JH := jup h S g (jw32 (h S g + jmin n (jw32 (1000000 - h S g))))
def jBk (u g : Int) (h : JH) : JH := jSto 30 g (jw32 ((h (u + 2) g).tdiv 2)) h
def jBkx (u g : Int) (h : JH) : Int := jmin (jw32 ((h (u + 2) g).tdiv 2)) (jw32 (1000000 - h 30 g))
def jmBk (k g : Int) (h : JH) : JH := jup h 181 g (jw32 (h 181 g + jmii (jw32 ((h 200 (6 * k + g)).tdiv 2)) (jw32 (1000000 - h 181 g))))
def jmBkx (k g : Int) (h : JH) : Int := jmii (jw32 ((h 200 (6 * k + g)).tdiv 2)) (jw32 (1000000 - h 181 g))
/-- a sum that goes along with a way -/
def jsu (f : Int → JH → JH) (v : Int → JH → Int) : Nat → JH → Int
  | 0, _ => 0
  | n + 1, h => jw32 (jsu f v n h + v n (jit f n h))
theorem jsu_s {f : Int → JH → JH} {v : Int → JH → Int} {h : JH} {i : Int} (h0 : 0 ≤ i) : jsu f v (i + 1).toNat h = jw32 (jsu f v i.toNat h + v i (jit f i.toNat h)) := by
  obtain ⟨n, rfl⟩ := Int.eq_ofNat_of_zero_le h0
  rfl
/-- the day of the last inventory of a good, 0 without -/
def jLb (G D : Int → Int) (g : Int) : Nat → Int
  | 0 => 0
  | n + 1 => if G n = g then D n else jLb G D g n
theorem jLb_s {G D : Int → Int} {g i : Int} (h0 : 0 ≤ i) : jLb G D g (i + 1).toNat = if G i = g then D i else jLb G D g i.toNat := by
  obtain ⟨n, rfl⟩ := Int.eq_ofNat_of_zero_le h0
  rfl
theorem jSto_c {g h : JH} {S q n n' a b : Int} (en : n = n') (e0 : g S q = h S q) (e : g a b = h a b) : jSto S q n g a b = jSto S q n' h a b := by
  unfold jSto
  rw [e0, en]
  exact jup_cc rfl rfl rfl e
theorem jBgn_c {g h : JH} {u u' x y z x' y' z' a b : Int} (eu : u = u') (e1 : x = x') (e2 : y = y') (e3 : z = z') (e : g a b = h a b) : jBgn u x y z g a b = jBgn u' x' y' z' h a b := by
  unfold jBgn
  exact jup_cc eu rfl rfl (jup_cc eu rfl rfl (jup_cc eu rfl rfl (jup_cc eu rfl e3 (jup_cc eu rfl e2 (jup_cc eu rfl e1 e)))))
/-! the worst inventory -/
theorem jmwl {a b : Int} (h1 : -2147483648 ≤ a) (h2 : a ≤ 2147483647) (h3 : -4000 ≤ b) (h4 : b ≤ 4000) : jw64 (a * b) = a * b := by
  by_cases h0 : 0 ≤ b
  · have u := Int.mul_le_mul_of_nonneg_right h2 h0
    have v := Int.mul_le_mul_of_nonneg_right h1 h0
    exact j64e (by omega) (by omega)
  · have h5 : 0 ≤ -b := by omega
    have u := Int.mul_le_mul_of_nonneg_right h2 h5
    have v := Int.mul_le_mul_of_nonneg_right h1 h5
    have w : a * -b = -(a * b) := Int.mul_neg a b
    exact j64e (by omega) (by omega)
def jSpn (D B : Int → Int) (i : Int) : Int := if 1 < D i - B i then D i - B i else 1
def jWst (G D P B : Int → Int) (g : Int) : Nat → Int
  | 0 => -9
  | n + 1 => if G n = g ∧ 0 < P n ∧ (jWst G D P B g n < 0 ∨ P (jWst G D P B g n) * jSpn D B n < P n * jSpn D B (jWst G D P B g n)) then (n : Int) else jWst G D P B g n
theorem jWst_s {G D P B : Int → Int} {g i : Int} (h0 : 0 ≤ i) : jWst G D P B g (i + 1).toNat = if G i = g ∧ 0 < P i ∧ (jWst G D P B g i.toNat < 0 ∨ P (jWst G D P B g i.toNat) * jSpn D B i < P i * jSpn D B (jWst G D P B g i.toNat)) then i else jWst G D P B g i.toNat := by
  obtain ⟨n, rfl⟩ := Int.eq_ofNat_of_zero_le h0
  rfl
theorem jWst_c {G D P B G' D' P' B' : Int → Int} {g : Int} : ∀ n : Nat, (∀ i : Int, 0 ≤ i → i < n → G' i = G i ∧ D' i = D i ∧ P' i = P i ∧ B' i = B i) → jWst G' D' P' B' g n = jWst G D P B g n ∧ (jWst G D P B g n = -9 ∨ (0 ≤ jWst G D P B g n ∧ jWst G D P B g n < n))
  | 0, _ => ⟨rfl, Or.inl rfl⟩
  | n + 1, h => by
      obtain ⟨i1, i2⟩ := jWst_c (g := g) n (fun i a b => h i a (by omega))
      obtain ⟨a, b, c, d⟩ := h n (by omega) (by omega)
      have sn : jSpn D' B' n = jSpn D B n := by unfold jSpn; rw [b, d]
      have st : jWst G D P B g (n + 1) = if G n = g ∧ 0 < P n ∧ (jWst G D P B g n < 0 ∨ P (jWst G D P B g n) * jSpn D B n < P n * jSpn D B (jWst G D P B g n)) then (n : Int) else jWst G D P B g n := rfl
      have st' : jWst G' D' P' B' g (n + 1) = if G' n = g ∧ 0 < P' n ∧ (jWst G' D' P' B' g n < 0 ∨ P' (jWst G' D' P' B' g n) * jSpn D' B' n < P' n * jSpn D' B' (jWst G' D' P' B' g n)) then (n : Int) else jWst G' D' P' B' g n := rfl
      rw [st', i1, st, a, c, sn]
      generalize jWst G D P B g n = w at i2
      rcases i2 with i2 | i2
      · have e : (w < 0 ∨ P' w * jSpn D B n < P n * jSpn D' B' w) ↔ (w < 0 ∨ P w * jSpn D B n < P n * jSpn D B w) := ⟨fun _ => Or.inl (by omega), fun _ => Or.inl (by omega)⟩
        simp only [e]
        refine ⟨trivial, ?_⟩
        by_cases z : G n = g ∧ 0 < P n ∧ (w < 0 ∨ P w * jSpn D B n < P n * jSpn D B w)
        · rw [if_pos z]; exact Or.inr ⟨by omega, by omega⟩
        · rw [if_neg z]; exact Or.inl i2
      · obtain ⟨a', b', c', d'⟩ := h w i2.1 (by omega)
        have sw : jSpn D' B' w = jSpn D B w := by unfold jSpn; rw [b', d']
        rw [c', sw]
        refine ⟨rfl, ?_⟩
        by_cases z : G n = g ∧ 0 < P n ∧ (w < 0 ∨ P w * jSpn D B n < P n * jSpn D B w)
        · rw [if_pos z]; exact Or.inr ⟨by omega, by omega⟩
        · rw [if_neg z]; exact Or.inr ⟨i2.1, by omega⟩
