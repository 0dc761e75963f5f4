/-! ===== WHAT THE REFERENCE PUTS ASIDE, AND TAKES BACK ===== -/
def jSw (b i L k : Int) (h : JH) : JH := jup (if b = 0 then jup h 224 i (h L k) else h) L k (if b = 0 then h L k else h 224 i)
def jSh (b i k : Int) (h : JH) : JH := jup (if b = 0 then jup h 224 i (if h 196 k = 0 then 0 else 1) else h) 196 k (if (if b = 0 then (if h 196 k = 0 then 0 else 1) else h 224 i) = 1 then 1 else 0)
def jA0 (b : Int) (h : JH) : JH := jSw b 3 176 32 (jSw b 2 176 31 (jSw b 1 176 30 (jSw b 0 176 0 h)))
def jA1 (b g : Int) (h : JH) : JH := jSw b (10 + g) 202 g (jSw b (4 + g) 181 g h)
def jA2 (b k : Int) (h : JH) : JH := jSw b (20 + 16 * k + 7) 190 k (jSw b (20 + 16 * k + 6) 198 k (jSw b (20 + 16 * k + 5) 197 k (jSh b (20 + 16 * k + 4) k (jSw b (20 + 16 * k + 3) 195 k (jSw b (20 + 16 * k + 2) 194 k (jSw b (20 + 16 * k + 1) 193 k (jSw b (20 + 16 * k) 192 k h)))))))
def jA3 (b i k g : Int) (h : JH) : JH := jSw b (i + 8 + g) 199 (6 * k + g) h
def jA4 (b k : Int) (h : JH) : JH := jit (jA3 b (20 + 16 * k) k) 6 (jA2 b k h)
def jA5 (b k : Int) (h : JH) : JH := jup (jup h 225 k (if b = 0 then h 200 k else h 225 k)) 200 k (jup h 225 k (if b = 0 then h 200 k else h 225 k) 225 k)
def jA6 (b : Int) (h : JH) : JH := jit (jA4 b) 16 (jit (jA1 b) 6 (jA0 b h))
def jAs (b : Int) (h : JH) : JH := jit (jA5 b) 96 (jA6 b h)
/-- where what is kept at i belongs -/
def jLoc (i L k : Int) : Prop := (L = 176 ∧ ((i = 0 ∧ k = 0) ∨ (i = 1 ∧ k = 30) ∨ (i = 2 ∧ k = 31) ∨ (i = 3 ∧ k = 32))) ∨ (L = 181 ∧ 4 ≤ i ∧ i < 10 ∧ k = i - 4) ∨ (L = 202 ∧ 10 ≤ i ∧ i < 16 ∧ k = i - 10) ∨
  (0 ≤ k ∧ k < 16 ∧ ((192 ≤ L ∧ L ≤ 198 ∧ i = 20 + 16 * k + (L - 192)) ∨ (L = 190 ∧ i = 20 + 16 * k + 7))) ∨ (L = 199 ∧ 0 ≤ k ∧ k < 96 ∧ i = 28 + 16 * (k / 6) + k % 6)
theorem jLoc_f {i L k L' k' : Int} (h : jLoc i L k) (h' : jLoc i L' k') : L = L' ∧ k = k' := by
  unfold jLoc at h h'
  rcases h with h | h | h | h | h <;> rcases h' with h' | h' | h' | h' | h' <;> omega
theorem jLoc_i {i i' L k : Int} (h : jLoc i L k) (h' : jLoc i' L k) : i = i' := by
  unfold jLoc at h h'
  rcases h with h | h | h | h | h <;> rcases h' with h' | h' | h' | h' | h' <;> omega
theorem jLoc_n {i L k : Int} (h : jLoc i L k) : ¬ L = 224 ∧ ¬ L = 225 ∧ ¬ L = 200 := by
  unfold jLoc at h
  omega
theorem jSw_r {b i L k : Int} {h : JH} (hL : ¬ L = 224) : (jSw b i L k h 224 i = jSw b i L k h L k) ∧ (∀ a c : Int, ¬ (a = L ∧ c = k) → ¬ (a = 224 ∧ c = i) → jSw b i L k h a c = h a c) ∧ (b = 0 → ∀ a c : Int, ¬ a = 224 → jSw b i L k h a c = h a c) ∧ (¬ b = 0 → ∀ c : Int, jSw b i L k h 224 c = h 224 c) := by
  unfold jSw
  by_cases z : b = 0
  · rw [if_pos z, if_pos z]
    refine ⟨?_, fun a c p q => ?_, fun _ a c p => ?_, fun q => absurd z q⟩
    · rw [jup_ne (by omega), jup_eq, jup_eq]
    · rw [jup_ne p, jup_ne q]
    · by_cases y : a = L ∧ c = k
      · rw [y.1, y.2, jup_eq]
      · rw [jup_ne y, jup_ne (by omega)]
  · rw [if_neg z, if_neg z]
    refine ⟨?_, fun a c p q => ?_, fun q => absurd q z, fun _ c => ?_⟩
    · rw [jup_ne (by omega), jup_eq]
    · rw [jup_ne p]
    · rw [jup_ne (by omega)]
theorem jSh_r {b i k : Int} {h : JH} : (jSh b i k h 196 k = if jSh b i k h 224 i = 1 then 1 else 0) ∧ (∀ a c : Int, ¬ (a = 196 ∧ c = k) → ¬ (a = 224 ∧ c = i) → jSh b i k h a c = h a c) ∧ (b = 0 → (h 196 k = 0 ∨ h 196 k = 1) → ∀ a c : Int, ¬ a = 224 → jSh b i k h a c = h a c) ∧ (¬ b = 0 → ∀ c : Int, jSh b i k h 224 c = h 224 c) := by
  unfold jSh
  by_cases z : b = 0
  · rw [if_pos z, if_pos z]
    refine ⟨?_, fun a c p q => ?_, fun _ w a c p => ?_, fun q => absurd z q⟩
    · rw [jup_eq, jup_ne (by omega), jup_eq]
    · rw [jup_ne p, jup_ne q]
    · by_cases y : a = 196 ∧ c = k
      · rw [y.1, y.2, jup_eq]
        rcases w with w | w <;> rw [w] <;> rfl
      · rw [jup_ne y, jup_ne (by omega)]
  · rw [if_neg z, if_neg z]
    refine ⟨?_, fun a c p q => ?_, fun q => absurd q z, fun _ c => ?_⟩
    · rw [jup_eq, jup_ne (by omega)]
    · rw [jup_ne p]
    · rw [jup_ne (by omega)]
/-- what is kept at the places P is what lies where it belongs -/
def jKq (P : Int → Prop) (g : JH) : Prop := ∀ i L k : Int, jLoc i L k → P i → (L = 196 → g 196 k = if g 224 i = 1 then 1 else 0) ∧ (¬ L = 196 → g 224 i = g L k)
theorem jKq_sw {P : Int → Prop} {b i L k : Int} {h : JH} (l : jLoc i L k) (n : ¬ L = 196) (K : jKq P h) : jKq (fun j => P j ∨ j = i) (jSw b i L k h) := by
  obtain ⟨r1, r2, _, _⟩ := jSw_r (b := b) (i := i) (k := k) (h := h) (jLoc_n l).1
  intro i' L' k' l' p
  by_cases z : i' = i
  · subst z
    obtain ⟨e1, e2⟩ := jLoc_f l l'
    subst e1; subst e2
    exact ⟨fun q => absurd q n, fun _ => r1⟩
  · have o : ¬ (L' = L ∧ k' = k) := fun y => z (by rw [y.1, y.2] at l'; exact jLoc_i l' l)
    obtain ⟨k1, k2⟩ := K i' L' k' l' (p.elim id (fun q => absurd q z))
    have n' := (jLoc_n l').1
    rw [r2 224 i' (by have := (jLoc_n l).1; omega) (by omega), r2 L' k' o (by omega)]
    refine ⟨fun q => ?_, k2⟩
    rw [← q, r2 L' k' o (by omega), q]; exact k1 q
theorem jKq_sh {P : Int → Prop} {b i k : Int} {h : JH} (l : jLoc i 196 k) (K : jKq P h) : jKq (fun j => P j ∨ j = i) (jSh b i k h) := by
  obtain ⟨r1, r2, _, _⟩ := jSh_r (b := b) (i := i) (k := k) (h := h)
  intro i' L' k' l' p
  by_cases z : i' = i
  · subst z
    obtain ⟨e1, e2⟩ := jLoc_f l l'
    subst e1; subst e2
    exact ⟨fun _ => r1, fun q => absurd rfl q⟩
  · have o : ¬ (L' = 196 ∧ k' = k) := fun y => z (by rw [y.1, y.2] at l'; exact jLoc_i l' l)
    obtain ⟨k1, k2⟩ := K i' L' k' l' (p.elim id (fun q => absurd q z))
    have n' := (jLoc_n l').1
    rw [r2 224 i' (by omega) (by omega), r2 L' k' o (by omega)]
    refine ⟨fun q => ?_, k2⟩
    rw [← q, r2 L' k' o (by omega), q]; exact k1 q
theorem jKq_w {P Q : Int → Prop} {g : JH} (pq : ∀ i L k : Int, jLoc i L k → Q i → P i) (K : jKq P g) : jKq Q g := fun i L k l q => K i L k l (pq i L k l q)
/-- a step that keeps, or takes back, and nothing else -/
def jSt3 (b : Int) (h g : JH) : Prop := (b = 0 → (∀ k : Int, 0 ≤ k → k < 16 → h 196 k = 0 ∨ h 196 k = 1) → ∀ a c : Int, ¬ a = 224 → g a c = h a c) ∧ (¬ b = 0 → ∀ c : Int, g 224 c = h 224 c) ∧ (∀ a c : Int, ¬ a = 224 → ¬ a = 176 → ¬ a = 181 → ¬ a = 202 → ¬ (190 ≤ a ∧ a ≤ 199) → g a c = h a c) ∧ (∀ c : Int, g 189 c = h 189 c ∧ g 191 c = h 191 c) ∧ (∀ c : Int, ¬ c = 0 → ¬ (30 ≤ c ∧ c ≤ 32) → g 176 c = h 176 c)
theorem jSt3_rf (b : Int) (h : JH) : jSt3 b h h := ⟨fun _ _ _ _ _ => rfl, fun _ _ => rfl, fun _ _ _ _ _ _ _ => rfl, fun _ => ⟨rfl, rfl⟩, fun _ _ _ => rfl⟩
theorem jSt3_tr {b : Int} {h g g' : JH} (s : jSt3 b h g) (t : jSt3 b g g') : jSt3 b h g' := by
  obtain ⟨s1, s2, s3, s4, s5⟩ := s
  obtain ⟨t1, t2, t3, t4, t5⟩ := t
  refine ⟨fun z w a c p => ?_, fun z c => (t2 z c).trans (s2 z c), fun a c p1 p2 p3 p4 p5 => (t3 a c p1 p2 p3 p4 p5).trans (s3 a c p1 p2 p3 p4 p5), fun c => ⟨(t4 c).1.trans (s4 c).1, (t4 c).2.trans (s4 c).2⟩, fun c p q => (t5 c p q).trans (s5 c p q)⟩
  have e := s1 z w
  exact (t1 z (fun k a b => by rw [e 196 k (by decide)]; exact w k a b) a c p).trans (e a c p)
theorem jSt3_sw {b i L k : Int} {h : JH} (l : jLoc i L k) : jSt3 b h (jSw b i L k h) := by
  obtain ⟨r1, r2, r3, r4⟩ := jSw_r (b := b) (i := i) (k := k) (h := h) (jLoc_n l).1
  unfold jLoc at l
  exact ⟨fun z _ => r3 z, r4, fun a c p1 p2 p3 p4 p5 => r2 a c (by omega) (by omega), fun c => ⟨r2 _ _ (by omega) (by omega), r2 _ _ (by omega) (by omega)⟩, fun c p q => r2 _ _ (by omega) (by omega)⟩
theorem jSt3_sh {b i k : Int} {h : JH} (hk : 0 ≤ k ∧ k < 16) : jSt3 b h (jSh b i k h) := by
  obtain ⟨r1, r2, r3, r4⟩ := jSh_r (b := b) (i := i) (k := k) (h := h)
  exact ⟨fun z w => r3 z (w k hk.1 hk.2), r4, fun a c p1 p2 p3 p4 p5 => r2 a c (by omega) (by omega), fun c => ⟨r2 _ _ (by omega) (by omega), r2 _ _ (by omega) (by omega)⟩, fun c p q => r2 _ _ (by omega) (by omega)⟩
set_option maxHeartbeats 1000000 in
theorem jA0_r {b : Int} {h : JH} : jKq (fun j => j < 4) (jA0 b h) ∧ jSt3 b h (jA0 b h) := by
  have l0 : jLoc 0 176 0 := by unfold jLoc; omega
  have l1 : jLoc 1 176 30 := by unfold jLoc; omega
  have l2 : jLoc 2 176 31 := by unfold jLoc; omega
  have l3 : jLoc 3 176 32 := by unfold jLoc; omega
  have K0 : jKq (fun _ => False) h := fun _ _ _ _ q => absurd q id
  refine ⟨jKq_w (fun i L k l q => ?_) (jKq_sw l3 (by decide) (jKq_sw l2 (by decide) (jKq_sw l1 (by decide) (jKq_sw l0 (by decide) K0)))), jSt3_tr (jSt3_tr (jSt3_tr (jSt3_sw l0) (jSt3_sw l1)) (jSt3_sw l2)) (jSt3_sw l3)⟩
  unfold jLoc at l
  have : i = 0 ∨ i = 1 ∨ i = 2 ∨ i = 3 := by omega
  rcases this with z | z | z | z
  · exact Or.inl (Or.inl (Or.inl (Or.inr z)))
  · exact Or.inl (Or.inl (Or.inr z))
  · exact Or.inl (Or.inr z)
  · exact Or.inr z
theorem jA1_r {b : Int} {h : JH} (K : jKq (fun j => j < 4) h) : ∀ n : Nat, n ≤ 6 → jKq (fun j => j < 4 + n ∨ (10 ≤ j ∧ j < 10 + n)) (jit (jA1 b) n h) ∧ jSt3 b h (jit (jA1 b) n h)
  | 0, _ => ⟨jKq_w (fun i L k l q => by unfold jLoc at l; have q' : i < 4 + ((0 : Nat) : Int) ∨ (10 ≤ i ∧ i < 10 + ((0 : Nat) : Int)) := q; show i < 4; omega) K, jSt3_rf _ _⟩
  | n + 1, hn => by
      obtain ⟨i1, i2⟩ := jA1_r (b := b) K n (by omega)
      have l0 : jLoc (4 + (n : Int)) 181 n := by unfold jLoc; omega
      have l1 : jLoc (10 + (n : Int)) 202 n := by unfold jLoc; omega
      refine ⟨jKq_w (fun i L k l q => ?_) (jKq_sw (b := b) l1 (by decide) (jKq_sw (b := b) l0 (by decide) i1)), jSt3_tr i2 (jSt3_tr (jSt3_sw l0) (jSt3_sw l1))⟩
      have q' : i < 4 + ((n + 1 : Nat) : Int) ∨ (10 ≤ i ∧ i < 10 + ((n + 1 : Nat) : Int)) := q
      show ((i < 4 + (n : Int) ∨ (10 ≤ i ∧ i < 10 + (n : Int))) ∨ i = 4 + (n : Int)) ∨ i = 10 + (n : Int)
      omega
set_option maxHeartbeats 1000000 in
theorem jA2_r {b k : Int} {h : JH} (hk : 0 ≤ k ∧ k < 16) (K : jKq (fun j => j < 20 + 16 * k) h) : jKq (fun j => j < 28 + 16 * k) (jA2 b k h) ∧ jSt3 b h (jA2 b k h) := by
  have l0 : jLoc (20 + 16 * k) 192 k := by unfold jLoc; omega
  have l1 : jLoc (20 + 16 * k + 1) 193 k := by unfold jLoc; omega
  have l2 : jLoc (20 + 16 * k + 2) 194 k := by unfold jLoc; omega
  have l3 : jLoc (20 + 16 * k + 3) 195 k := by unfold jLoc; omega
  have l4 : jLoc (20 + 16 * k + 4) 196 k := by unfold jLoc; omega
  have l5 : jLoc (20 + 16 * k + 5) 197 k := by unfold jLoc; omega
  have l6 : jLoc (20 + 16 * k + 6) 198 k := by unfold jLoc; omega
  have l7 : jLoc (20 + 16 * k + 7) 190 k := by unfold jLoc; omega
  refine ⟨jKq_w (fun i L c l q => ?_) (jKq_sw (b := b) l7 (by decide) (jKq_sw (b := b) l6 (by decide) (jKq_sw (b := b) l5 (by decide) (jKq_sh (b := b) l4 (jKq_sw (b := b) l3 (by decide) (jKq_sw (b := b) l2 (by decide) (jKq_sw (b := b) l1 (by decide) (jKq_sw (b := b) l0 (by decide) K)))))))),
    jSt3_tr (jSt3_tr (jSt3_tr (jSt3_tr (jSt3_tr (jSt3_tr (jSt3_tr (jSt3_sw l0) (jSt3_sw l1)) (jSt3_sw l2)) (jSt3_sw l3)) (jSt3_sh hk)) (jSt3_sw l5)) (jSt3_sw l6)) (jSt3_sw l7)⟩
  have q' : i < 28 + 16 * k := q
  show (((((((i < 20 + 16 * k ∨ i = 20 + 16 * k) ∨ i = 20 + 16 * k + 1) ∨ i = 20 + 16 * k + 2) ∨ i = 20 + 16 * k + 3) ∨ i = 20 + 16 * k + 4) ∨ i = 20 + 16 * k + 5) ∨ i = 20 + 16 * k + 6) ∨ i = 20 + 16 * k + 7
  omega
theorem jA3_r {b k : Int} {h : JH} (hk : 0 ≤ k ∧ k < 16) (K : jKq (fun j => j < 28 + 16 * k) h) : ∀ n : Nat, n ≤ 6 → jKq (fun j => j < 28 + 16 * k + n) (jit (jA3 b (20 + 16 * k) k) n h) ∧ jSt3 b h (jit (jA3 b (20 + 16 * k) k) n h)
  | 0, _ => ⟨jKq_w (fun i L c l q => by have q' : i < 28 + 16 * k + ((0 : Nat) : Int) := q; show i < 28 + 16 * k; omega) K, jSt3_rf _ _⟩
  | n + 1, hn => by
      obtain ⟨i1, i2⟩ := jA3_r (b := b) hk K n (by omega)
      have l0 : jLoc (20 + 16 * k + 8 + (n : Int)) 199 (6 * k + n) := by unfold jLoc; omega
      refine ⟨jKq_w (fun i L c l q => ?_) (jKq_sw (b := b) l0 (by decide) i1), jSt3_tr i2 (jSt3_sw l0)⟩
      have q' : i < 28 + 16 * k + ((n + 1 : Nat) : Int) := q
      show i < 28 + 16 * k + (n : Int) ∨ i = 20 + 16 * k + 8 + (n : Int)
      omega
theorem jA4_r {b : Int} {h : JH} (K : jKq (fun j => j < 20) h) : ∀ n : Nat, n ≤ 16 → jKq (fun j => j < 20 + 16 * (n : Int)) (jit (jA4 b) n h) ∧ jSt3 b h (jit (jA4 b) n h)
  | 0, _ => ⟨jKq_w (fun i L c l q => by have q' : i < 20 + 16 * ((0 : Nat) : Int) := q; show i < 20; omega) K, jSt3_rf _ _⟩
  | n + 1, hn => by
      obtain ⟨i1, i2⟩ := jA4_r (b := b) K n (by omega)
      obtain ⟨a1, a2⟩ := jA2_r (b := b) (k := n) (by omega) i1
      obtain ⟨b1, b2⟩ := jA3_r (b := b) (k := n) (by omega) a1 6 (Nat.le_refl _)
      refine ⟨jKq_w (fun i L c l q => ?_) b1, jSt3_tr i2 (jSt3_tr a2 b2)⟩
      have q' : i < 20 + 16 * ((n + 1 : Nat) : Int) := q
      unfold jLoc at l
      show i < 28 + 16 * (n : Int) + ((6 : Nat) : Int)
      omega
theorem jA6_r {b : Int} {h : JH} : jKq (fun _ => True) (jA6 b h) ∧ jSt3 b h (jA6 b h) := by
  obtain ⟨a1, a2⟩ := jA0_r (b := b) (h := h)
  obtain ⟨b1, b2⟩ := jA1_r (b := b) a1 6 (Nat.le_refl _)
  obtain ⟨c1, c2⟩ := jA4_r (b := b) (h := jit (jA1 b) 6 (jA0 b h)) (jKq_w (fun i L c l q => by
    unfold jLoc at l
    have q' : i < 20 := q
    show i < 4 + ((6 : Nat) : Int) ∨ (10 ≤ i ∧ i < 10 + ((6 : Nat) : Int))
    omega) b1) 16 (Nat.le_refl _)
  refine ⟨jKq_w (fun i L c l q => ?_) c1, jSt3_tr a2 (jSt3_tr b2 c2)⟩
  unfold jLoc at l
  show i < 20 + 16 * ((16 : Nat) : Int)
  omega
theorem jA5_r {b : Int} {h : JH} : ∀ n : Nat, (∀ k : Int, 0 ≤ k → k < n → jit (jA5 b) n h 225 k = jit (jA5 b) n h 200 k) ∧ (∀ a c : Int, ¬ a = 225 → ¬ a = 200 → jit (jA5 b) n h a c = h a c) ∧ (b = 0 → ∀ c : Int, jit (jA5 b) n h 200 c = h 200 c) ∧ (¬ b = 0 → ∀ c : Int, jit (jA5 b) n h 225 c = h 225 c)
  | 0 => ⟨fun k a c => absurd c (by omega), fun a c _ _ => rfl, fun _ _ => rfl, fun _ _ => rfl⟩
  | n + 1 => by
      obtain ⟨i1, i2, i3, i4⟩ := jA5_r (b := b) (h := h) n
      have st : jit (jA5 b) (n + 1) h = jA5 b n (jit (jA5 b) n h) := rfl
      rw [st]
      generalize jit (jA5 b) n h = g at i1 i2 i3 i4
      have r : ∀ a c : Int, jA5 b n g a c = if a = 200 ∧ c = n then (if b = 0 then g 200 n else g 225 n) else if a = 225 ∧ c = n then (if b = 0 then g 200 n else g 225 n) else g a c := fun a c => by
        unfold jA5
        rw [jup_r, jup_eq]; rfl
      refine ⟨fun k a c => ?_, fun a c p q => ?_, fun z c => ?_, fun z c => ?_⟩
      · rw [r, r]
        generalize (if b = 0 then g 200 n else g 225 n) = x
        by_cases z : k = (n : Int)
        · rw [z, if_neg (by omega), if_pos ⟨rfl, rfl⟩, if_pos ⟨rfl, rfl⟩]
        · rw [if_neg (by omega), if_neg (by omega), if_neg (by omega), if_neg (by omega)]; exact i1 k a (by omega)
      · rw [r, if_neg (by omega), if_neg (by omega)]; exact i2 a c p q
      · rw [r, if_pos z]
        by_cases y : c = (n : Int)
        · rw [y, if_pos ⟨rfl, rfl⟩]; exact i3 z n
        · rw [if_neg (by omega), if_neg (by omega)]; exact i3 z c
      · rw [r, if_neg z]
        by_cases y : c = (n : Int)
        · rw [y, if_neg (by omega), if_pos ⟨rfl, rfl⟩]; exact i4 z n
        · rw [if_neg (by omega), if_neg (by omega)]; exact i4 z c
/-- g keeps what h is -/
def jSav (h g : JH) : Prop := (∀ i L k : Int, jLoc i L k → (L = 196 → h 196 k = if g 224 i = 1 then 1 else 0) ∧ (¬ L = 196 → g 224 i = h L k)) ∧ ∀ k : Int, 0 ≤ k → k < 96 → g 225 k = h 200 k
def jlv (L k : Int) : Prop := (∃ i : Int, jLoc i L k) ∨ (L = 200 ∧ 0 ≤ k ∧ k < 96)
theorem jAs_save {h : JH} (hb : ∀ k : Int, 0 ≤ k → k < 16 → h 196 k = 0 ∨ h 196 k = 1) : jSav h (jAs 0 h) ∧ ∀ a c : Int, ¬ a = 224 → ¬ a = 225 → jAs 0 h a c = h a c := by
  obtain ⟨a1, a2, _⟩ := jA6_r (b := 0) (h := h)
  obtain ⟨b1, b2, b3, _⟩ := jA5_r (b := 0) (h := jA6 0 h) 96
  unfold jAs
  have e := a2 rfl hb
  have same : ∀ a c : Int, ¬ a = 224 → ¬ a = 225 → jit (jA5 0) 96 (jA6 0 h) a c = h a c := fun a c p q => by
    by_cases z : a = 200
    · rw [z, b3 rfl c]; exact e 200 c (by decide)
    · rw [b2 a c q z]; exact e a c p
  refine ⟨⟨fun i L k l => ?_, fun k a c => ?_⟩, same⟩
  · obtain ⟨k1, k2⟩ := a1 i L k l trivial
    obtain ⟨n1, n2, n3⟩ := jLoc_n l
    rw [b2 224 i (by decide) (by decide)]
    exact ⟨fun q => by rw [← e 196 k (by decide)]; exact k1 q, fun q => by rw [← e L k n1]; exact k2 q⟩
  · rw [b1 k a (by omega)]; exact same 200 k (by decide) (by decide)
theorem jAs_rest {b : Int} {h q : JH} (hb : ¬ b = 0) (S : jSav h q) : (∀ L k : Int, jlv L k → jAs b q L k = h L k) ∧ (∀ a c : Int, ¬ a = 225 → ¬ a = 200 → ¬ a = 224 → ¬ a = 176 → ¬ a = 181 → ¬ a = 202 → ¬ (190 ≤ a ∧ a ≤ 199) → jAs b q a c = q a c) ∧ (∀ c : Int, jAs b q 189 c = q 189 c ∧ jAs b q 191 c = q 191 c) ∧ (∀ c : Int, ¬ c = 0 → ¬ (30 ≤ c ∧ c ≤ 32) → jAs b q 176 c = q 176 c) := by
  obtain ⟨a1, a2, a3, a4, a5, a6⟩ := jA6_r (b := b) (h := q)
  obtain ⟨b1, b2, b3, b4⟩ := jA5_r (b := b) (h := jA6 b q) 96
  unfold jAs
  obtain ⟨s1, s2⟩ := S
  refine ⟨fun L k l => ?_, fun a c p1 p2 p3 p4 p5 p6 p7 => (b2 a c p1 p2).trans (a4 a c p3 p4 p5 p6 p7), fun c => ⟨(b2 _ c (by decide) (by decide)).trans (a5 c).1, (b2 _ c (by decide) (by decide)).trans (a5 c).2⟩, fun c p r => (b2 _ c (by decide) (by decide)).trans (a6 c p r)⟩
  rcases l with ⟨i, l⟩ | ⟨e, l1, l2⟩
  · obtain ⟨k1, k2⟩ := a1 i L k l trivial
    obtain ⟨n1, n2, n3⟩ := jLoc_n l
    obtain ⟨t1, t2⟩ := s1 i L k l
    rw [b2 L k n2 n3]
    by_cases z : L = 196
    · rw [z, k1 z, a3 hb i, t1 z]
    · rw [← k2 z, a3 hb i]; exact t2 z
  · rw [e, ← b1 k l1 (by omega), b4 hb k, (show jA6 b q 225 k = q 225 k from a4 225 k (by decide) (by decide) (by decide) (by decide) (by decide))]
    exact s2 k l1 l2
theorem jlv_o {L k : Int} (h : jlv L k) : (L = 176 ∧ (k = 0 ∨ (30 ≤ k ∧ k ≤ 32))) ∨ L = 181 ∨ L = 190 ∨ (192 ≤ L ∧ L ≤ 200) ∨ L = 202 := by
  rcases h with ⟨i, h⟩ | h
  · unfold jLoc at h; omega
  · omega
theorem jSav_fr {h q q' : JH} (e : ∀ a c : Int, 224 ≤ a → a ≤ 225 → q' a c = q a c) (S : jSav h q) : jSav h q' := by
  obtain ⟨s1, s2⟩ := S
  refine ⟨fun i L k l => ?_, fun k a b => ?_⟩
  · rw [e 224 i (by decide) (by decide)]; exact s1 i L k l
  · rw [e 225 k (by decide) (by decide)]; exact s2 k a b
theorem jSav_c {h h' q : JH} (e : ∀ L k : Int, jlv L k → h' L k = h L k) (S : jSav h' q) : jSav h q := by
  obtain ⟨s1, s2⟩ := S
  refine ⟨fun i L k l => ?_, fun k a b => ?_⟩
  · obtain ⟨t1, t2⟩ := s1 i L k l
    have e1 := e L k (Or.inl ⟨i, l⟩)
    exact ⟨fun q => by rw [q] at e1; rw [← e1]; exact t1 q, fun q => by rw [← e1]; exact t2 q⟩
  · rw [← e 200 k (Or.inr ⟨rfl, a, b⟩)]; exact s2 k a b
def jmPi (_ : Int) (h : JH) : JH := jmPs h
theorem jit_0 {f : Int → JH → JH} {h : JH} : jit f (0 : Int).toNat h = h := rfl
theorem jtn6 : (6 : Int).toNat = 6 := rfl
theorem jtn16 : (16 : Int).toNat = 16 := rfl
theorem jtn96 : (96 : Int).toNat = 96 := rfl
theorem jtn300 : (300 : Int).toNat = 300 := rfl
theorem jA4_e {b k : Int} {h : JH} : jA4 b k h = jit (jA3 b (20 + 16 * k) k) 6 (jA2 b k h) := rfl
theorem jAs_e {b : Int} {h : JH} : jAs b h = jit (jA5 b) 96 (jit (jA4 b) 16 (jit (jA1 b) 6 (jA0 b h))) := rfl
theorem jlv_mk {i k : Int} (h : (i = 176 ∧ k = 0) ∨ ((i = 181 ∨ i = 202) ∧ 0 ≤ k ∧ k < 6) ∨ ((i = 190 ∨ (192 ≤ i ∧ i ≤ 198)) ∧ 0 ≤ k ∧ k < 16) ∨ ((i = 199 ∨ i = 200) ∧ 0 ≤ k ∧ k < 96)) : jlv i k := by
  rcases h with h | ⟨h | h, h1, h2⟩ | ⟨h | h, h1, h2⟩ | ⟨h | h, h1, h2⟩
  · exact Or.inl ⟨0, by unfold jLoc; omega⟩
  · exact Or.inl ⟨4 + k, by unfold jLoc; omega⟩
  · exact Or.inl ⟨10 + k, by unfold jLoc; omega⟩
  · exact Or.inl ⟨20 + 16 * k + 7, by unfold jLoc; omega⟩
  · exact Or.inl ⟨20 + 16 * k + (i - 192), by unfold jLoc; omega⟩
  · exact Or.inl ⟨28 + 16 * (k / 6) + k % 6, by unfold jLoc; omega⟩
  · exact Or.inr ⟨h, h1, h2⟩
