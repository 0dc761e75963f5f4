/-! ===== MATCHING on pictures: the reference ===== -/
abbrev jmft (h : JH) (t k : Int) : Prop := h 208 t < 0 ∧ h 205 t = h 211 k ∧ h 206 t - h 212 k ≤ h 213 k ∧ h 212 k - h 206 t ≤ h 213 k ∧ h 214 k ≤ h 207 t
def jmOv (h : JH) (s : Int) (t i : Nat) : Int := h 207 t - h 214 (6 * s + i)
def jmB (h : JH) (s : Int) (t i : Nat) : Bool := decide (t < 40 ∧ (i : Int) < h 210 s ∧ jmft h t (6 * s + i))
def jmU (h : JH) (s p : Int) (t i : Nat) : Bool := decide (t < 40 ∧ h 221 t = 0 ∧ p ≤ i ∧ (i : Int) < h 210 s ∧ jmft h t (6 * s + i))
def jM7 (h : JH) : Prop := ∀ t : Int, 0 ≤ t → t < 40 → h 207 t ≤ 600
/-! how many -/
def jpp_P (s : Nat) : Bool := decide (jpp s = (s % 2 : Nat) + jpp (s / 2)) && decide (0 ≤ jpp s ∧ jpp s ≤ 6)
theorem jpp_1 : (List.range 64).all jpp_P = true := by decide +kernel
theorem jpp_s {x : Int} (h0 : 0 ≤ x) (h1 : x ≤ 63) : jpp x.toNat = x % 2 + jpp (x / 2).toNat ∧ 0 ≤ jpp x.toNat ∧ jpp x.toNat ≤ 6 := by
  have e := List.all_eq_true.mp jpp_1 x.toNat (List.mem_range.mpr (by omega))
  unfold jpp_P at e
  rw [Bool.and_eq_true] at e
  have e1 := of_decide_eq_true e.1
  have e2 := of_decide_eq_true e.2
  rw [show (x / 2).toNat = x.toNat / 2 by omega]
  exact ⟨by omega, e2⟩
theorem jpp_0 : jpp 0 = 0 := by decide
/-! the way over the trees -/
def jMi (x : Int) (g : JH) : Prop := ∀ z : Nat, (z : Int) < x → g 223 z = if z = 0 then 0 else 2000000000
theorem jMi_s {x : Int} {g g' : JH} {v : Int} (H : jMi x g) (h0 : 0 ≤ x) (e : g' = jup g 223 x v) (hv : (x = 0 ∧ v = 0) ∨ (¬ x = 0 ∧ v = 2000000000)) : jMi (x + 1) g' := fun z hz => by
  by_cases y : (z : Int) = x
  · rw [y, jup_s e]
    rcases hv with q | q
    · rw [if_pos (by omega)]; exact q.2
    · rw [if_neg (by omega)]; exact q.2
  · rw [jup_o e (by omega)]; exact H z (by omega)
def jMd (h : JH) (s p t : Int) (z : Nat) : Int := jdp (jmU h s p) (jmOv h s) 0 2000000000 t.toNat z
def jM1 (h : JH) (s p t : Int) (g : JH) : Prop := ∀ z : Nat, z < 64 → g 223 z = jMd h s p t z
def jM2 (h : JH) (s p t x : Int) (g : JH) : Prop := ∀ z : Nat, z < 64 → g 223 z = if x < z then jMd h s p (t + 1) z else jMd h s p t z
def jM3 (h : JH) (s p t x y : Int) (g : JH) : Prop := (∀ z : Nat, z < 64 → ¬ (z : Int) = x → g 223 z = if x < z then jMd h s p (t + 1) z else jMd h s p t z) ∧ g 223 x = jdf (jmU h s p t.toNat) (jmOv h s t.toNat) 2000000000 (jdp (jmU h s p) (jmOv h s) 0 2000000000 t.toNat) x.toNat y.toNat
theorem jMd_s {h : JH} {s p t : Int} {z : Nat} (h0 : 0 ≤ t) : jMd h s p (t + 1) z = jdf (jmU h s p t.toNat) (jmOv h s t.toNat) 2000000000 (jdp (jmU h s p) (jmOv h s) 0 2000000000 t.toNat) z 6 := jdp_s h0
theorem jdf_z {A : Nat → Bool} {c : Nat → Int} {U : Int} {L : Nat → Int} : ∀ n : Nat, jdf A c U L 0 n = L 0
  | 0 => rfl
  | n + 1 => by
      rw [jdf_s, if_neg (fun q => by rw [Nat.zero_testBit] at q; exact absurd q.1 (by decide))]
      exact jdf_z n
theorem jdp_z {A : Nat → Nat → Bool} {c : Nat → Nat → Int} {b U : Int} : ∀ t : Nat, jdp A c b U t 0 = b
  | 0 => rfl
  | t + 1 => (jdf_z 6).trans (jdp_z t)
/-- parts that don't count change nothing -/
theorem jdf_up {A : Nat → Bool} {c : Nat → Int} {U : Int} {L : Nat → Int} {s : Nat} (m : Nat) : ∀ n : Nat, m ≤ n → (∀ i : Nat, m ≤ i → i < n → A i = false) → jdf A c U L s n = jdf A c U L s m
  | 0, h, _ => by rw [show m = 0 by omega]
  | n + 1, h, q => by
      by_cases z : m = n + 1
      · rw [z]
      · rw [jdf_s, if_neg (fun w => by rw [q n (by omega) (by omega)] at w; exact absurd w.2.1 (by decide))]
        exact jdf_up m n (by omega) (fun i a b => q i a (by omega))
theorem jM_0 {h g : JH} {s p : Int} (H : jMi 64 g) : jM1 h s p 0 g := fun z hz => H z (by omega)
theorem jM_us {h g : JH} {s p t : Int} (H : jM1 h s p t g) (h0 : 0 ≤ t) (u : ¬ h 221 t = 0) : jM1 h s p (t + 1) g := fun z hz => by
  rw [H z hz, jMd_s h0, jdf_no 6 (fun i _ => ?_)]
  · rfl
  · unfold jmU
    rw [Int.toNat_of_nonneg h0]
    exact decide_eq_false (fun q => u q.2.1)
theorem jM_a {h g : JH} {s p t : Int} (H : jM1 h s p t g) : jM2 h s p t 63 g := fun z hz => by
  rw [if_neg (by omega)]; exact H z hz
theorem jM_b {h g : JH} {s p t x : Int} (H : jM2 h s p t x g) (h0 : 0 ≤ t) (hx : x ≤ 0) (hx0 : 0 ≤ x) : jM1 h s p (t + 1) g := fun z hz => by
  rw [H z hz]
  by_cases y : x < z
  · rw [if_pos y]
  · rw [if_neg y, show z = 0 by omega]
    show jdp _ _ _ _ _ 0 = jdp _ _ _ _ _ 0
    rw [jdp_z, jdp_z]
theorem jM_c {h g : JH} {s p t x : Int} (H : jM2 h s p t x g) (h0 : 0 ≤ t) (hx0 : 0 ≤ x) (hx : x ≤ 63) (hp : 0 ≤ p) : jM3 h s p t x p g := by
  refine ⟨fun z hz _ => H z hz, ?_⟩
  have e := H x.toNat (by omega)
  rw [Int.toNat_of_nonneg hx0, if_neg (by omega)] at e
  rw [e, jdf_up 0 p.toNat (by omega) (fun i _ hi => ?_)]
  · rfl
  · unfold jmU; exact decide_eq_false (fun q => by omega)
theorem jM_d {h g : JH} {s p t x y : Int} (H : jM3 h s p t x y g) (h0 : 0 ≤ t) (hx0 : 0 ≤ x) (hx : x ≤ 63) (hy : h 210 s ≤ y) (hy0 : 0 ≤ y) (hy6 : y ≤ 6) : jM2 h s p t (x - 1) g := fun z hz => by
  by_cases w : (z : Int) = x
  · rw [w, H.2, if_pos (by omega), jMd_s h0, show z = x.toNat by omega, jdf_up y.toNat 6 (by omega) (fun i a b => ?_)]
    unfold jmU; exact decide_eq_false (fun q => by omega)
  · rw [H.1 z hz w]
    by_cases v : x < z
    · rw [if_pos v, if_pos (by omega)]
    · rw [if_neg v, if_neg (by omega)]
theorem jU_b {h : JH} {s p : Int} (h7 : jM7 h) (hB : ∀ k : Int, 0 ≤ h 214 k) (t i : Nat) (q : jmU h s p t i = true) : 0 ≤ jmOv h s t i ∧ jmOv h s t i ≤ 600 := by
  have w := of_decide_eq_true q
  have a := h7 t (by omega) (by omega)
  have b := hB (6 * s + i)
  unfold jmOv
  omega
theorem jMd_b {h : JH} {s p : Int} (h7 : jM7 h) (hB : ∀ k : Int, 0 ≤ h 214 k) {t : Nat} (ht : t ≤ 40) {z : Nat} (hz : z < 64) (u : ¬ jdp (jmU h s p) (jmOv h s) 0 2000000000 t z = 2000000000) : 0 ≤ jdp (jmU h s p) (jmOv h s) 0 2000000000 t z ∧ jdp (jmU h s p) (jmOv h s) 0 2000000000 t z ≤ 3600 := by
  rcases jdp_at (A := jmU h s p) (c := jmOv h s) (b := 0) (U := 2000000000) t ht z hz with q | ⟨d, _, v, e⟩
  · exact absurd q u
  · have b1 := jcs_n (c := jmOv h s) (fun t i q => (jU_b h7 hB t i q).1) v
    have b2 := jcs_b (c := jmOv h s) (K := 600) (fun t i q => (jU_b h7 hB t i q).2) (by decide) v
    omega
/-- the set without a part -/
theorem jM_r {h g : JH} {s p t x y : Int} (H : jM3 h s p t x y g) (hx0 : 0 ≤ x) (hx : x ≤ 63) (hy0 : 0 ≤ y) (hy : y < 6) (n : ¬ jand x (jxor (jshl 1 y) (-1)) = x) : x.toNat.testBit y.toNat = true ∧ jand x (jxor (jshl 1 y) (-1)) = ((x.toNat ^^^ 2 ^ y.toNat : Nat) : Int) ∧ x.toNat ^^^ 2 ^ y.toNat < 64 ∧ g 223 (jand x (jxor (jshl 1 y) (-1))) = jdp (jmU h s p) (jmOv h s) 0 2000000000 t.toNat (x.toNat ^^^ 2 ^ y.toNat) := by
  have e := (jmx hx0 hx hy0 hy).2
  have b : x.toNat.testBit y.toNat = true := by
    cases w : x.toNat.testBit y.toNat with
    | true => rfl
    | false => rw [w, if_neg (by decide)] at e; exact absurd e n
  rw [b, if_pos rfl] at e
  obtain ⟨_, q1, q2⟩ := jq_x (s := x.toNat) (i := y.toNat) (by omega) (by omega)
  have q := q2 b
  refine ⟨b, e, q1, ?_⟩
  rw [e, H.1 _ q1 (by omega), if_neg (by omega)]
  rfl
theorem jM_n {h g : JH} {s p t x y : Int} (H : jM3 h s p t x y g) (h0 : 0 ≤ t) (hx0 : 0 ≤ x) (hx : x ≤ 63) (hy0 : 0 ≤ y) (hy : y < 6) (no : jand x (jxor (jshl 1 y) (-1)) = x ∨ (¬ jand x (jxor (jshl 1 y) (-1)) = x ∧ 2000000000 ≤ g 223 (jand x (jxor (jshl 1 y) (-1)))) ∨ ¬ jmft h t (6 * s + y)) : jM3 h s p t x (y + 1) g := by
  refine ⟨H.1, ?_⟩
  rw [H.2, show (y + 1).toNat = y.toNat + 1 by omega, jdf_s]
  refine (if_neg (fun q => ?_)).symm
  rcases no with n | n | n
  · have e := (jmx hx0 hx hy0 hy).2
    rw [q.1, if_pos rfl, n] at e
    obtain ⟨_, _, q2⟩ := jq_x (s := x.toNat) (i := y.toNat) (by omega) (by omega)
    have := q2 q.1
    omega
  · have r := jM_r H hx0 hx hy0 hy n.1
    have u := jdp_U (A := jmU h s p) (c := jmOv h s) (b := 0) (U := 2000000000) (by decide) t.toNat (x.toNat ^^^ 2 ^ y.toNat)
    exact q.2.2.1 (by omega)
  · have w := of_decide_eq_true q.2.1
    rw [Int.toNat_of_nonneg h0, Int.toNat_of_nonneg hy0] at w
    exact n w.2.2.2.2
theorem jM_u {h g g' : JH} {s p t x y v w : Int} (H : jM3 h s p t x y g) (h7 : jM7 h) (hB : ∀ k : Int, 0 ≤ h 214 k) (h0 : 0 ≤ t) (h1 : t < 40) (hx0 : 0 ≤ x) (hx : x ≤ 63) (hp : p ≤ y) (hy0 : 0 ≤ y) (hy : y < 6) (hn : y < h 210 s) (us : h 221 t = 0) (n1 : ¬ jand x (jxor (jshl 1 y) (-1)) = x) (n2 : g 223 (jand x (jxor (jshl 1 y) (-1))) < 2000000000) (ft : jmft h t (6 * s + y))
    (ew : w = jw32 (jw32 (g 223 (jand x (jxor (jshl 1 y) (-1))) + h 207 t) - h 214 (6 * s + y))) (e : g' = jup g 223 x v) (hv : (w < g 223 x ∧ v = w) ∨ (g 223 x ≤ w ∧ v = g 223 x)) : jM3 h s p t x (y + 1) g' := by
  obtain ⟨b, e1, lt, r⟩ := jM_r H hx0 hx hy0 hy n1
  have a7 := h7 t h0 h1
  have b7 := hB (6 * s + y)
  have ub := jMd_b (s := s) (p := p) h7 hB (t := t.toNat) (by omega) lt (by omega)
  have f5 := ft.2.2.2.2
  have ew' : w = jdp (jmU h s p) (jmOv h s) 0 2000000000 t.toNat (x.toNat ^^^ 2 ^ y.toNat) + jmOv h s t.toNat y.toNat := by
    have eO : jmOv h s t.toNat y.toNat = h 207 t - h 214 (6 * s + y) := by unfold jmOv; rw [Int.toNat_of_nonneg h0, Int.toNat_of_nonneg hy0]
    rw [eO, ew, r, j32e (x := _ + h 207 t) (by omega) (by omega), j32e (by omega) (by omega)]
    omega
  refine ⟨fun z hz q => by rw [jup_o e (by omega)]; exact H.1 z hz q, ?_⟩
  rw [jup_s e, show (y + 1).toNat = y.toNat + 1 by omega, jdf_s]
  have k := H.2
  have A : jmU h s p t.toNat y.toNat = true := by
    unfold jmU
    rw [Int.toNat_of_nonneg h0, Int.toNat_of_nonneg hy0]
    exact decide_eq_true ⟨by omega, us, hp, hn, ft⟩
  by_cases z : jdp (jmU h s p) (jmOv h s) 0 2000000000 t.toNat (x.toNat ^^^ 2 ^ y.toNat) + jmOv h s t.toNat y.toNat < jdf (jmU h s p t.toNat) (jmOv h s t.toNat) 2000000000 (jdp (jmU h s p) (jmOv h s) 0 2000000000 t.toNat) x.toNat y.toNat
  · rw [if_pos ⟨b, A, by omega, z⟩]; omega
  · rw [if_neg (fun q => z q.2.2.2)]; omega
/-! the most, and of those the least waste -/
def jMb (x M W : Int) (g : JH) : Prop := (∃ z : Nat, (z : Int) < x ∧ ¬ g 223 z = 2000000000 ∧ jpp z = M ∧ W = g 223 z) ∧ ∀ z : Nat, (z : Int) < x → ¬ g 223 z = 2000000000 → jpp z < M ∨ (jpp z = M ∧ W ≤ g 223 z)
def jMsP (s p : Int) (h g : JH) : Prop := (∃ d : Nat → Nat, jVd (jmU h s p) (h 176 34).toNat d ∧ jcn d = g 176 55 ∧ jcs (jmOv h s) d = g 176 56) ∧ ∀ d : Nat → Nat, jVd (jmU h s p) (h 176 34).toNat d → jcn d < g 176 55 ∨ (jcn d = g 176 55 ∧ g 176 56 ≤ jcs (jmOv h s) d)
theorem jMb_0 {h g : JH} {s p t : Int} (H : jM1 h s p t g) : jMb 1 0 0 g := by
  have e : g 223 (0 : Nat) = 0 := (H 0 (by decide)).trans (jdp_z _)
  refine ⟨⟨0, by decide, by omega, jpp_0, e.symm⟩, fun z hz _ => ?_⟩
  rw [show z = 0 by omega]
  exact Or.inr ⟨jpp_0, by omega⟩
theorem jMb_c {x M W M' W' : Int} {g g' : JH} (e : ∀ k : Int, g' 223 k = g 223 k) (eM : M' = M) (eW : W' = W) (H : jMb x M W g) : jMb x M' W' g' := by
  subst eM; subst eW
  unfold jMb at H ⊢
  simp only [e]
  exact H
theorem jMb_n {x M W n : Int} {g : JH} (H : jMb x M W g) (h0 : 0 ≤ x) (en : n = jpp x.toNat) (no : g 223 x = 2000000000 ∨ n < M ∨ (n = M ∧ W ≤ g 223 x)) : jMb (x + 1) M W g := by
  obtain ⟨⟨z, a, b⟩, H2⟩ := H
  refine ⟨⟨z, by omega, b⟩, fun y hy u => ?_⟩
  by_cases w : (y : Int) = x
  · rw [w] at u ⊢
    have e : y = x.toNat := by omega
    rw [e, ← en]
    rcases no with q | q | q
    · exact absurd q u
    · exact Or.inl q
    · exact Or.inr q
  · exact H2 y (by omega) u
theorem jMb_y {x M W n : Int} {g : JH} (H : jMb x M W g) (h0 : 0 ≤ x) (en : n = jpp x.toNat) (u : ¬ g 223 x = 2000000000) (ys : M < n ∨ (n = M ∧ g 223 x < W)) : jMb (x + 1) n (g 223 x) g := by
  refine ⟨⟨x.toNat, by omega, by rw [Int.toNat_of_nonneg h0]; exact u, en.symm, by rw [Int.toNat_of_nonneg h0]⟩, fun y hy u2 => ?_⟩
  by_cases w : (y : Int) = x
  · have e : y = x.toNat := by omega
    rw [w, e, ← en]
    exact Or.inr ⟨rfl, Int.le_refl _⟩
  · have := H.2 y (by omega) u2
    omega
theorem jMs_e {h g : JH} {s p : Int} (h7 : jM7 h) (hB : ∀ k : Int, 0 ≤ h 214 k) (hT : 0 ≤ h 176 34 ∧ h 176 34 ≤ 40) (H : jM1 h s p (h 176 34) g) (B : jMb 64 (g 176 55) (g 176 56) g) : jMsP s p h g := by
  refine jmost (U := 2000000000) (K := 600) (by omega) (fun t i q => (jU_b h7 hB t i q).2) (by decide) (by decide) (fun z hz u => ?_) ?_
  · have e : g 223 z = jdp (jmU h s p) (jmOv h s) 0 2000000000 (h 176 34).toNat z := H z hz
    have k := B.2 z (by omega) (by rw [e]; exact u)
    rw [e] at k
    exact k
  · obtain ⟨z, a, b, c, d⟩ := B.1
    have e : g 223 z = jdp (jmU h s p) (jmOv h s) 0 2000000000 (h 176 34).toNat z := H z (by omega)
    exact ⟨z, by omega, by rw [← e]; exact b, c, by rw [← e]; exact d⟩
/-! part by part -/
def jpx (f : Nat → Int) (d : Nat → Nat) (x : Int) : Int := jsg (fun i => if d i = 40 then 0 else f i) x.toNat
def jUs (d : Nat → Nat) (x : Int) (g : JH) : Prop := ∀ t : Nat, t < 40 → (g 221 t = 0 ↔ ∀ q : Nat, (q : Int) < x → ¬ d q = t)
def jQ0 (h : JH) (s x : Int) (d : Nat → Nat) (g : JH) : Prop := g 176 57 = jcn d ∧ g 176 58 = jcs (jmOv h s) d ∧ ∀ q : Nat, (q : Int) < x → g 222 q = if d q = 40 then -9 else (d q : Int)
def jQs (h : JH) (s x m w : Int) (d : Nat → Nat) : Prop := m = jpx (fun _ => 1) d x ∧ w = jpx (fun i => jmOv h s (d i) i) d x
def jQ1 (h : JH) (s x m w : Int) (g : JH) : Prop := ∀ d : Nat → Nat, jOp (jmB h s) (jmOv h s) (h 176 34).toNat d → jQ0 h s x d g ∧ jUs d x g ∧ jQs h s x m w d
def jQ2 (h : JH) (s x t m w : Int) (g : JH) : Prop := ∀ d : Nat → Nat, jOp (jmB h s) (jmOv h s) (h 176 34).toNat d → jQ0 h s x d g ∧ ((g 222 x = -9 ∧ t ≤ (d x.toNat : Int) ∧ jUs d x g ∧ jQs h s x m w d) ∨ (g 222 x = (d x.toNat : Int) ∧ ¬ d x.toNat = 40 ∧ jUs d (x + 1) g ∧ jQs h s (x + 1) m w d))
theorem jpx_s {f : Nat → Int} {d : Nat → Nat} {x : Int} (h0 : 0 ≤ x) : jpx f d (x + 1) = jpx f d x + (if d x.toNat = 40 then 0 else f x.toNat) := by
  unfold jpx
  rw [show (x + 1).toNat = x.toNat + 1 by omega]
  rfl
theorem jmB_b {h : JH} {s : Int} (h7 : jM7 h) (hB : ∀ k : Int, 0 ≤ h 214 k) (t i : Nat) (q : jmB h s t i = true) : 0 ≤ jmOv h s t i ∧ jmOv h s t i ≤ 600 := by
  have w := of_decide_eq_true q
  have a := h7 t (by omega) (by omega)
  have b := hB (6 * s + i)
  unfold jmOv
  omega
/-- the rows that don't change in a search -/
def jSme (h g : JH) : Prop := (∀ i k : Int, 205 ≤ i → i ≤ 214 → g i k = h i k) ∧ g 176 34 = h 176 34
theorem jmU_e {h g : JH} {s p : Int} {t i : Nat} (e : jSme h g) : jmU g s p t i = true ↔ (t < 40 ∧ g 221 t = 0 ∧ p ≤ i ∧ (i : Int) < h 210 s ∧ jmft h t (6 * s + i)) := by
  unfold jmU jmft
  rw [decide_eq_true_eq, e.1 205 _ (by decide) (by decide), e.1 206 _ (by decide) (by decide), e.1 207 _ (by decide) (by decide), e.1 208 _ (by decide) (by decide), e.1 210 _ (by decide) (by decide), e.1 211 _ (by decide) (by decide), e.1 212 _ (by decide) (by decide), e.1 213 _ (by decide) (by decide), e.1 214 _ (by decide) (by decide)]
theorem jmOv_e {h g : JH} {s : Int} (e : jSme h g) : jmOv g s = jmOv h s := by
  funext t i
  unfold jmOv
  rw [e.1 207 _ (by decide) (by decide), e.1 214 _ (by decide) (by decide)]
theorem jQ_0 {h g0 g : JH} {s : Int} (h7 : jM7 h) (hB : ∀ k : Int, 0 ≤ h 214 k) (hT : 0 ≤ h 176 34 ∧ h 176 34 ≤ 40) (e : jSme h g0) (us : ∀ t : Int, 0 ≤ t → t < 40 → g0 221 t = 0) (us' : ∀ t : Int, 0 ≤ t → t < 40 → g 221 t = 0) (S : jMsP s 0 g0 g) {m w : Int} (em : g 176 55 = m) (ew : g 176 56 = w) {g' : JH} (e1 : g' 176 57 = m) (e2 : g' 176 58 = w) (e3 : ∀ k : Int, g' 221 k = g 221 k) : jQ1 h s 0 0 0 g' := by
  intro d op
  have eA : ∀ t i : Nat, jmU g0 s 0 t i = jmB h s t i := fun t i => by
    by_cases z : jmB h s t i = true
    · have q := of_decide_eq_true z
      rw [z]; exact (jmU_e e).2 ⟨q.1, us t (by omega) (by omega), by omega, q.2⟩
    · cases y : jmU g0 s 0 t i with
      | true => have q := (jmU_e e).1 y; exact absurd (decide_eq_true ⟨q.1, q.2.2.2⟩) z
      | false => cases y2 : jmB h s t i with
        | true => exact absurd y2 z
        | false => rfl
  have eA' : jmU g0 s 0 = jmB h s := by funext t i; exact eA t i
  obtain ⟨S1, S2⟩ := S
  rw [eA', jmOv_e e, e.2, em, ew] at S1 S2
  have k := jgr0 (by omega) (jmB_b h7 hB) op S1 S2
  refine ⟨⟨by omega, by omega, fun q hq => absurd hq (by omega)⟩, fun t ht => ?_, rfl, rfl⟩
  rw [e3, us' t (by omega) (by omega)]
  exact ⟨fun _ q hq => absurd hq (by omega), fun _ => rfl⟩
theorem jUs_c {d : Nat → Nat} {x : Int} {g g' : JH} (e : ∀ k : Int, g' 221 k = g 221 k) (H : jUs d x g) : jUs d x g' := fun t ht => by rw [e]; exact H t ht
theorem jQ0_c {h g g' : JH} {s x : Int} {d : Nat → Nat} (e1 : g' 176 57 = g 176 57) (e2 : g' 176 58 = g 176 58) (e3 : ∀ q : Int, 0 ≤ q → q < x → g' 222 q = g 222 q) (H : jQ0 h s x d g) : jQ0 h s x d g' := ⟨by rw [e1]; exact H.1, by rw [e2]; exact H.2.1, fun q hq => by rw [e3 q (by omega) hq]; exact H.2.2 q hq⟩
theorem jQ_i {h g g' : JH} {s x m w : Int} (H : jQ1 h s x m w g) (e : g' = jup g 222 x (-9)) : jQ2 h s x 0 m w g' := fun d op => by
  obtain ⟨a, b, c⟩ := H d op
  exact ⟨jQ0_c (jup_o e (by omega)) (jup_o e (by omega)) (fun q _ hq => jup_o e (by omega)) a, Or.inl ⟨jup_s e, by omega, jUs_c (fun k => jup_o e (by omega)) b, c⟩⟩
theorem jOp_lt {A : Nat → Nat → Bool} {O : Nat → Nat → Int} {T : Nat} {d : Nat → Nat} (op : jOp A O T d) {i : Nat} (hi : i < 6) (n : ¬ d i = 40) : d i < T ∧ A (d i) i = true := by
  rcases op.1.1 i hi with q | q
  · exact absurd q n
  · exact q
theorem jQ_e {h g : JH} {s x t m w : Int} (H : jQ2 h s x t m w g) (h0 : 0 ≤ x) (h1 : x < 6) (ht : 0 ≤ t) (q : h 176 34 ≤ t ∨ h 210 s ≤ x ∨ 0 ≤ g 222 x) (hT : 0 ≤ h 176 34 ∧ h 176 34 ≤ 40) : jQ1 h s (x + 1) m w g := fun d op => by
  obtain ⟨a, b⟩ := H d op
  have xx : ((x.toNat : Nat) : Int) = x := Int.toNat_of_nonneg h0
  rcases b with ⟨b1, b2, b3, b4⟩ | ⟨b1, b2, b3, b4⟩
  · have d40 : d x.toNat = 40 := by
      by_cases z : d x.toNat = 40
      · exact z
      · have k := jOp_lt op (i := x.toNat) (by omega) z
        have k2 := of_decide_eq_true k.2
        omega
    refine ⟨⟨a.1, a.2.1, fun r hr => ?_⟩, fun t' ht' => (b3 t' ht').trans ⟨fun k r hr => ?_, fun k r hr => k r (by omega)⟩, ?_, ?_⟩
    · by_cases z : (r : Int) = x
      · rw [z, b1, show r = x.toNat by omega, if_pos d40]
      · exact a.2.2 r (by omega)
    · by_cases z : (r : Int) = x
      · rw [show r = x.toNat by omega, d40]; omega
      · exact k r (by omega)
    · rw [jpx_s h0, if_pos d40, ← b4.1]; omega
    · rw [jpx_s h0, if_pos d40, ← b4.2]; omega
  · refine ⟨⟨a.1, a.2.1, fun r hr => ?_⟩, b3, b4⟩
    by_cases z : (r : Int) = x
    · rw [z, b1, show r = x.toNat by omega, if_neg b2]
    · exact a.2.2 r (by omega)
theorem jQ_n {h g : JH} {s x t m w : Int} (H : jQ2 h s x t m w g) (h0 : 0 ≤ x) (h1 : x < 6) (ht : 0 ≤ t) (ht4 : t < 40) (c : g 222 x < 0) (no : ¬ g 221 t = 0 ∨ ¬ jmft h t (6 * s + x)) : jQ2 h s x (t + 1) m w g := fun d op => by
  obtain ⟨a, b⟩ := H d op
  have xx : ((x.toNat : Nat) : Int) = x := Int.toNat_of_nonneg h0
  refine ⟨a, ?_⟩
  rcases b with ⟨b1, b2, b3, b4⟩ | ⟨b1, b2, b3, b4⟩
  · refine Or.inl ⟨b1, ?_, b3, b4⟩
    by_cases z : (d x.toNat : Int) = t
    · exfalso
      have n40 : ¬ d x.toNat = 40 := by omega
      have k := jOp_lt op (i := x.toNat) (by omega) n40
      have k2 := of_decide_eq_true k.2
      rw [z, xx] at k2
      rcases no with n | n
      · have e : t.toNat = d x.toNat := by omega
        have u := (b3 t.toNat (by omega)).2 (fun r hr w => by
          have := op.1.2 r x.toNat (by omega) (by omega) (by omega) (by omega)
          omega)
        rw [Int.toNat_of_nonneg ht] at u
        exact n u
      · exact n k2.2.2
    · omega
  · omega
/-- a tree is tried -/
theorem jQ_t {h g g1 g2 : JH} {s x t m w bM bW o : Int} (h7 : jM7 h) (hB : ∀ k : Int, 0 ≤ h 214 k) (hT : 0 ≤ h 176 34 ∧ h 176 34 ≤ 40) (H : jQ2 h s x t m w g) (h0 : 0 ≤ x) (h1 : x < 6) (hn : x < h 210 s) (ht : 0 ≤ t) (htT : t < h 176 34) (c : g 222 x < 0) (us : g 221 t = 0) (ft : jmft h t (6 * s + x)) (e1 : g1 = jup g 221 t 1) (sm : jSme h g1) (S : jMsP s (x + 1) g1 g2) (eM : bM = g2 176 55) (eW : bW = g2 176 56) (eo : o = h 207 t - h 214 (6 * s + x)) :
    ∀ d : Nat → Nat, jOp (jmB h s) (jmOv h s) (h 176 34).toNat d → jQ0 h s x d g ∧ t ≤ (d x.toNat : Int) ∧ jUs d x g ∧ jQs h s x m w d ∧ (0 ≤ m ∧ m ≤ 6 ∧ 0 ≤ w ∧ w ≤ 3600 ∧ 0 ≤ bM ∧ bM ≤ 6 ∧ 0 ≤ bW ∧ bW ≤ 3600 ∧ 0 ≤ o ∧ o ≤ 600) ∧ (m + 1 + bM = g 176 57 ∧ w + o + bW = g 176 58 → (d x.toNat : Int) = t) ∧ (¬ (m + 1 + bM = g 176 57 ∧ w + o + bW = g 176 58) → ¬ (d x.toNat : Int) = t) ∧ g 222 x = -9 := by
  intro d op
  obtain ⟨a, b⟩ := H d op
  have xx : ((x.toNat : Nat) : Int) = x := Int.toNat_of_nonneg h0
  have tt : ((t.toNat : Nat) : Int) = t := Int.toNat_of_nonneg ht
  rcases b with ⟨b1, b2, b3, b4⟩ | ⟨b1, b2, b3, b4⟩
  · have hu : ∀ q : Nat, q < x.toNat → ¬ d q = t.toNat := fun q hq => (b3 t.toNat (by omega)).1 (by rw [tt]; exact us) q (by omega)
    have at_ : jmB h s t.toNat x.toNat = true := decide_eq_true ⟨by omega, by omega, by rw [tt, xx]; exact ft⟩
    have hA : ∀ y i : Nat, y < (h 176 34).toNat → (jmU g1 s (x + 1) y i = true ↔ jmB h s y i = true ∧ x.toNat < i ∧ ¬ y = t.toNat ∧ ∀ q : Nat, q < x.toNat → ¬ d q = y) := fun y i hy => by
      rw [jmU_e sm]
      constructor
      · rintro ⟨k1, k2, k3, k4, k5⟩
        have ny : ¬ (y : Int) = t := fun z => by rw [z, jup_s e1] at k2; exact absurd k2 (by decide)
        rw [jup_o e1 (by omega)] at k2
        exact ⟨decide_eq_true ⟨k1, k4, k5⟩, by omega, by omega, fun q hq => (b3 y k1).1 k2 q (by omega)⟩
      · rintro ⟨k1, k2, k3, k4⟩
        have q := of_decide_eq_true k1
        exact ⟨q.1, by rw [jup_o e1 (by omega)]; exact (b3 y q.1).2 (fun r hr => k4 r (by omega)), by omega, q.2⟩
    obtain ⟨S1, S2⟩ := S
    rw [jmOv_e sm, sm.2, ← eM, ← eW] at S1 S2
    have g9 := jgr (m := m) (w := w) (by omega) (jmB_b h7 hB) op (p := x.toNat) (t := t.toNat) (by omega) (by omega) at_ hu hA S1 S2 b4.1 b4.2
    have eO : jmOv h s t.toNat x.toNat = o := by unfold jmOv; rw [tt, xx, eo]
    rw [eO] at g9
    have ob := jmB_b h7 hB _ _ at_
    rw [eO] at ob
    obtain ⟨e9, v9, c9, w9⟩ := S1
    have n1 := jcs_n (c := fun _ _ => 1) (fun _ _ _ => by decide) v9
    have n2 := jcs_b (c := fun _ _ => 1) (K := 1) (fun _ _ _ => by decide) (by decide) v9
    have u1 : ∀ t i : Nat, jmU g1 s (x + 1) t i = true → 0 ≤ jmOv h s t i ∧ jmOv h s t i ≤ 600 := fun t i q => jmB_b h7 hB t i (by have k := (jmU_e sm).1 q; exact decide_eq_true ⟨k.1, k.2.2.2⟩)
    have n3 := jcs_n (c := jmOv h s) (fun t i q => (u1 t i q).1) v9
    have n4 := jcs_b (c := jmOv h s) (K := 600) (fun t i q => (u1 t i q).2) (by decide) v9
    have c9' : jcs (fun _ _ => 1) e9 = bM := c9
    have pb : ∀ (f : Nat → Int) (K : Int), 0 ≤ K → (∀ i : Nat, i < 6 → ¬ d i = 40 → 0 ≤ f i ∧ f i ≤ K) → ∀ n : Nat, n ≤ 6 → 0 ≤ jsg (fun i => if d i = 40 then 0 else f i) n ∧ jsg (fun i => if d i = 40 then 0 else f i) n ≤ n * K := by
      intro f K hK hf n
      induction n with
      | zero => exact fun _ => ⟨Int.le_refl _, by show (0 : Int) ≤ _; omega⟩
      | succ n ih =>
          intro hn
          have i1 := ih (by omega)
          show 0 ≤ jsg (fun i => if d i = 40 then 0 else f i) n + (if d n = 40 then 0 else f n) ∧ jsg (fun i => if d i = 40 then 0 else f i) n + (if d n = 40 then 0 else f n) ≤ ((n + 1 : Nat) : Int) * K
          have ee : ((n + 1 : Nat) : Int) * K = n * K + K := by rw [Int.natCast_add, Int.add_mul]; omega
          rw [ee]
          by_cases z : d n = 40
          · rw [if_pos z]; omega
          · rw [if_neg z]; have := hf n (by omega) z; omega
    have p1 := pb (fun _ => 1) 1 (by decide) (fun _ _ _ => ⟨by decide, by decide⟩) x.toNat (by omega)
    have p2 := pb (fun i => jmOv h s (d i) i) 600 (by decide) (fun i hi z => jmB_b h7 hB _ _ (jOp_lt op hi z).2) x.toNat (by omega)
    have m1 : m = jsg (fun i => if d i = 40 then (0 : Int) else 1) x.toNat := b4.1
    have m2 : w = jsg (fun i => if d i = 40 then 0 else jmOv h s (d i) i) x.toNat := b4.2
    have a1 := a.1
    have a2 := a.2.1
    refine ⟨a, b2, b3, b4, ⟨by omega, by omega, by omega, by omega, by omega, by omega, by omega, by omega, ob.1, ob.2⟩, fun q => ?_, fun q z => q ?_, b1⟩
    · have := g9.1 ⟨by omega, by omega⟩; omega
    · have k := g9.2 (by omega); omega
  · omega
theorem jQ_y {h g g3 : JH} {s x t m w m' w' o : Int} (h0 : 0 ≤ x) (h1 : x < 6) (ht : 0 ≤ t) (ht4 : t < 40) (R : ∀ d : Nat → Nat, jOp (jmB h s) (jmOv h s) (h 176 34).toNat d → jQ0 h s x d g ∧ jUs d x g ∧ jQs h s x m w d ∧ (d x.toNat : Int) = t ∧ m' = m + 1 ∧ w' = w + o) (eo : o = h 207 t - h 214 (6 * s + x))
    (e57 : g3 176 57 = g 176 57) (e58 : g3 176 58 = g 176 58) (e222 : ∀ q : Int, ¬ q = x → g3 222 q = g 222 q) (ex : g3 222 x = t) (e221 : ∀ q : Int, ¬ q = t → g3 221 q = g 221 q) (et : g3 221 t = 1) : jQ2 h s x (t + 1) m' w' g3 := fun d op => by
  obtain ⟨a, b, c, dt, em, ew⟩ := R d op
  have xx : ((x.toNat : Nat) : Int) = x := Int.toNat_of_nonneg h0
  have n40 : ¬ d x.toNat = 40 := by omega
  refine ⟨jQ0_c e57 e58 (fun q _ hq => e222 q (by omega)) a, Or.inr ⟨by rw [ex]; exact dt.symm, n40, fun t' ht' => ?_, ?_, ?_⟩⟩
  · by_cases z : (t' : Int) = t
    · rw [z, et]
      exact ⟨fun k => absurd k (by decide), fun k => absurd (show d x.toNat = t' by omega) (k x.toNat (by omega))⟩
    · rw [e221 _ z]
      refine (b t' ht').trans ⟨fun k r hr => ?_, fun k r hr => k r (by omega)⟩
      by_cases y : (r : Int) = x
      · rw [show r = x.toNat by omega]; omega
      · exact k r (by omega)
  · rw [jpx_s h0, if_neg n40, ← c.1]; exact em
  · rw [jpx_s h0, if_neg n40, ← c.2, ew, eo]
    show w + _ = w + jmOv h s (d x.toNat) x.toNat
    unfold jmOv
    rw [dt, xx]
theorem jQ_f {h g g3 : JH} {s x t m w : Int} (R : ∀ d : Nat → Nat, jOp (jmB h s) (jmOv h s) (h 176 34).toNat d → jQ0 h s x d g ∧ t + 1 ≤ (d x.toNat : Int) ∧ jUs d x g ∧ jQs h s x m w d ∧ g 222 x = -9)
    (e57 : g3 176 57 = g 176 57) (e58 : g3 176 58 = g 176 58) (e222 : ∀ q : Int, g3 222 q = g 222 q) (e221 : ∀ q : Int, g3 221 q = g 221 q) : jQ2 h s x (t + 1) m w g3 := fun d op => by
  obtain ⟨a, b, u, q, c⟩ := R d op
  exact ⟨jQ0_c e57 e58 (fun q _ _ => e222 q) a, Or.inl ⟨by rw [e222]; exact c, b, jUs_c e221 u, q⟩⟩
def jMmP (s : Int) (h g : JH) : Prop := ∀ d : Nat → Nat, jOp (jmB h s) (jmOv h s) (h 176 34).toNat d → jQ0 h s 6 d g
theorem jM1_b {h g : JH} {s p t x : Int} (H : jM1 h s p t g) (h0 : 0 ≤ x) (h1 : x < 64) : g 223 x ≤ 2000000000 := by
  have e := H x.toNat (by omega)
  rw [Int.toNat_of_nonneg h0] at e
  rw [e]
  exact jdp_U (by decide) _ _
theorem jmft_c {h g : JH} {t k k' : Int} (e : ∀ i k : Int, 205 ≤ i → i ≤ 214 → g i k = h i k) (ek : k' = k) : jmft g t k' ↔ jmft h t k := by
  subst ek
  unfold jmft
  rw [e 205 _ (by decide) (by decide), e 206 _ (by decide) (by decide), e 207 _ (by decide) (by decide), e 208 _ (by decide) (by decide), e 211 _ (by decide) (by decide), e 212 _ (by decide) (by decide), e 213 _ (by decide) (by decide), e 214 _ (by decide) (by decide)]
