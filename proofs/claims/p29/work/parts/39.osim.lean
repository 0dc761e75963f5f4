/-! ===== MATCHING on pictures: the class ===== -/
abbrev jcft (h : JH) (s t i : Int) : Prop := h 85 t = h 93 (s * 6 + i) ∧ h 96 (s * 6 + i) ≤ h 87 t ∧ h 86 t - h 94 (s * 6 + i) ≤ h 95 (s * 6 + i) ∧ h 94 (s * 6 + i) - h 86 t ≤ h 95 (s * 6 + i)
def jcO (h : JH) (s : Int) (t i : Nat) : Int := h 87 t - h 96 (s * 6 + i)
def jcA (h : JH) (s : Int) (t i : Nat) : Bool := decide (h 88 t = -9 ∧ (i : Int) < h 92 s ∧ jcft h s t i)
def jcI (h : JH) (s t i : Int) : Int := (h 87 t - h 96 (s * 6 + i)) * 4750104241 + t * jwt.getD i.toNat 0 - jlk i
def jFi (h : JH) (s t f n : Int) (g : JH) : Prop := ∀ i : Int, 0 ≤ i → i < 6 → (jbt f i = true ↔ (i < n ∧ jcft h s t i)) ∧ (jbt f i = true → g 100 i = jcI h s t i)
theorem jm_orb (f i j : Int) (h0 : 0 ≤ f) (h1 : f ≤ 63) (h4 : 0 ≤ i) (h5 : i < 6) (h6 : 0 ≤ j) (h7 : j < 6) : jbt (jor f (jshl 1 i)) j = true ↔ (jbt f j = true ∨ i = j) := by
  have e := List.all_eq_true.mp (List.all_eq_true.mp (List.all_eq_true.mp jm_4 f.toNat (List.mem_range.mpr (by omega))) i.toNat (List.mem_range.mpr (by omega))) j.toNat (List.mem_range.mpr (by omega))
  have e : (jor ((f.toNat : Nat) : Int) (jshl 1 ((i.toNat : Nat) : Int))).toNat.testBit j.toNat = (f.toNat.testBit j.toNat || decide (i.toNat = j.toNat)) := eq_of_beq e
  rw [Int.toNat_of_nonneg h0, Int.toNat_of_nonneg h4] at e
  unfold jbt
  rw [e, Bool.or_eq_true, decide_eq_true_eq]
  constructor
  · rintro (q | q)
    · exact Or.inl q
    · exact Or.inr (by omega)
  · rintro (q | q)
    · exact Or.inl q
    · exact Or.inr (by omega)
theorem jbt_0 (i : Int) : jbt 0 i = false := by unfold jbt; exact Nat.zero_testBit _
theorem jFi_0 {h g : JH} {s t : Int} : jFi h s t 0 0 g := fun i h0 h1 => by
  rw [jbt_0]
  exact ⟨⟨fun q => absurd q (by decide), fun q => absurd q.1 (by omega)⟩, fun q => absurd q (by decide)⟩
theorem jFi_no {h g : JH} {s t f n : Int} (H : jFi h s t f n g) (no : ¬ jcft h s t n) : jFi h s t f (n + 1) g := fun i h0 h1 => by
  obtain ⟨a, b⟩ := H i h0 h1
  refine ⟨a.trans ⟨fun q => ⟨by omega, q.2⟩, fun q => ⟨?_, q.2⟩⟩, b⟩
  by_cases z : i = n
  · exact absurd (by rw [← z]; exact q.2) no
  · omega
theorem jFi_ys {h g g' : JH} {s t f n v : Int} (H : jFi h s t f n g) (hf : 0 ≤ f ∧ f ≤ 63) (hn : 0 ≤ n ∧ n < 6) (ys : jcft h s t n) (e : g' = jup g 100 n v) (hv : v = jcI h s t n) : jFi h s t (jor f (jshl 1 n)) (n + 1) g' := fun i h0 h1 => by
  obtain ⟨a, b⟩ := H i h0 h1
  rw [jm_orb f n i hf.1 hf.2 hn.1 hn.2 h0 h1]
  by_cases z : n = i
  · subst z
    exact ⟨⟨fun _ => ⟨by omega, ys⟩, fun _ => Or.inr rfl⟩, fun _ => by rw [jup_s e]; exact hv⟩
  · refine ⟨⟨fun q => ?_, fun q => Or.inl (a.2 ⟨by omega, q.2⟩)⟩, fun q => ?_⟩
    · rcases q with q | q
      · have w := a.1 q; exact ⟨by omega, w.2⟩
      · exact absurd q z
    · rw [jup_o e (by omega)]
      rcases q with q | q
      · exact b q
      · exact absurd q z
/-! offered -/
def jOf (f : Int) (h : JH) (s n : Nat) : Int := jdf (fun i => jbt f i) (fun i => h 100 i) 4611686018427387904 (fun s => h 99 s) s n
def jO1 (f S : Int) (h : JH) (x : Int) (g : JH) : Prop := ∀ s : Nat, s < 64 → g 99 s = if x < s ∧ (s : Int) < S then jOf f h s 6 else h 99 s
def jO2 (f S : Int) (h : JH) (x y : Int) (g : JH) : Prop := (∀ s : Nat, s < 64 → ¬ (s : Int) = x → g 99 s = if x < s ∧ (s : Int) < S then jOf f h s 6 else h 99 s) ∧ g 99 x = jOf f h x.toNat y.toNat
def jmx_P (s i : Nat) : Bool := decide (jxor (s : Int) (jshl 1 (i : Int)) = ((s ^^^ 2 ^ i : Nat) : Int)) && decide (jand (s : Int) (jxor (jshl 1 (i : Int)) (-1)) = (if s.testBit i = true then ((s ^^^ 2 ^ i : Nat) : Int) else (s : Int)))
theorem jmx_1 : (List.range 64).all (fun s => (List.range 6).all (fun i => jmx_P s i)) = true := by decide +kernel
theorem jmx {s i : Int} (h0 : 0 ≤ s) (h1 : s ≤ 63) (h4 : 0 ≤ i) (h5 : i < 6) : jxor s (jshl 1 i) = ((s.toNat ^^^ 2 ^ i.toNat : Nat) : Int) ∧ jand s (jxor (jshl 1 i) (-1)) = (if s.toNat.testBit i.toNat = true then ((s.toNat ^^^ 2 ^ i.toNat : Nat) : Int) else s) := by
  have e := List.all_eq_true.mp (List.all_eq_true.mp jmx_1 s.toNat (List.mem_range.mpr (by omega))) i.toNat (List.mem_range.mpr (by omega))
  unfold jmx_P at e
  rw [Bool.and_eq_true] at e
  have e1 := of_decide_eq_true e.1
  have e2 := of_decide_eq_true e.2
  rw [Int.toNat_of_nonneg h0, Int.toNat_of_nonneg h4] at e1 e2
  exact ⟨e1, e2⟩
theorem jm_bi {s f i : Int} (h0 : 0 ≤ s) (h1 : s ≤ 63) (h2 : 0 ≤ f) (h3 : f ≤ 63) (h4 : 0 ≤ i) (h5 : i < 6) : (¬ jand (jand s f) (jshl 1 i) = 0) ↔ (s.toNat.testBit i.toNat = true ∧ jbt f i = true) := by
  have e2 := List.all_eq_true.mp (List.all_eq_true.mp jm_2 s.toNat (List.mem_range.mpr (by omega))) f.toNat (List.mem_range.mpr (by omega))
  have e2 : jand ((s.toNat : Nat) : Int) ((f.toNat : Nat) : Int) = ((s.toNat &&& f.toNat : Nat) : Int) := of_decide_eq_true e2
  rw [Int.toNat_of_nonneg h0, Int.toNat_of_nonneg h2] at e2
  have hlt : s.toNat &&& f.toNat < 64 := Nat.lt_of_le_of_lt Nat.and_le_left (by omega)
  have e1 := List.all_eq_true.mp (List.all_eq_true.mp jm_1 (s.toNat &&& f.toNat) (List.mem_range.mpr hlt)) i.toNat (List.mem_range.mpr (by omega))
  have e1 : decide (jand (((s.toNat &&& f.toNat : Nat)) : Int) (jshl 1 ((i.toNat : Nat) : Int)) ≠ 0) = (s.toNat &&& f.toNat).testBit i.toNat := eq_of_beq e1
  rw [← e2, Int.toNat_of_nonneg h4, Nat.testBit_and] at e1
  unfold jbt
  rw [← Bool.and_eq_true, ← e1, decide_eq_true_eq]
theorem jO_i {f S x : Int} {h g : JH} (H : jO1 f S h x g) (h0 : 0 ≤ x) (h1 : x ≤ 63) : jO2 f S h x 0 g := by
  refine ⟨fun s a _ => H s a, ?_⟩
  have e := H x.toNat (by omega)
  rw [Int.toNat_of_nonneg h0, if_neg (by omega)] at e
  rw [e]
  show h 99 x = h 99 (x.toNat : Int)
  rw [Int.toNat_of_nonneg h0]
theorem jO_e {f S x : Int} {h g : JH} (H : jO2 f S h x 6 g) (h0 : 0 ≤ x) (h1 : x ≤ 63) (h2 : x < S) : jO1 f S h (x - 1) g := fun s a => by
  by_cases z : (s : Int) = x
  · rw [z, H.2, if_pos (by omega), show s = x.toNat by omega]; rfl
  · rw [H.1 s a z]
    by_cases y : x < s ∧ (s : Int) < S
    · rw [if_pos y, if_pos (by omega)]
    · rw [if_neg y, if_neg (by omega)]
theorem jO_r {f S x y : Int} {h g : JH} (H : jO2 f S h x y g) (h0 : 0 ≤ x) (h1 : x ≤ 63) (h2 : 0 ≤ y) (h3 : y < 6) (b : x.toNat.testBit y.toNat = true) : g 99 (jxor x (jshl 1 y)) = h 99 ((x.toNat ^^^ 2 ^ y.toNat : Nat) : Int) := by
  obtain ⟨_, q1, q2⟩ := jq_x (s := x.toNat) (i := y.toNat) (by omega) (by omega)
  have q := q2 b
  rw [(jmx h0 h1 h2 h3).1, H.1 _ q1 (by omega), if_neg (by omega)]
theorem jof_s {f x y : Int} {h : JH} (h2 : 0 ≤ y) : jOf f h x.toNat (y + 1).toNat = if x.toNat.testBit y.toNat = true ∧ jbt f y = true ∧ ¬ h 99 ((x.toNat ^^^ 2 ^ y.toNat : Nat) : Int) = 4611686018427387904 ∧ h 99 ((x.toNat ^^^ 2 ^ y.toNat : Nat) : Int) + h 100 y < jOf f h x.toNat y.toNat then h 99 ((x.toNat ^^^ 2 ^ y.toNat : Nat) : Int) + h 100 y else jOf f h x.toNat y.toNat := by
  obtain ⟨n, rfl⟩ := Int.eq_ofNat_of_zero_le h2
  rfl
theorem jO_n {f S x y : Int} {h g : JH} (H : jO2 f S h x y g) (h0 : 0 ≤ x) (h1 : x ≤ 63) (hf : 0 ≤ f ∧ f ≤ 63) (h2 : 0 ≤ y) (h3 : y < 6) (no : jand (jand x f) (jshl 1 y) = 0 ∨ (¬ jand (jand x f) (jshl 1 y) = 0 ∧ g 99 (jxor x (jshl 1 y)) = 4611686018427387904)) : jO2 f S h x (y + 1) g := by
  refine ⟨H.1, ?_⟩
  rw [jof_s h2, H.2]
  refine (if_neg (fun q => ?_)).symm
  rcases no with n | n
  · exact (jm_bi h0 h1 hf.1 hf.2 h2 h3).2 ⟨q.1, q.2.1⟩ n
  · have r := jO_r H h0 h1 h2 h3 q.1
    exact q.2.2.1 (by omega)
theorem jO_u {f S x y v w : Int} {h g g' : JH} (H : jO2 f S h x y g) (h0 : 0 ≤ x) (h1 : x ≤ 63) (hf : 0 ≤ f ∧ f ≤ 63) (h2 : 0 ≤ y) (h3 : y < 6) (b : ¬ jand (jand x f) (jshl 1 y) = 0) (u : ¬ g 99 (jxor x (jshl 1 y)) = 4611686018427387904) (ew : w = g 99 (jxor x (jshl 1 y)) + h 100 y) (e : g' = jup g 99 x v) (v1 : v ≤ g 99 x) (v2 : v ≤ w) (v3 : v = g 99 x ∨ v = w) : jO2 f S h x (y + 1) g' := by
  have bb := (jm_bi h0 h1 hf.1 hf.2 h2 h3).1 b
  have r := jO_r H h0 h1 h2 h3 bb.1
  refine ⟨fun s a z => by rw [jup_o e (by omega)]; exact H.1 s a z, ?_⟩
  have k := H.2
  rw [jup_s e, jof_s h2]
  by_cases z : h 99 ((x.toNat ^^^ 2 ^ y.toNat : Nat) : Int) + h 100 y < jOf f h x.toNat y.toNat
  · rw [if_pos ⟨bb.1, bb.2, by omega, z⟩]; omega
  · rw [if_neg (fun q => z q.2.2.2)]; omega
def jOP (f S : Int) (h g : JH) : Prop := ∀ s : Nat, s < 64 → g 99 s = if (s : Int) < S then jOf f h s 6 else h 99 s
theorem jof_n {f : Int} {h : JH} {s : Nat} : ∀ n : Nat, (∀ i : Nat, i < n → ¬ (s.testBit i = true ∧ jbt f i = true)) → jOf f h s n = h 99 s
  | 0, _ => rfl
  | n + 1, q => by
      have e : jOf f h s (n + 1) = if s.testBit n = true ∧ jbt f n = true ∧ ¬ h 99 ((s ^^^ 2 ^ n : Nat) : Int) = 4611686018427387904 ∧ h 99 ((s ^^^ 2 ^ n : Nat) : Int) + h 100 n < jOf f h s n then h 99 ((s ^^^ 2 ^ n : Nat) : Int) + h 100 n else jOf f h s n := rfl
      rw [e, if_neg (fun w => q n (by omega) ⟨w.1, w.2.1⟩)]
      exact jof_n n (fun i a => q i (by omega))
theorem jO_x {f S x : Int} {h g : JH} (H : jO1 f S h x g) (q : x ≤ 0 ∨ f = 0) : jOP f S h g := fun s a => by
  rw [H s a]
  by_cases z : x < s ∧ (s : Int) < S
  · rw [if_pos z, if_pos z.2]
  · rw [if_neg z]
    by_cases y : (s : Int) < S
    · rw [if_pos y]
      refine (jof_n 6 (fun i _ w => ?_)).symm
      rcases q with q | q
      · have s0 : s = 0 := by omega
        have w1 := w.1
        rw [s0, Nat.zero_testBit] at w1
        exact absurd w1 (by decide)
      · have w2 := w.2
        rw [q, jbt_0] at w2
        exact absurd w2 (by decide)
    · rw [if_neg y]
/-! tree by tree -/
theorem jdf_c {A A' : Nat → Bool} {c c' : Nat → Int} {U : Int} {L L' : Nat → Int} {s : Nat} (eL : L' s = L s) : ∀ n : Nat, (∀ i : Nat, i < n → s.testBit i = true → A' i = A i ∧ (A i = true → c' i = c i) ∧ L' (s ^^^ 2 ^ i) = L (s ^^^ 2 ^ i)) → jdf A' c' U L' s n = jdf A c U L s n
  | 0, _ => eL
  | n + 1, h => by
      have ih := jdf_c (c := c) (c' := c') (U := U) eL n (fun i a b => h i (by omega) b)
      rw [jdf_s, jdf_s, ih]
      by_cases z : s.testBit n = true
      · obtain ⟨a, b, d⟩ := h n (by omega) z
        rw [a, d]
        by_cases y : A n = true
        · rw [b y]
        · rw [if_neg (fun q => y q.2.1), if_neg (fun q => y q.2.1)]
      · rw [if_neg (fun q => z q.1), if_neg (fun q => z q.1)]
theorem jdf_no {A : Nat → Bool} {c : Nat → Int} {U : Int} {L : Nat → Int} {s : Nat} : ∀ n : Nat, (∀ i : Nat, i < n → A i = false) → jdf A c U L s n = L s
  | 0, _ => rfl
  | n + 1, h => by
      rw [jdf_s, if_neg (fun q => by rw [h n (by omega)] at q; exact absurd q.2.1 (by decide))]
      exact jdf_no n (fun i a => h i (by omega))
def jS1 (h : JH) (s t : Int) (g : JH) : Prop := ∀ z : Nat, z < 2 ^ (h 92 s).toNat → g 99 z = jdp (jcA h s) (jcc (jcO h s)) (jLi (h 92 s)) 4611686018427387904 t.toNat z
theorem jdp_s {A : Nat → Nat → Bool} {c : Nat → Nat → Int} {b U t : Int} {s : Nat} (h0 : 0 ≤ t) : jdp A c b U (t + 1).toNat s = jdf (A t.toNat) (c t.toNat) U (jdp A c b U t.toNat) s 6 := by
  obtain ⟨n, rfl⟩ := Int.eq_ofNat_of_zero_le h0
  rfl
theorem jS_0 {h g : JH} {s : Int} (e0 : g 99 0 = jLi (h 92 s)) (e1 : ∀ z : Int, 1 ≤ z → z ≤ 63 → g 99 z = 4611686018427387904) (hn : 0 ≤ h 92 s ∧ h 92 s ≤ 6) : jS1 h s 0 g := fun z hz => by
  have q := jq_64 (n := (h 92 s).toNat) (by omega)
  show g 99 z = if z = 0 then jLi (h 92 s) else 4611686018427387904
  by_cases y : z = 0
  · rw [if_pos y, y]; exact e0
  · rw [if_neg y]; exact e1 z (by omega) (by omega)
theorem jS_no {h g g' : JH} {s t : Int} (H : jS1 h s t g) (e : ∀ z : Int, g' 99 z = g 99 z) (h0 : 0 ≤ t) (no : ¬ h 88 t = -9) : jS1 h s (t + 1) g' := fun z hz => by
  rw [e, H z hz, jdp_s h0, jdf_no 6 (fun i _ => ?_)]
  unfold jcA
  rw [Int.toNat_of_nonneg h0]
  exact decide_eq_false (fun q => no q.1)
theorem jS_ys {h g g1 g' : JH} {s t f n S : Int} (H : jS1 h s t g) (h0 : 0 ≤ t) (ys : h 88 t = -9) (hn : n = h 92 s) (hb : 0 ≤ n ∧ n ≤ 6) (F : jFi h s t f n g1) (e : ∀ z : Int, g1 99 z = g 99 z) (O : jOP f S g1 g') (hS : S = ((2 ^ n.toNat : Nat) : Int)) : jS1 h s (t + 1) g' := fun z hz => by
  have hz' := hz
  rw [← hn] at hz'
  have z64 : z < 64 := Nat.lt_of_lt_of_le hz' (jq_64 (by omega))
  rw [O z z64, if_pos (by omega), jdp_s h0]
  unfold jOf
  refine jdf_c (by show g1 99 z = _; rw [e]; exact H z hz) 6 (fun i hi b => ?_)
  obtain ⟨_, _, x3⟩ := jq_x z64 hi
  have lt := x3 b
  obtain ⟨a1, a2⟩ := F i (by omega) (by omega)
  have ia : jbt f i = jcA h s t.toNat i := by
    unfold jcA
    rw [Int.toNat_of_nonneg h0]
    by_cases w : jbt f i = true
    · rw [w]; have k := a1.1 w; exact (decide_eq_true ⟨ys, by omega, k.2⟩).symm
    · rw [show jbt f i = false from by cases b : jbt f i with
        | false => rfl
        | true => exact absurd b w]; exact (decide_eq_false (fun q => w (a1.2 ⟨by omega, q.2.2⟩))).symm
  refine ⟨ia, fun q => ?_, ?_⟩
  · show g1 100 i = _
    rw [a2 (by rw [ia]; exact q)]
    unfold jcI jcc jcO jW
    rw [Int.toNat_natCast, Int.toNat_of_nonneg h0]
  · show g1 99 ((z ^^^ 2 ^ i : Nat) : Int) = _
    rw [e]; exact H _ (by omega)
/-! read off -/
def jRo1 (v n : Int) (g : JH) : Prop := (∀ i : Nat, (i : Int) < n → g 98 i = if v / jW i % 41 = 40 then -9 else v / jW i % 41) ∧ g 97 0 = jsg (fun i => if v / jW i % 41 = 40 then 0 else 1) n.toNat
def jM5 (h : JH) : Prop := ∀ t : Int, 0 ≤ t → t < h 84 0 → h 87 t ≤ 600
def jMtP (s : Int) (h g : JH) : Prop := jM5 h → ∃ d : Nat → Nat, jOp (jcA h s) (jcO h s) (h 84 0).toNat d ∧ (∀ i : Nat, (i : Int) < h 92 s → g 98 i = if d i = 40 then -9 else (d i : Int)) ∧ g 97 0 = jcn d ∧ g 97 1 = jcs (jcO h s) d
theorem jlk_p (i : Nat) : 0 ≤ jlk i := by rw [jlk_n]; have := jW_b i; omega
theorem jSolve {h g0 g : JH} {s v n : Int} (H : jS1 h s (h 84 0) g0) (hT : 0 ≤ h 84 0 ∧ h 84 0 ≤ 40) (hn : n = h 92 s) (hb : 0 ≤ n ∧ n ≤ 6) (hB : ∀ k : Int, 0 ≤ h 96 k)
    (m1 : ∀ z : Nat, z < 2 ^ n.toNat → v ≤ g0 99 z) (m2 : ∃ z : Nat, z < 2 ^ n.toNat ∧ v = g0 99 z) (r1 : jRo1 v n g) (r2 : g 97 1 = v / 4750104241 % 4096) : jMtP s h g := by
  intro h5
  subst hn
  have T40 : (h 84 0).toNat ≤ 40 := by omega
  have n6 : (h 92 s).toNat ≤ 6 := by omega
  have hA : ∀ t i : Nat, jcA h s t i = true → i < (h 92 s).toNat := fun t i q => by
    have := (of_decide_eq_true q).2.1; omega
  -- only trees that there are count: a row with those alone
  have hO : ∀ t i : Nat, (jcA h s t i && decide (t < (h 84 0).toNat)) = true → 0 ≤ jcO h s t i ∧ jcO h s t i ≤ 600 := fun t i q => by
    rw [Bool.and_eq_true] at q
    have q1 := of_decide_eq_true q.1
    have q2 := of_decide_eq_true q.2
    have b1 := h5 t (by omega) (by omega)
    have b2 := hB (s * 6 + i)
    unfold jcO
    have := q1.2.2.2.1
    omega
  have eqA : ∀ (t : Nat), t ≤ (h 84 0).toNat → ∀ z : Nat, jdp (jcA h s) (jcc (jcO h s)) (jLi (h 92 s)) 4611686018427387904 t z = jdp (fun t i => jcA h s t i && decide (t < (h 84 0).toNat)) (jcc (jcO h s)) (jLi (h 92 s)) 4611686018427387904 t z := by
    intro t
    induction t with
    | zero => exact fun _ _ => rfl
    | succ t ih =>
        intro ht z
        show jdf (jcA h s t) (jcc (jcO h s) t) 4611686018427387904 (jdp (jcA h s) (jcc (jcO h s)) (jLi (h 92 s)) 4611686018427387904 t) z 6 = jdf (fun i => jcA h s t i && decide (t < (h 84 0).toNat)) (jcc (jcO h s) t) 4611686018427387904 (jdp (fun t i => jcA h s t i && decide (t < (h 84 0).toNat)) (jcc (jcO h s)) (jLi (h 92 s)) 4611686018427387904 t) z 6
        refine jdf_c (ih (by omega) z) 6 (fun i _ _ => ⟨?_, fun _ => rfl, ih (by omega) _⟩)
        rw [decide_eq_true (show t < (h 84 0).toNat by omega), Bool.and_true]
  have lb := jLi_b (h 92 s) hb.1 hb.2
  have cK : ∀ t i : Nat, (jcA h s t i && decide (t < (h 84 0).toNat)) = true → jcc (jcO h s) t i ≤ 2850062544600 := fun t i q => by
    have o := hO t i q
    rw [Bool.and_eq_true] at q
    have q2 := of_decide_eq_true q.2
    have w := jW_b i
    have k := jlk_n i
    have m := jmul_b (a := (t : Int)) (b := jW i) (A := 40) (B := jW i) (by omega) (by omega) w (Int.le_refl _)
    unfold jcc
    omega
  obtain ⟨d, vd, ve, va⟩ := jbest (v := v) (b := jLi (h 92 s)) (U := 4611686018427387904) (K := 2850062544600) (T := (h 84 0).toNat) (n := (h 92 s).toNat) T40 n6 (fun t i q => hA t i (by rw [Bool.and_eq_true] at q; exact q.1)) cK (by decide) (by omega)
    (fun z hz => by rw [← eqA _ (Nat.le_refl _), ← H z hz]; exact m1 z hz) (by obtain ⟨z, hz, e⟩ := m2; exact ⟨z, hz, by rw [← eqA _ (Nat.le_refl _), ← H z hz]; exact e⟩)
  have tr : ∀ e : Nat → Nat, jVd (jcA h s) (h 84 0).toNat e ↔ jVd (fun t i => jcA h s t i && decide (t < (h 84 0).toNat)) (h 84 0).toNat e := fun e => by
    unfold jVd
    constructor
    · intro q
      refine ⟨fun i hi => ?_, q.2⟩
      rcases q.1 i hi with a | a
      · exact Or.inl a
      · exact Or.inr ⟨a.1, by show (jcA h s (e i) i && decide (e i < (h 84 0).toNat)) = true; rw [a.2, decide_eq_true a.1]; rfl⟩
    · intro q
      refine ⟨fun i hi => ?_, q.2⟩
      rcases q.1 i hi with a | a
      · exact Or.inl a
      · exact Or.inr ⟨a.1, by have w := a.2; rw [Bool.and_eq_true] at w; exact w.1⟩
  have op : jOp (jcA h s) (jcO h s) (h 84 0).toNat d := ⟨(tr d).2 vd, fun e w => by
    rw [jN_c, jN_c]
    have := va e ((tr e).1 w)
    omega⟩
  have d40 := jVd_40 T40 vd
  have hw1 := jcs_n (fun t i q => (hO t i q).1) vd
  have hw2 := jcs_b (K := 600) (fun t i q => (hO t i q).2) (by decide) vd
  have ev : v = (6 - jcn d) * 19456426971136 + jcs (jcO h s) d * 4750104241 + jDg d - (jLi 6 - jLi ((h 92 s).toNat : Nat)) := by
    have k1 := jN_e (jcO h s) d
    have k2 := jN_c (jcO h s) d
    rw [Int.toNat_of_nonneg hb.1]
    omega
  have hz : ∀ i : Nat, (h 92 s).toNat ≤ i → i < 6 → d i = 40 := fun i a b => by
    rcases op.1.1 i b with q | q
    · exact q
    · have := hA _ _ q.2; omega
  obtain ⟨g1, g2⟩ := jdig n6 d40 hz ⟨hw1, by omega⟩ ev
  refine ⟨d, op, fun i hi => ?_, ?_, by rw [r2]; exact g1⟩
  · rw [r1.1 i hi, g2 i (by omega)]
    by_cases z : d i = 40
    · rw [if_pos (show ((d i : Nat) : Int) = 40 by omega), if_pos z]
    · rw [if_neg (show ¬ ((d i : Nat) : Int) = 40 by omega), if_neg z]
  · rw [r1.2]
    have e : ∀ n : Nat, n ≤ (h 92 s).toNat → jsg (fun i => if v / jW i % 41 = 40 then (0 : Int) else 1) n = jsg (fun i => if d i = 40 then (0 : Int) else 1) n := fun n hn => jsg_c n (fun i hi => by
      show (if v / jW i % 41 = 40 then (0 : Int) else 1) = (if d i = 40 then (0 : Int) else 1)
      rw [g2 i (by omega)]
      by_cases z : d i = 40
      · rw [if_pos (show ((d i : Nat) : Int) = 40 by omega), if_pos z]
      · rw [if_neg (show ¬ ((d i : Nat) : Int) = 40 by omega), if_neg z])
    rw [e _ (Nat.le_refl _)]
    have up : ∀ m : Nat, (h 92 s).toNat + m ≤ 6 → jsg (fun i => if d i = 40 then (0 : Int) else 1) ((h 92 s).toNat + m) = jsg (fun i => if d i = 40 then (0 : Int) else 1) (h 92 s).toNat := by
      intro m
      induction m with
      | zero => exact fun _ => rfl
      | succ m ih =>
          intro hm
          show jsg (fun i => if d i = 40 then (0 : Int) else 1) ((h 92 s).toNat + m) + (if d ((h 92 s).toNat + m) = 40 then (0 : Int) else 1) = _
          rw [ih (by omega), if_pos (hz _ (by omega) (by omega))]; omega
    have k := up (6 - (h 92 s).toNat) (by omega)
    rw [show (h 92 s).toNat + (6 - (h 92 s).toNat) = 6 by omega] at k
    exact k.symm
theorem jdgt {a v k : Int} (h0 : 0 ≤ a) (h1 : a ≤ 9223372036854775807) (hv : 0 < v) (hk : 0 < k) (hk2 : k ≤ 4096) : jw32 ((jw64 (a.tdiv v)).tmod k) = a / v % k := by
  have e := j64d h0 h1 hv
  rw [e.1, (jmd e.2.1 hk).1]
  have e1 := Int.emod_nonneg (a / v) (show k ≠ 0 by omega)
  have e2 := Int.emod_lt_of_pos (a / v) hk
  exact j32e (by omega) (by omega)
theorem jRo_0 {v : Int} {g : JH} (e : g 97 0 = 0) : jRo1 v 0 g := ⟨fun i hi => absurd hi (by omega), e⟩
theorem jRo_s {v x D : Int} {g g' : JH} (H : jRo1 v x g) (h0 : 0 ≤ x) (eD : D = v / jW x.toNat % 41) (f : ∀ i : Int, ¬ i = x → g' 98 i = g 98 i) (e1 : g' 98 x = if D = 40 then -9 else D) (e2 : g' 97 0 = g 97 0 + (if D = 40 then 0 else 1)) : jRo1 v (x + 1) g' := by
  obtain ⟨n, rfl⟩ := Int.eq_ofNat_of_zero_le h0
  refine ⟨fun i hi => ?_, ?_⟩
  · by_cases z : i = n
    · subst z
      rw [Int.toNat_natCast] at eD
      rw [e1, eD]
    · rw [f i (by omega)]; exact H.1 i (by omega)
  · rw [e2, H.2]
    show _ = jsg (fun i => if v / jW i % 41 = 40 then 0 else 1) n + (if v / jW n % 41 = 40 then 0 else 1)
    rw [Int.toNat_natCast] at eD ⊢
    rw [eD]
theorem jRo_b {v x : Int} {g : JH} (H : jRo1 v x g) (h0 : 0 ≤ x) : 0 ≤ g 97 0 ∧ g 97 0 ≤ x := by
  rw [H.2]
  have b : ∀ n : Nat, 0 ≤ jsg (fun i => if v / jW i % 41 = 40 then (0 : Int) else 1) n ∧ jsg (fun i => if v / jW i % 41 = 40 then (0 : Int) else 1) n ≤ n := by
    intro n
    induction n with
    | zero => exact ⟨Int.le_refl _, Int.le_refl _⟩
    | succ n ih =>
        show 0 ≤ jsg (fun i => if v / jW i % 41 = 40 then (0 : Int) else 1) n + (if v / jW n % 41 = 40 then (0 : Int) else 1) ∧ jsg (fun i => if v / jW i % 41 = 40 then (0 : Int) else 1) n + (if v / jW n % 41 = 40 then (0 : Int) else 1) ≤ ((n + 1 : Nat) : Int)
        by_cases z : v / jW n % 41 = 40
        · rw [if_pos z]; omega
        · rw [if_neg z]; omega
  have := b x.toNat
  omega
theorem jFi_h {h g g1 : JH} {s t f n : Int} (e : ∀ i k : Int, 84 ≤ i → i ≤ 96 → g i k = h i k) (F : jFi g s t f n g1) : jFi h s t f n g1 := fun i h0 h1 => by
  have k := F i h0 h1
  unfold jcft jcI at k
  rw [e 85 _ (by decide) (by decide), e 86 _ (by decide) (by decide), e 87 _ (by decide) (by decide), e 93 _ (by decide) (by decide), e 94 _ (by decide) (by decide), e 95 _ (by decide) (by decide), e 96 _ (by decide) (by decide)] at k
  exact k
theorem jshl_p {n : Int} (h0 : 0 ≤ n) (h1 : n ≤ 6) : jshl 1 n = ((2 ^ n.toNat : Nat) : Int) := by
  have q : n = 0 ∨ n = 1 ∨ n = 2 ∨ n = 3 ∨ n = 4 ∨ n = 5 ∨ n = 6 := by omega
  rcases q with rfl | rfl | rfl | rfl | rfl | rfl | rfl <;> decide +kernel
theorem jBs {g : JH} {x b v w : Int} (h0 : 0 ≤ x) (H : (∀ z : Nat, (z : Int) < x → b ≤ g 99 z) ∧ ∃ z : Nat, (z : Int) < x ∧ b = g 99 z) (ew : w = g 99 x) (m1 : v ≤ b) (m2 : v ≤ w) (m3 : v = b ∨ v = w) : (∀ z : Nat, (z : Int) < x + 1 → v ≤ g 99 z) ∧ ∃ z : Nat, (z : Int) < x + 1 ∧ v = g 99 z := by
  refine ⟨fun z hz => ?_, ?_⟩
  · by_cases y : (z : Int) = x
    · rw [y]; omega
    · have := H.1 z (by omega); omega
  · rcases m3 with m | m
    · obtain ⟨z, a, c⟩ := H.2
      exact ⟨z, by omega, by omega⟩
    · exact ⟨x.toNat, by omega, by rw [Int.toNat_of_nonneg h0]; omega⟩
