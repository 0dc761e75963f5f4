/-! ===== THE LEAST LATE: the reference ===== -/
theorem jfo_s {m k x l t w : Int} (h0 : 0 ≤ x) (e : jfo m k x.toNat = (l, t, w)) : jfo m k (x + 1).toNat = (l % (w / (m - x)), jor t (jshl 1 (jatt m k x.toNat)), w / (m - x)) ∧ jatt m k x.toNat = jzr t 6 (l / (w / (m - x))) 0 := by
  obtain ⟨n, rfl⟩ := Int.eq_ofNat_of_zero_le h0
  have e' : jfo m k n = (l, t, w) := e
  have a : jatt m k ((n : Int)).toNat = jzr t 6 (l / (w / (m - n))) 0 := by
    show jzr (jfo m k n).2.1 6 ((jfo m k n).1 / ((jfo m k n).2.2 / (m - n))) 0 = _
    rw [e']
  refine ⟨?_, a⟩
  rw [a]
  show ((jfo m k n).1 % ((jfo m k n).2.2 / (m - n)), jor (jfo m k n).2.1 (jshl 1 (jzr (jfo m k n).2.1 6 ((jfo m k n).1 / ((jfo m k n).2.2 / (m - n))) 0)), (jfo m k n).2.2 / (m - n)) = _
  rw [e']
theorem jzr_1 {t s a : Int} (h : a ≤ 5) (b : jand (jshr t a) 1 = 1) : jzr t (6 - a).toNat s a = jzr t (6 - (a + 1)).toNat s (a + 1) := by
  rw [show (6 - a).toNat = (6 - (a + 1)).toNat + 1 by omega]
  show (if jand (jshr t a) 1 = 1 ∨ 0 < s then jzr t (6 - (a + 1)).toNat (if jand (jshr t a) 1 = 1 then s else s - 1) (a + 1) else a) = _
  rw [if_pos (Or.inl b), if_pos b]
theorem jzr_2 {t s a : Int} (h : a ≤ 5) (b : ¬ jand (jshr t a) 1 = 1) (c : 0 < s) : jzr t (6 - a).toNat s a = jzr t (6 - (a + 1)).toNat (s - 1) (a + 1) := by
  rw [show (6 - a).toNat = (6 - (a + 1)).toNat + 1 by omega]
  show (if jand (jshr t a) 1 = 1 ∨ 0 < s then jzr t (6 - (a + 1)).toNat (if jand (jshr t a) 1 = 1 then s else s - 1) (a + 1) else a) = _
  rw [if_pos (Or.inr c), if_neg b]
theorem jzr_3 {t s a : Int} (b : ¬ jand (jshr t a) 1 = 1) (c : s ≤ 0) : ∀ f : Nat, jzr t f s a = a
  | 0 => rfl
  | _ + 1 => if_neg (fun q => by rcases q with q | q; exact b q; omega)
theorem jfw_e {m x w : Int} (F : jWf x w) (h : m < x) (h2 : x = 2 ∨ x ≤ m + 1) : w = jfw m := by
  unfold jWf at F
  unfold jfw
  (repeat' split) <;> omega
theorem jfw_r {m : Nat} {w : Int} (h : jWr m w) (h5 : m ≤ 5) : w = (jfa m : Int) := by
  unfold jWr at h
  have q : m = 0 ∨ m = 1 ∨ m = 2 ∨ m = 3 ∨ m = 4 ∨ m = 5 := by omega
  rcases q with rfl | rfl | rfl | rfl | rfl | rfl
  · have : jfa 0 = 1 := by decide
    omega
  · have : jfa 1 = 1 := by decide
    omega
  · have : jfa 2 = 2 := by decide
    omega
  · have : jfa 3 = 6 := by decide
    omega
  · have : jfa 4 = 24 := by decide
    omega
  · have : jfa 5 = 120 := by decide
    omega
/-- those that are asked for -/
def jAk (x n : Int) (h g : JH) : Prop := n = (jull (h 192) x.toNat).length ∧ ∀ i : Nat, i < (jull (h 192) x.toNat).length → i < 5 → g 226 i = (jull (h 192) x.toNat).getD i 0
theorem jAk_0 {h g : JH} : jAk 0 0 h g := ⟨rfl, fun i hi => absurd hi (Nat.not_lt_zero i)⟩
theorem jAk_n {x n : Int} {h g : JH} (h0 : 0 ≤ x) (no : ¬ (h 192 x = 0 ∨ h 192 x = 1)) (I : jAk x n h g) : jAk (x + 1) n h g := by
  unfold jAk
  rw [jull_s h0, if_neg no]
  exact I
theorem jAk_y {x n : Int} {h g g' : JH} (h0 : 0 ≤ x) (y : h 192 x = 0 ∨ h 192 x = 1) (u : (5 ≤ n ∧ g' = g) ∨ (n < 5 ∧ g' = jup g 226 n x)) (I : jAk x n h g) : jAk (x + 1) (n + 1) h g' := by
  obtain ⟨i1, i2⟩ := I
  unfold jAk
  rw [jull_s h0, if_pos y]
  generalize jull (h 192) x.toNat = l at i1 i2
  rw [List.length_append, List.length_singleton]
  refine ⟨by omega, fun i hi h5 => ?_⟩
  by_cases z : i = l.length
  · rcases u with ⟨u1, _⟩ | ⟨_, u2⟩
    · omega
    · rw [show ((i : Nat) : Int) = n by omega, jup_s u2, List.getD_eq_getElem?_getD, List.getElem?_append_right (by omega), show i - l.length = 0 by omega]
      rfl
  · have w : g' 226 i = g 226 i := by
      rcases u with ⟨_, u2⟩ | ⟨_, u2⟩
      · rw [u2]
      · exact jup_o u2 (by omega)
    rw [w, i2 i (by omega) h5, List.getD_eq_getElem?_getD, List.getD_eq_getElem?_getD, List.getElem?_append_left (by omega)]
def jAkd (h : JH) : Prop := h 176 62 = (jUL h).length ∧ (jUL h).length ≤ 5 ∧ ∀ i : Nat, i < (jUL h).length → h 226 i = (jUL h).getD i 0
theorem jAk_e {x n : Int} {h g g' : JH} (I : jAk x n h g) (ex : x = h 176 14) (e : g' = jup g 176 62 n) (f : ∀ i k : Int, i = 192 ∨ (i = 176 ∧ k = 14) → g i k = h i k) : g' 176 62 = (jUL h).length ∧ n = (jUL h).length ∧ jUL g' = jUL h ∧ ((jUL h).length ≤ 5 → jAkd g') := by
  obtain ⟨i1, i2⟩ := I
  rw [ex] at i1 i2
  have j : jUL g' = jUL h := by
    unfold jUL
    rw [jup_o e (by omega), f 176 14 (by omega), show g' 192 = h 192 from funext (fun k => (jup_o e (by omega)).trans (f 192 k (by omega)))]
  have e62 : g' 176 62 = (jUL h).length := (jup_s e).trans i1
  refine ⟨e62, i1, j, fun h5 => ?_⟩
  unfold jAkd
  rw [j]
  exact ⟨e62, h5, fun i hi => (jup_o e (by omega)).trans (i2 i hi (Nat.lt_of_lt_of_le hi h5))⟩
/-- a picture in which an order is led -/
def jLkd (h : JH) (o : Nat → Int) (m : Nat) (p : JH) : Prop := (∀ i k : Int, jma i k → ¬ i = 190 → p i k = h i k) ∧ ∀ i : Nat, i < m → p 190 (o i) = 99 - (i : Int)
def jSww (o : Nat → Int) (p hm : JH) : Nat → Int
  | 0 => 0
  | n + 1 => jw32 (jSww o p hm n + jlbw (jSin p (o n)) (hm 176 0) (hm 191 (o n)))
theorem jSww_s {o : Nat → Int} {p hm : JH} {x : Int} (h0 : 0 ≤ x) : jSww o p hm (x + 1).toNat = jw32 (jSww o p hm x.toNat + jlbw (jSin p (o x.toNat)) (hm 176 0) (hm 191 (o x.toNat))) := by
  obtain ⟨n, rfl⟩ := Int.eq_ofNat_of_zero_le h0
  rfl
/-- so late is order k -/
def jRS (h : JH) (k : Nat) (t : Int) : Prop := ∃ p : JH, jLkd h (jodr h k) (jUL h).length p ∧ t = jSww (jodr h k) p h (jUL h).length ∧ ∀ i : Nat, i < (jUL h).length → 0 ≤ h 191 (jodr h k i) ∧ h 191 (jodr h k i) ≤ 2000
def jRI (x b : Int) (h g : JH) : Prop := jAkd h → ∃ s : Nat → Int, (∀ k : Nat, k < x.toNat → jRS h k (s k)) ∧ b = (jbq s x.toNat).1 ∧ (0 < x → ∀ i : Nat, i < (jUL h).length → g 228 i = jodr h (jbq s x.toNat).2 i)
theorem jRI_0 {h g : JH} : jRI 0 (-1) h g := fun _ => ⟨fun _ => 0, fun k hk => absurd hk (Nat.not_lt_zero k), rfl, fun z => absurd z (by omega)⟩
theorem jRI_fr {x b : Int} {h g g' : JH} (e : ∀ k : Int, g' 228 k = g 228 k) (I : jRI x b h g) : jRI x b h g' := fun A => by
  obtain ⟨s, i1, i2, i3⟩ := I A
  exact ⟨s, i1, i2, fun z i hi => (e _).trans (i3 z i hi)⟩
/-- the order is in the row -/
def jRoq (x : Int) (h g : JH) : Prop := jAkd h → ∀ i : Nat, i < (jUL h).length → g 227 i = jodr h x.toNat i
theorem jRoq_fr {x : Int} {h g g' : JH} (e : ∀ k : Int, g' 227 k = g 227 k) (I : jRoq x h g) : jRoq x h g' := fun A i hi => (e _).trans (I A i hi)
theorem jRoq_mk {x : Int} {h g g' : JH} (h0 : 0 ≤ x) (e2 : g 176 62 = h 176 62) (e6 : ∀ k : Int, g 226 k = h 226 k) (q : jWq (h 176 62) x) (z : ∀ i : Int, 0 ≤ i → i < g 176 62 → g' 227 i = g 226 (jatt (g 176 62) x i.toNat)) : jRoq x h g' := fun A i hi => by
  obtain ⟨a1, a2, a3⟩ := A
  have w := z i (by omega) (by omega)
  rw [w, e2, a1, Int.toNat_natCast, e6]
  have hk : x.toNat < jfa (jUL h).length := by
    rw [a1] at q
    unfold jWq at q
    have j : jWr (jUL h).length (jfa (jUL h).length : Int) := by
      unfold jWr
      have c : (jUL h).length = 0 ∨ (jUL h).length = 1 ∨ (jUL h).length = 2 ∨ (jUL h).length = 3 ∨ (jUL h).length = 4 ∨ (jUL h).length = 5 := by omega
      rcases c with c | c | c | c | c | c <;> rw [c] <;> decide
    unfold jWr at j
    omega
  have p := jatt_p a2 hk i hi
  have ex : ((x.toNat : Nat) : Int) = x := Int.toNat_of_nonneg h0
  rw [ex] at p
  rw [p, a3 _ ((jpos_p a2 hk).1 i hi)]
  rfl
/-- the order is led so far -/
def jR5 (x y : Int) (h g : JH) : Prop := (∀ i k : Int, jma i k → ¬ i = 190 → g i k = h i k) ∧ (jAkd h → x.toNat < jfa (jUL h).length → ∀ i : Nat, (i : Int) < y → i < (jUL h).length → g 190 (jodr h x.toNat i) = 99 - (i : Int))
theorem jR5_0 {x : Int} {h g : JH} (e : ∀ i k : Int, jma i k → ¬ i = 190 → g i k = h i k) : jR5 x 0 h g := ⟨e, fun _ _ i hi => absurd hi (by omega)⟩
theorem jR5_s {x y v : Int} {h g g' : JH} (I : jR5 x y h g) (o : jRoq x h g) (h0 : 0 ≤ y) (hy : y < h 176 62) (ev : v = g 227 y) (e : g' = jup g 190 v (99 - y)) : jR5 x (y + 1) h g' := by
  refine ⟨fun i k a b => (jup_o e (fun z => b z.1)).trans (I.1 i k a b), fun A K i hi hm => ?_⟩
  have r := o A
  have e1 : v = jodr h x.toNat y.toNat := by
    rw [ev, ← r y.toNat (by have := A.1; omega), Int.toNat_of_nonneg h0]
  by_cases z : (i : Int) = y
  · rw [show i = y.toNat by omega, ← e1, jup_s e, Int.toNat_of_nonneg h0]
  · rw [jup_o e (fun w => by
      have w2 := w.2
      rw [e1] at w2
      have := jodr_j A.2.1 K hm (by have := A.1; omega) w2
      omega)]
    exact I.2 A K i (by omega) hm
/-- the days are over, so many are summed -/
def jR9 (x y t : Int) (h g : JH) : Prop := jAkd h → x.toNat < jfa (jUL h).length → ∃ p : JH, jLkd h (jodr h x.toNat) (jUL h).length p ∧ (∀ k : Int, g 198 k = jSin p k) ∧ t = jSww (jodr h x.toNat) p h y.toNat ∧ ∀ i : Nat, (i : Int) < y → i < (jUL h).length → 0 ≤ h 191 (jodr h x.toNat i) ∧ h 191 (jodr h x.toNat i) ≤ 2000
theorem jR9_0 {x y : Int} {h g g' : JH} (I : jR5 x y h g) (hy : h 176 62 ≤ y) (e : g' = jit jmPi 300 g) : jR9 x 0 0 h g' := fun A K => by
  refine ⟨g, ⟨I.1, fun i hi => I.2 A K i (by have := A.1; omega) hi⟩, fun k => by rw [e]; rfl, rfl, fun i hi => absurd hi (by omega)⟩
theorem jR9_s {x y t v a b l d : Int} {h g : JH} (I : jR9 x y t h g) (o : jRoq x h g) (h0 : 0 ≤ y) (hy : y < h 176 62) (ev : v = g 227 y) (ea : a = g 198 v) (eb : b = h 191 v) (ed : d = h 176 0) (bb : 0 ≤ b ∧ b ≤ 2000) (el : l = jlbw a d b) : jR9 x (y + 1) (jw32 (t + l)) h g := fun A K => by
  obtain ⟨p, i1, i2, i3, i4⟩ := I A K
  have e1 : v = jodr h x.toNat y.toNat := by
    rw [ev, ← o A y.toNat (by have := A.1; omega), Int.toNat_of_nonneg h0]
  refine ⟨p, i1, i2, ?_, fun i hi hm => ?_⟩
  · rw [jSww_s h0, ← i3, ← e1, ← i2, el, ea, eb, ed]
  · by_cases z : (i : Int) = y
    · rw [show i = y.toNat by omega, ← e1, ← eb]; exact bb
    · exact i4 i (by omega) hm
theorem jRS_mk {x y t : Int} {h g : JH} (I : jR9 x y t h g) (A : jAkd h) (K : x.toNat < jfa (jUL h).length) (hy : y = h 176 62) : jRS h x.toNat t := by
  obtain ⟨p, i1, i2, i3, i4⟩ := I A K
  refine ⟨p, i1, ?_, fun i hi => i4 i (by have := A.1; omega) hi⟩
  rw [i3, hy, A.1, Int.toNat_natCast]
def jsx (s : Nat → Int) (n : Nat) (t : Int) : Nat → Int := fun k => if k = n then t else s k
theorem jsx_b {s : Nat → Int} {n : Nat} {t : Int} : jbq (jsx s n t) (n + 1) = if (jbq s n).1 < 0 ∨ t < (jbq s n).1 then (t, n) else jbq s n := by
  have e : jbq (jsx s n t) n = jbq s n := jbq_c n (fun k hk => if_neg (by omega))
  have e2 : jsx s n t n = t := if_pos rfl
  show (if (jbq (jsx s n t) n).1 < 0 ∨ jsx s n t n < (jbq (jsx s n t) n).1 then (jsx s n t n, n) else jbq (jsx s n t) n) = _
  rw [e, e2]
/-- no better -/
theorem jRI_n {x y t b w : Int} {h g g' : JH} (I : jRI x b h g) (J : jR9 x y t h g) (h0 : 0 ≤ x) (K : jWr (h 176 62) w) (hx : x < w) (hy : y = h 176 62) (nb : 0 ≤ b ∧ b ≤ t) (e : ∀ k : Int, g' 228 k = g 228 k) : jRI (x + 1) b h g' := fun A => by
  have K' : x.toNat < jfa (jUL h).length := by
    rw [A.1] at K
    have := jfw_r K A.2.1
    omega
  obtain ⟨s, i1, i2, i3⟩ := I A
  have x0 : 0 < x := by
    by_cases z : x = 0
    · rw [z] at i2
      have : b = -1 := i2
      omega
    · omega
  have q : jbq (jsx s x.toNat t) (x.toNat + 1) = jbq s x.toNat := by
    rw [jsx_b, if_neg (by omega)]
  refine ⟨jsx s x.toNat t, fun k hk => ?_, ?_, fun _ i hi => ?_⟩
  · by_cases z : k = x.toNat
    · rw [z, show jsx s x.toNat t x.toNat = t from if_pos rfl]; exact jRS_mk J A K' hy
    · rw [show jsx s x.toNat t k = s k from if_neg z]; exact i1 k (by omega)
  · rw [show (x + 1).toNat = x.toNat + 1 by omega, q]; exact i2
  · rw [show (x + 1).toNat = x.toNat + 1 by omega, q, e]; exact i3 x0 i hi
/-- better: it is copied -/
def jRC (x y t : Int) (h g : JH) : Prop := jAkd h → ∃ s : Nat → Int, (∀ k : Nat, k < x.toNat + 1 → jRS h k (s k)) ∧ jbq s (x.toNat + 1) = (t, x.toNat) ∧ ∀ i : Nat, (i : Int) < y → i < (jUL h).length → g 228 i = jodr h x.toNat i
theorem jRC_0 {x y t b w : Int} {h g g' : JH} (I : jRI x b h g) (J : jR9 x y t h g) (h0 : 0 ≤ x) (K : jWr (h 176 62) w) (hx : x < w) (hy : y = h 176 62) (nb : b < 0 ∨ t < b) : jRC x 0 t h g' := fun A => by
  have K' : x.toNat < jfa (jUL h).length := by
    rw [A.1] at K
    have := jfw_r K A.2.1
    omega
  obtain ⟨s, i1, i2, i3⟩ := I A
  refine ⟨jsx s x.toNat t, fun k hk => ?_, ?_, fun i hi => absurd hi (by omega)⟩
  · by_cases z : k = x.toNat
    · rw [z, show jsx s x.toNat t x.toNat = t from if_pos rfl]; exact jRS_mk J A K' hy
    · rw [show jsx s x.toNat t k = s k from if_neg z]; exact i1 k (by omega)
  · rw [jsx_b, if_pos (by omega)]
theorem jRC_s {x y t v : Int} {h g g' : JH} (I : jRC x y t h g) (o : jRoq x h g) (h0 : 0 ≤ y) (hy : y < h 176 62) (ev : v = g 227 y) (e : g' = jup g 228 y v) : jRC x (y + 1) t h g' := fun A => by
  obtain ⟨s, i1, i2, i3⟩ := I A
  refine ⟨s, i1, i2, fun i hi hm => ?_⟩
  by_cases z : (i : Int) = y
  · rw [z, jup_s e, ev, ← z]; exact o A i hm
  · rw [jup_o e (by omega)]; exact i3 i (by omega) hm
theorem jRC_e {x y t : Int} {h g : JH} (I : jRC x y t h g) (h0 : 0 ≤ x) (hy : h 176 62 ≤ y) : jRI (x + 1) t h g := fun A => by
  obtain ⟨s, i1, i2, i3⟩ := I A
  have ex : (x + 1).toNat = x.toNat + 1 := by omega
  rw [ex]
  exact ⟨s, i1, by rw [i2], fun _ i hi => by rw [i2]; exact i3 i (by have := A.1; omega) hi⟩
/-- what the reference finds -/
def jRLs (h : JH) (t : Int) (o : Nat → Int) : Prop := ∃ s : Nat → Int, (∀ k : Nat, k < jfa (jUL h).length → jRS h k (s k)) ∧ t = (jbq s (jfa (jUL h).length)).1 ∧ ∀ i : Nat, i < (jUL h).length → o i = jodr h (jbq s (jfa (jUL h).length)).2 i
theorem jRLs_e {x b w : Int} {h g : JH} (I : jRI x b h g) (A : jAkd h) (K : jWr (h 176 62) w) (e1 : w ≤ x) (e2 : x ≤ w) : jRLs h b (fun i => g 228 i) := by
  rw [A.1] at K
  have k := jfw_r K A.2.1
  have j0 := jfa_p (jUL h).length
  obtain ⟨s, i1, i2, i3⟩ := I A
  rw [show x.toNat = jfa (jUL h).length by omega] at i1 i2 i3
  exact ⟨s, i1, i2, fun i hi => i3 (by omega) i hi⟩
theorem jRLs_fr {h h' : JH} {t : Int} {o : Nat → Int} (e : ∀ i k : Int, ¬ i = 226 → ¬ (i = 176 ∧ k = 62) → h' i k = h i k) (R : jRLs h' t o) : jRLs h t o := by
  have j : jUL h' = jUL h := by
    unfold jUL
    rw [e 176 14 (by omega) (by omega), show h' 192 = h 192 from funext (fun k => e 192 k (by omega) (by omega))]
  have od : ∀ k i : Nat, jodr h' k i = jodr h k i := fun k i => by unfold jodr; rw [j]
  obtain ⟨s, r1, r2, r3⟩ := R
  rw [j] at r1 r2 r3
  refine ⟨s, fun k hk => ?_, r2, fun i hi => by rw [← od]; exact r3 i hi⟩
  obtain ⟨p, ⟨p1, p2⟩, p3, p4⟩ := r1 k hk
  rw [j] at p2 p3 p4
  have of : jodr h' k = jodr h k := funext (od k)
  rw [of] at p2 p3 p4
  have sw : ∀ n : Nat, jSww (jodr h k) p h' n = jSww (jodr h k) p h n := fun n => by
    induction n with
    | zero => rfl
    | succ n ih =>
        show jw32 (jSww (jodr h k) p h' n + jlbw (jSin p (jodr h k n)) (h' 176 0) (h' 191 (jodr h k n))) = jw32 (jSww (jodr h k) p h n + jlbw (jSin p (jodr h k n)) (h 176 0) (h 191 (jodr h k n)))
        rw [ih, e 176 0 (by omega) (by omega), e 191 _ (by omega) (by omega)]
  refine ⟨p, ⟨fun i k' a b => (p1 i k' a b).trans (e i k' (by unfold jma at a; omega) (by unfold jma at a; omega)), p2⟩, by rw [p3, sw], fun i hi => ?_⟩
  have w := p4 i hi
  rw [e 191 _ (by omega) (by omega)] at w
  exact w
/-- one order in two pictures -/
theorem jR2_9k {hc hm hm' : JH} (o : ∀ i k : Int, jma i k → ¬ i = 190 → hm' i k = hm i k) (R : jR2 29 (jDn 16) hc hm) : jR2 29 (jDn 16) hc hm' := by
  obtain ⟨r1, r2, r3⟩ := R
  refine ⟨fun g a b => ?_, fun b a c => ?_, fun k hk => ?_⟩
  · rw [o 181 g (by unfold jma; omega) (by decide)]; exact r1 g a b
  · exact jBR_fr rfl (o 202 b (by unfold jma; omega) (by decide)) (fun k _ x y => ⟨o 192 k (by unfold jma; omega) (by decide), o 193 k (by unfold jma; omega) (by decide)⟩) (r2 b a c)
  · have q := r3 k hk
    have k0 : 0 ≤ k ∧ k < 16 := hk
    unfold jHR at q ⊢
    rw [o 189 k (by unfold jma; omega) (by decide), o 192 k (by unfold jma; omega) (by decide), o 193 k (by unfold jma; omega) (by decide), o 194 k (by unfold jma; omega) (by decide), o 195 k (by unfold jma; omega) (by decide), o 196 k (by unfold jma; omega) (by decide), o 197 k (by unfold jma; omega) (by decide), o 198 k (by unfold jma; omega) (by decide)]
    obtain ⟨q1, q2, q3, q4, q5⟩ := q
    refine ⟨q1, fun g a b => ?_, q3, fun z g a b => ?_, q5⟩
    · rw [o 200 _ (by unfold jma; omega) (by decide)]; exact q2 g a b
    · rw [o 199 _ (by unfold jma; omega) (by decide)]; exact q4 z g a b
theorem jTq_lk {h g hm p : JH} {k : Nat} (S : jDR False h hm) (q1 : h 111 3 = hm 176 0) (q2 : jAlF (h 111 3) h hm) (q3 : jLr h) (h5 : (jUL hm).length ≤ 5) (hk : k < jfa (jUL hm).length) (e : ∀ i k : Int, jwk i k ∨ (i = 111 ∧ k = 3) ∨ (114 ≤ i ∧ i ≤ 118) → g i k = h i k) (r : ∀ i : Nat, i < (jUL hm).length → g 175 i = jodr hm k i) (L : jLkd hm (jodr hm k) (jUL hm).length p) :
    jTq 175 (jUL hm).length (fun x => ∃ i : Int, 0 ≤ i ∧ i < ((jUL hm).length : Int) ∧ g 175 i = x) g p := by
  obtain ⟨⟨R, T, nd⟩, ⟨n0, n1, n2⟩, Di, ⟨l1, l2, l3⟩, dd, al, lr⟩ := jTq_or S q1 q2 q3 h5 hk e r
  have o : ∀ i k' : Int, jma i k' → ¬ i = 190 → p i k' = jprs (jodr hm k) (jUL hm).length hm i k' := fun i k' a b => (L.1 i k' a b).trans (jprs_o b _).symm
  have o14 := o 176 14 (by unfold jma; omega) (by decide)
  refine ⟨⟨jR2_9k o R, jTK_fr (fun _ _ _ _ => rfl) (fun i k a b => o i k (by unfold jma; omega) (by omega)) T, jNd_fr (fun i j z => o i j (by unfold jma; omega) (by omega)) nd⟩, ⟨n0, n1, by rw [o14]; exact n2⟩, Di, ⟨fun i a b => by rw [o14]; exact l1 i a b, fun i j a b c => ?_, fun x a b c => ?_⟩, by rw [o 176 0 (by unfold jma; omega) (by decide)]; exact dd, jAlF_fr (fun _ _ _ _ => rfl) (fun i k a b => o i k (by unfold jma; omega) (by omega)) (fun i k a b => o i k (by unfold jma; omega) (by omega)) (o 176 6 (by unfold jma; omega) (by decide)) al, lr⟩
  · have w := l2 i j a b c
    have ri := r i.toNat (by omega)
    have rj := r j.toNat (by omega)
    rw [Int.toNat_of_nonneg a] at ri
    rw [Int.toNat_of_nonneg (by omega)] at rj
    unfold jKy at w ⊢
    have inj := jprs_s (o := jodr hm k) (h := hm) (jUL hm).length (fun x y hx hy q => jodr_j h5 hk hx hy q)
    rw [ri, rj] at w ⊢
    rw [inj i.toNat (by omega), inj j.toNat (by omega)] at w
    rw [L.2 i.toNat (by omega), L.2 j.toNat (by omega)]
    exact w
  · rw [o14] at b
    have n3 := n2
    rw [o 192 x (by unfold jma; omega) (by decide)] at c
    exact l3 x a b c
/-- class and reference find the same -/
theorem jRS_k {h hm : JH} {k : Nat} {t : Int} (S : jDR False h hm) (q1 : h 111 3 = hm 176 0) (q2 : jAlF (h 111 3) h hm) (q3 : jLr h) (s9 : jS9 hm) (h2 : hm 176 0 ≤ 2000) (h5 : (jUL hm).length ≤ 5) (hk : k < jfa (jUL hm).length) (R : jRS hm k t) : t = jsk hm k := by
  obtain ⟨p, L, et, bd⟩ := R
  have n0 : 0 ≤ hm 176 14 := S.1.2.1
  have d0 : 0 ≤ hm 176 0 := S.1.2.2.2.2.1
  let g : JH := fun i j => if i = 175 then jodr hm k j.toNat else h i j
  have e : ∀ i j : Int, jwk i j ∨ (i = 111 ∧ j = 3) ∨ (114 ≤ i ∧ i ≤ 118) → g i j = h i j := fun i j q => if_neg (by unfold jwk at q; omega)
  have r : ∀ i : Nat, i < (jUL hm).length → g 175 i = jodr hm k i := fun i _ => (if_pos rfl).trans (by rw [Int.toNat_natCast])
  have A := jTq_or S q1 q2 q3 h5 hk e r
  have B := jTq_lk S q1 q2 q3 h5 hk e r L
  have C := jTq_run B A
  have C' : ∀ i : Nat, i < (jUL hm).length → jSin p (jodr hm k i) = jSin (jprs (jodr hm k) (jUL hm).length hm) (jodr hm k i) := fun i hi => by
    have c := C i (by omega) (by omega)
    rw [r i hi] at c
    exact c
  have o : ∀ i j : Int, ¬ i = 190 → jprs (jodr hm k) (jUL hm).length hm i j = hm i j := fun i j q => jprs_o q _
  have key : ∀ n : Nat, n ≤ (jUL hm).length → jSww (jodr hm k) p hm n = jsl3 (jodr hm k) (jUL hm).length hm n ∧ jsl3 (jodr hm k) (jUL hm).length hm n ≤ 2301 * n := by
    intro n
    induction n with
    | zero => exact fun _ => ⟨rfl, by show (0 : Int) ≤ 2301 * ((0 : Nat) : Int); omega⟩
    | succ n ih =>
        intro hn
        obtain ⟨i1, i2⟩ := ih (by omega)
        have u := (jUL_m n0).1 (jodr_b h5 hk (show n < (jUL hm).length by omega))
        have s := jS9_in (h := jprs (jodr hm k) (jUL hm).length hm) (by rw [o 176 0 (by decide)]; exact ⟨d0, h2⟩) (jS9_fr (fun k _ _ => o 198 k (by decide)) (o 176 0 (by decide)) s9) (k := jodr hm k n) ⟨u.1, by have := u.2.1; have := S.1.2.2.1; omega⟩
        have b := bd n (by omega)
        have p0 := jsl3_p (o := jodr hm k) (m := (jUL hm).length) (hm := hm) n
        have c := jlb_b s b ⟨d0, h2⟩
        have w := jlbw_b s b ⟨d0, h2⟩
        show jw32 (jSww (jodr hm k) p hm n + jlbw (jSin p (jodr hm k n)) (hm 176 0) (hm 191 (jodr hm k n))) = jsl3 (jodr hm k) (jUL hm).length hm n + jlb (jSin (jprs (jodr hm k) (jUL hm).length hm) (jodr hm k n)) (hm 176 0) (hm 191 (jodr hm k n)) ∧ jsl3 (jodr hm k) (jUL hm).length hm n + jlb (jSin (jprs (jodr hm k) (jUL hm).length hm) (jodr hm k n)) (hm 176 0) (hm 191 (jodr hm k n)) ≤ 2301 * ((n + 1 : Nat) : Int)
        rw [C' n (by omega), w, i1]
        exact jadd3 (Nat.le_trans hn h5) p0 i2 c
  rw [et, (key _ (Nat.le_refl _)).1]
  rfl
theorem jRLs_k {h hm : JH} {t : Int} {o : Nat → Int} (S : jDR False h hm) (q1 : h 111 3 = hm 176 0) (q2 : jAlF (h 111 3) h hm) (q3 : jLr h) (s9 : jS9 hm) (h2 : hm 176 0 ≤ 2000) (h5 : (jUL hm).length ≤ 5) (R : jRLs hm t o) : t = (jbq (jsk hm) (jfa (jUL hm).length)).1 ∧ ∀ i : Nat, i < (jUL hm).length → o i = jodr hm (jbq (jsk hm) (jfa (jUL hm).length)).2 i := by
  obtain ⟨s, r1, r2, r3⟩ := R
  have e : jbq s (jfa (jUL hm).length) = jbq (jsk hm) (jfa (jUL hm).length) := jbq_c _ (fun k hk => jRS_k S q1 q2 q3 s9 h2 h5 hk (r1 k hk))
  rw [e] at r2 r3
  exact ⟨r2, r3⟩
theorem jma_lv {h g : JH} (f : ∀ i k : Int, (i = 176 ∧ (k = 6 ∨ k = 14)) ∨ (177 ≤ i ∧ i ≤ 180) ∨ (182 ≤ i ∧ i ≤ 189) ∨ i = 191 → g i k = h i k) (lv : ∀ L k : Int, jlv L k → g L k = h L k) {i k : Int} (a : jma i k) : g i k = h i k := by
  unfold jma at a
  by_cases z : (i = 176 ∧ (k = 6 ∨ k = 14)) ∨ (177 ≤ i ∧ i ≤ 180) ∨ (182 ≤ i ∧ i ≤ 189) ∨ i = 191
  · exact f i k z
  · refine lv i k ?_
    exact jlv_mk (by omega)
