/-! ===== MATCHING in calls; trees that are felled ===== -/
def jMx (d : Nat → Nat) (W w : Int) : Int := if w = 0 then jcn d else if w = 1 then W else if d (w - 2).toNat = 40 then -9 else (d (w - 2).toNat : Int)
/-- the part to which a tree goes, -1: none -/
def jwh (d : Nat → Nat) (t : Int) : Nat → Int
  | 0 => -1
  | n + 1 => if (d n : Int) = t then (n : Int) else jwh d t n
theorem jwh_s {d : Nat → Nat} {t x : Int} (h0 : 0 ≤ x) : jwh d t (x + 1).toNat = if (d x.toNat : Int) = t then x else jwh d t x.toNat := by
  obtain ⟨n, rfl⟩ := Int.eq_ofNat_of_zero_le h0
  rfl
theorem jwh_up {d : Nat → Nat} {t : Int} (ht : t < 40) (n : Nat) : ∀ m : Nat, n ≤ m → (∀ i : Nat, n ≤ i → i < m → d i = 40) → jwh d t m = jwh d t n
  | 0, h, _ => by rw [show n = 0 by omega]
  | m + 1, h, q => by
      by_cases z : n = m + 1
      · rw [z]
      · show (if (d m : Int) = t then (m : Int) else jwh d t m) = _
        rw [if_neg (by have := q m (by omega) (by omega); omega)]
        exact jwh_up ht n m (by omega) (fun i a b => q i a (by omega))
theorem jwh_c {d d' : Nat → Nat} {t : Int} : ∀ n : Nat, (∀ i : Nat, i < n → d' i = d i) → jwh d' t n = jwh d t n
  | 0, _ => rfl
  | n + 1, q => by
      show (if (d' n : Int) = t then (n : Int) else jwh d' t n) = if (d n : Int) = t then (n : Int) else jwh d t n
      rw [q n (by omega), jwh_c n (fun i a => q i (by omega))]
/-- the trees behind the first n parts -/
def jFl (A : Int) (d : Nat → Nat) (a : Int) (n : Nat) (h g : JH) : Prop := ∀ t : Int, 0 ≤ t → t < 40 → g A t = (if jwh d t n < 0 then h A t else a) ∧ g (A + 1) t = (if jwh d t n < 0 then h (A + 1) t else jwh d t n)
theorem jwh_b {d : Nat → Nat} {t : Int} : ∀ n : Nat, -1 ≤ jwh d t n ∧ jwh d t n < n
  | 0 => ⟨Int.le_refl _, by show (-1 : Int) < ((0 : Nat) : Int); decide⟩
  | n + 1 => by
      have ih := jwh_b (d := d) (t := t) n
      show -1 ≤ (if (d n : Int) = t then (n : Int) else jwh d t n) ∧ (if (d n : Int) = t then (n : Int) else jwh d t n) < ((n + 1 : Nat) : Int)
      by_cases z : (d n : Int) = t
      · rw [if_pos z]; omega
      · rw [if_neg z]; omega
theorem jFl_0 {A a : Int} {d : Nat → Nat} {h g : JH} (e : ∀ t : Int, g A t = h A t ∧ g (A + 1) t = h (A + 1) t) : jFl A d a (0 : Int).toNat h g := fun t _ _ => by
  have z : jwh d t (0 : Int).toNat = -1 := rfl
  rw [z, if_pos (by decide), if_pos (by decide)]
  exact e t
theorem jFl_n {A a x : Int} {d : Nat → Nat} {h g : JH} (H : jFl A d a x.toNat h g) (h0 : 0 ≤ x) (n : d x.toNat = 40) : jFl A d a (x + 1).toNat h g := fun t a b => by
  rw [jwh_s h0, if_neg (show ¬ (d x.toNat : Int) = t by omega)]
  exact H t a b
theorem jFl_y {A a x v : Int} {d : Nat → Nat} {h g g' : JH} (H : jFl A d a x.toNat h g) (h0 : 0 ≤ x) (n : (d x.toNat : Int) = v) (e0 : g' A v = a) (e1 : g' (A + 1) v = x) (e : ∀ t : Int, ¬ t = v → g' A t = g A t ∧ g' (A + 1) t = g (A + 1) t) : jFl A d a (x + 1).toNat h g' := fun t a b => by
  rw [jwh_s h0]
  by_cases z : t = v
  · rw [if_pos (show (d x.toNat : Int) = t by omega), if_neg (show ¬ x < 0 by omega), if_neg (show ¬ x < 0 by omega), z]
    exact ⟨e0, e1⟩
  · rw [if_neg (show ¬ (d x.toNat : Int) = t by omega), (e t z).1, (e t z).2]
    exact H t a b
theorem jFl_e {A a x : Int} {d : Nat → Nat} {h g : JH} (H : jFl A d a x.toNat h g) (h0 : 0 ≤ x) (h6 : x ≤ 6) (z : ∀ i : Nat, x.toNat ≤ i → i < 6 → d i = 40) : jFl A d a 6 h g := fun t p q => by
  rw [jwh_up (by omega) x.toNat 6 (by omega) z]
  exact H t p q
theorem jFl_c {A a : Int} {d : Nat → Nat} {n : Nat} {h h' g : JH} (e : ∀ t : Int, h' A t = h A t ∧ h' (A + 1) t = h (A + 1) t) (H : jFl A d a n h' g) : jFl A d a n h g := fun t p q => by
  rw [← (e t).1, ← (e t).2]; exact H t p q
/-- the tree of a part of a hull -/
def jff (H P : Int → Int) (a b : Int) : Nat → Int
  | 0 => -9
  | n + 1 => if jff H P a b n = -9 then (if H n = a ∧ P n = b then (n : Int) else -9) else jff H P a b n
theorem jff_s {H P : Int → Int} {a b x : Int} (h0 : 0 ≤ x) : jff H P a b (x + 1).toNat = if jff H P a b x.toNat = -9 then (if H x = a ∧ P x = b then x else -9) else jff H P a b x.toNat := by
  obtain ⟨n, rfl⟩ := Int.eq_ofNat_of_zero_le h0
  rfl
theorem jff_up {H P : Int → Int} {a b : Int} (n : Nat) (k : ¬ jff H P a b n = -9) : ∀ m : Nat, n ≤ m → jff H P a b m = jff H P a b n
  | 0, h => by rw [show n = 0 by omega]
  | m + 1, h => by
      by_cases z : n = m + 1
      · rw [z]
      · have ih := jff_up n k m (by omega)
        show (if jff H P a b m = -9 then (if H m = a ∧ P m = b then (m : Int) else -9) else jff H P a b m) = _
        rw [ih, if_neg k]
theorem jff_y {H P : Int → Int} {a b x T : Int} (h0 : 0 ≤ x) (h1 : x < T) (i : jff H P a b x.toNat = -9) (y : H x = a ∧ P x = b) : x = jff H P a b T.toNat := by
  have e : jff H P a b (x + 1).toNat = x := by rw [jff_s h0, if_pos i, if_pos y]
  rw [jff_up (x + 1).toNat (by omega) T.toNat (by omega), e]
theorem jff_n {H P : Int → Int} {a b x : Int} (h0 : 0 ≤ x) (i : jff H P a b x.toNat = -9) (y : ¬ (H x = a ∧ P x = b)) : jff H P a b (x + 1).toNat = -9 := by rw [jff_s h0, if_pos i, if_neg y]
theorem jff_c {H P H' P' : Int → Int} {a b : Int} : ∀ n : Nat, (∀ t : Int, 0 ≤ t → t < n → ((H' t = a ∧ P' t = b) ↔ (H t = a ∧ P t = b))) → jff H' P' a b n = jff H P a b n
  | 0, _ => rfl
  | n + 1, q => by
      have ih := jff_c (H := H) (P := P) (H' := H') (P' := P') (a := a) (b := b) n (fun t x y => q t x (by omega))
      have w := q n (by omega) (by omega)
      show (if jff H' P' a b n = -9 then (if H' n = a ∧ P' n = b then (n : Int) else -9) else jff H' P' a b n) = if jff H P a b n = -9 then (if H n = a ∧ P n = b then (n : Int) else -9) else jff H P a b n
      rw [ih]
      by_cases z : H n = a ∧ P n = b
      · rw [if_pos z, if_pos (w.2 z)]
      · rw [if_neg z, if_neg (fun y => z (w.1 y))]
/-! what the searches read -/
theorem jcA_c {h g : JH} {s : Int} (e : ∀ i k : Int, 85 ≤ i → i ≤ 96 → g i k = h i k) : jcA g s = jcA h s := by
  funext t i
  unfold jcA jcft
  rw [e 85 _ (by decide) (by decide), e 86 _ (by decide) (by decide), e 87 _ (by decide) (by decide), e 88 _ (by decide) (by decide), e 92 _ (by decide) (by decide), e 93 _ (by decide) (by decide), e 94 _ (by decide) (by decide), e 95 _ (by decide) (by decide), e 96 _ (by decide) (by decide)]
theorem jcO_c {h g : JH} {s : Int} (e : ∀ i k : Int, 85 ≤ i → i ≤ 96 → g i k = h i k) : jcO g s = jcO h s := by
  funext t i
  unfold jcO
  rw [e 87 _ (by decide) (by decide), e 96 _ (by decide) (by decide)]
theorem jM5_c {h g : JH} (e : ∀ k : Int, g 87 k = h 87 k) (e0 : g 84 0 = h 84 0) (q : jM5 h) : jM5 g := fun t a b => by rw [e]; exact q t a (by omega)
/-- nothing written into what was felled for a hull -/
def jT0 (F : JH → JH) : Prop := ∀ (h : JH) (i : Int), 36 ≤ i → i ≤ 83 → F h i 10 = h i 10
theorem jT0_it {f : Int → JH → JH} {n0 : Nat} (q : ∀ i : Int, 0 ≤ i → i < n0 → jT0 (f i)) : ∀ n : Nat, n ≤ n0 → jT0 (jit f n)
  | 0, _ => fun _ _ _ _ => rfl
  | n + 1, hn => fun h i a b => (q n (by omega) (by omega) (jit f n h) i a b).trans (jT0_it q n (by omega) h i a b)
theorem jT0_ent {u b : Int} : jT0 (jEnt u b) := fun h i a c => by
  unfold jEnt
  rw [jT0_it (f := jE5 u b) (n0 := 6) (fun n p q h i a c => by
    unfold jE5 jE6
    rw [jup_ne (by omega), jup_ne (by omega)]) 6 (Nat.le_refl _) _ i a c]
  unfold jE4 jE3 jE2 jE1
  rw [jup_ne (by omega), jup_ne (by omega), jup_ne (by omega), jup_ne (by omega), jup_ne (by omega)]
theorem jT0_brt {H k b : Int} : jT0 (jBrt 29 31 H k b) := fun h i a c => by
  unfold jBrt
  rw [jup_ne (by omega), jT0_ent _ i a c, jup_ne (by omega)]
theorem jT0_mv {H d b : Int} : jT0 (jMv 29 31 H d b) := fun h i a c => by
  unfold jMv
  by_cases z : h 31 b < 0 ∨ h (H + 3 * h 31 b) 7 = 0 ∨ ¬ h (H + 3 * h 31 b) 6 = 0
  · rw [if_pos z]
  · rw [if_neg z]
    by_cases y : b = 5
    · rw [if_pos y]
      unfold jLv
      rw [jup_ne (by omega), jup_ne (by omega), jup_ne (by omega), jup_ne (by omega), jup_ne (by omega), jup_ne (by omega)]
    · rw [if_neg y]
      by_cases x : h 31 (b + 1) = -1
      · rw [if_pos x, jT0_brt _ i a c, jup_ne (by omega)]
      · rw [if_neg x]
theorem jT0_lin {H L j : Int} : jT0 (jLin 29 31 H L j) := fun h i a c => by
  unfold jLin
  by_cases z : ¬ h 31 0 = -1
  · rw [if_pos z]
  · rw [if_neg z]
    by_cases y : h (H + 3 * h L j) 3 = 0
    · rw [if_pos y, jT0_brt _ i a c]
    · rw [if_neg y]
theorem jT0_tg {H L j : Int} : jT0 (jTg 29 30 H L j) := fun h i a c => by
  unfold jTg
  by_cases z : ¬ h (H + 3 * h L j) 3 = 1 ∨ ¬ h (H + 3 * h L j) 7 = 0
  · rw [if_pos z]
  · rw [if_neg z]
    by_cases y : jAl 30 (H + 3 * h L j + 1) h
    · rw [if_pos y, jup_ne (by omega), jup_ne (by omega), jT0_it (f := jTs 30 (H + 3 * h L j + 1)) (n0 := 6) (fun n p q h i a c => by unfold jTs; exact jup_ne (by omega)) 6 (Nat.le_refl _) _ i a c]
    · rw [if_neg y, jup_ne (by omega)]
theorem jT0_dw {H L cr j : Int} : jT0 (jDw 29 35 H L cr j) := fun h i a c => by
  unfold jDw
  by_cases z : h (H + 3 * h L j) 3 = 1 ∧ ¬ h (H + 3 * h L j) 7 = 0 ∧ 0 < h (H + 3 * h L j) 6
  · rw [if_pos z]
    unfold jD3 jD2 jD1
    rw [jup_ne (by omega), jup_ne (by omega), jup_ne (by omega)]
  · rw [if_neg z]
theorem jT0_n {f : Int → JH → JH} (q : ∀ i : Int, jT0 (f i)) (n : Nat) : jT0 (jit f n) := jT0_it (n0 := n) (fun i _ _ => q i) n (Nat.le_refl _)
theorem jT0_pd {A0 A1 A2 A3 d r : Int} : jT0 (jPD 29 30 31 36 34 35 A0 A1 A2 A3 d r) := fun h i a c => by
  have e1 : ∀ h : JH, jP1 29 31 36 d h i 10 = h i 10 := fun h => by
    unfold jP1
    rw [jT0_it (f := jMvr 29 31 36 d) (n0 := 6) (fun n _ _ => jT0_mv) 6 (Nat.le_refl _) _ i a c, jup_ne (by omega)]
  have e2 : ∀ h : JH, jP2 29 31 36 34 h i 10 = h i 10 := fun h => by
    unfold jP2
    rw [jT0_n (fun _ => jT0_lin) _ _ i a c]
  have e3 : ∀ h : JH, jP3 29 30 36 34 h i 10 = h i 10 := fun h => by
    unfold jP3
    rw [jT0_n (fun _ => jT0_tg) _ _ i a c]
  have e4 : ∀ (h : JH) (c0 : Int), jP4 29 35 36 34 A0 (r * 4) c0 h i 10 = h i 10 := fun h c0 => by
    unfold jP4
    rw [jT0_n (f := jDi 29 35) (fun j h i a c => by unfold jDi; exact jup_ne (by omega)) 4 _ i a c, jT0_n (fun _ => jT0_dw) _ _ i a c]
    exact if_neg (by omega)
  unfold jPD jDk
  rw [jup_ne (by omega), jup_ne (by omega)]
  unfold jQ5 jP5
  rw [jup_ne (by omega)]
  unfold jQ4
  rw [e4]
  unfold jQ3
  rw [e3, e2, e1]
/-! girths, by the year -/
def jG9 (h : JH) : Prop := ∀ t : Int, 0 ≤ t → t < 40 → 0 ≤ h 207 t ∧ h 207 t ≤ 500 + 9 * (h 176 0 / 360)
def jG8 (x : Int) (g : JH) : Prop := ∀ t : Int, 0 ≤ t → t < 40 → 0 ≤ g 207 t ∧ (t < x → g 207 t ≤ 500 + 9 * (g 176 0 / 360)) ∧ (x ≤ t → g 207 t ≤ 500 + 9 * ((g 176 0 - 1) / 360))
theorem jG8_0 {g g' : JH} (e : ∀ t : Int, g' 207 t = g 207 t) (e0 : g' 176 0 = g 176 0 + 1) (q : jG9 g) : jG8 0 g' := fun t a b => by
  rw [e, e0]
  have := q t a b
  exact ⟨this.1, fun y => absurd y (by omega), fun _ => by rw [show g 176 0 + 1 - 1 = g 176 0 by omega]; exact this.2⟩
theorem jG8_s {g g' : JH} {x v : Int} (h0 : 0 ≤ x) (e : g' = jup g 207 x v) (hv : g 207 x ≤ v ∧ v ≤ g 207 x + 9) (hd : (g 176 0).tmod 360 = 0) (hp : 1 ≤ g 176 0) (q : jG8 x g) : jG8 (x + 1) g' := fun t a b => by
  have w := q t a b
  have y := (jmd (x := g 176 0) (y := 360) (by omega) (by omega)).1
  rw [hd] at y
  by_cases z : t = x
  · rw [z, jup_s e, jup_o e (by omega)]
    rw [z] at w
    have := w.2.2 (by omega)
    exact ⟨by omega, fun _ => by omega, fun _ => by omega⟩
  · rw [jup_o e (by omega), jup_o e (by omega)]
    exact ⟨w.1, fun _ => w.2.1 (by omega), fun _ => w.2.2 (by omega)⟩
theorem jG8_e {g : JH} {x : Int} (hp : 1 ≤ g 176 0) (q : jG8 x g) : jG9 g := fun t a b => by
  have w := q t a b
  refine ⟨w.1, ?_⟩
  by_cases z : t < x
  · exact w.2.1 z
  · have := w.2.2 (by omega); omega
theorem jG9_7 {h : JH} (q : jG9 h) (hd : h 176 0 ≤ 2000) : jM7 h := fun t a b => by
  have := (q t a b).2
  omega
theorem jG9_fr {h g : JH} (e : ∀ t : Int, g 207 t = h 207 t) (e0 : g 176 0 = h 176 0) (q : jG9 h) : jG9 g := fun t a b => by rw [e, e0]; exact q t a b
