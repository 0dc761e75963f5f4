/-! ===== THE LINE AND THE REFERENCE'S FIRST ONES ===== -/
theorem jfb_spec (h : JH) (a w : Int) : ∀ n : Nat, (jfb h a w n = -1 ∧ ∀ k : Int, 0 ≤ k → k < n → ¬ (h 192 k = w ∧ (a < 0 ∨ jKy h a < jKy h k))) ∨
    (0 ≤ jfb h a w n ∧ jfb h a w n < n ∧ h 192 (jfb h a w n) = w ∧ (a < 0 ∨ jKy h a < jKy h (jfb h a w n)) ∧ ∀ k : Int, 0 ≤ k → k < n → h 192 k = w → (a < 0 ∨ jKy h a < jKy h k) → jKy h (jfb h a w n) ≤ jKy h k)
  | 0 => Or.inl ⟨rfl, fun k a b => absurd b (by omega)⟩
  | n + 1 => by
      have ih := jfb_spec h a w n
      have st : jfb h a w (n + 1) = if h 192 n = w ∧ (a < 0 ∨ jKy h a < jKy h n) ∧ (jfb h a w n < 0 ∨ jKy h n < jKy h (jfb h a w n)) then (n : Int) else jfb h a w n := rfl
      rw [st]
      generalize jfb h a w n = x at ih
      by_cases c : h 192 n = w ∧ (a < 0 ∨ jKy h a < jKy h n) ∧ (x < 0 ∨ jKy h n < jKy h x)
      · rw [if_pos c]
        refine Or.inr ⟨by omega, by omega, c.1, c.2.1, fun k h0 h1 h2 h3 => ?_⟩
        by_cases z : k = (n : Int)
        · rw [z]; exact Int.le_refl _
        · rcases ih with ⟨i1, i2⟩ | ⟨i1, i2, i3, i4, i5⟩
          · exact absurd ⟨h2, h3⟩ (i2 k h0 (by omega))
          · have := i5 k h0 (by omega) h2 h3
            rcases c.2.2 with y | y <;> omega
      · rw [if_neg c]
        rcases ih with ⟨i1, i2⟩ | ⟨i1, i2, i3, i4, i5⟩
        · refine Or.inl ⟨i1, fun k h0 h1 h2 => ?_⟩
          by_cases z : k = (n : Int)
          · rw [z] at h2; exact c ⟨h2.1, h2.2, Or.inl (by omega)⟩
          · exact i2 k h0 (by omega) h2
        · refine Or.inr ⟨i1, by omega, i3, i4, fun k h0 h1 h2 h3 => ?_⟩
          by_cases z : k = (n : Int)
          · rw [z] at h2 h3 ⊢
            by_cases y : jKy h n < jKy h x
            · exact absurd ⟨h2, h3, Or.inr y⟩ c
            · omega
          · exact i5 k h0 (by omega) h2 h3
theorem jfb_c {h h' : JH} {a w : Int} (e1 : ∀ k : Int, h' 192 k = h 192 k) (e2 : ∀ k : Int, h' 190 k = h 190 k) : ∀ n : Nat, jfb h' a w n = jfb h a w n
  | 0 => rfl
  | n + 1 => by
      have ih := jfb_c (a := a) (w := w) e1 e2 n
      show (if h' 192 n = w ∧ (a < 0 ∨ jKy h' a < jKy h' n) ∧ (jfb h' a w n < 0 ∨ jKy h' n < jKy h' (jfb h' a w n)) then (n : Int) else jfb h' a w n) = if h 192 n = w ∧ (a < 0 ∨ jKy h a < jKy h n) ∧ (jfb h a w n < 0 ∨ jKy h n < jKy h (jfb h a w n)) then (n : Int) else jfb h a w n
      have e3 : ∀ k : Int, jKy h' k = jKy h k := fun k => by unfold jKy; rw [e2]
      rw [ih, e1, e3, e3, e3]
/-- the line: hulls of D, by the reference's order, all that are under way -/
def jLn (Y : Int) (D : Int → Prop) (hc hm : JH) : Prop :=
  (∀ i : Int, 0 ≤ i → i < hc Y 6 → D (hc (Y + 5) i) ∧ hc (Y + 5) i < hm 176 14) ∧
  (∀ i j : Int, 0 ≤ i → i < j → j < hc Y 6 → jKy hm (hc (Y + 5) i) < jKy hm (hc (Y + 5) j)) ∧
  (∀ k : Int, 0 ≤ k → k < hm 176 14 → (hm 192 k = 0 ∨ hm 192 k = 1) → ∃ i : Int, 0 ≤ i ∧ i < hc Y 6 ∧ hc (Y + 5) i = k)
/-- what comes behind a hull of the line -/
def jFI (n : Int) (ln : Int → Int) (IN : Int → Prop) (i x : Int) : Prop := (x < 0 ∧ ∀ j : Int, i ≤ j → j < n → ¬ IN (ln j)) ∨ (∃ j : Int, i ≤ j ∧ j < n ∧ x = ln j ∧ IN (ln j) ∧ ∀ j' : Int, i ≤ j' → j' < j → ¬ IN (ln j'))
theorem jFI_nx {Y w : Int} {D : Int → Prop} {hc hm : JH} (hD : ∀ k, D k → 0 ≤ k ∧ k < 16) (hw : w = 0 ∨ w = 1) (L : jLn Y D hc hm) {a i : Int} (ha : (a < 0 ∧ i = 0) ∨ (0 ≤ i - 1 ∧ i - 1 < hc Y 6 ∧ a = hc (Y + 5) (i - 1))) : jFI (hc Y 6) (hc (Y + 5)) (fun k => hm 192 k = w) i (jfb hm a w (hm 176 14).toNat) := by
  obtain ⟨l1, l2, l3⟩ := L
  have aft : ∀ j : Int, 0 ≤ j → j < hc Y 6 → ((a < 0 ∨ jKy hm a < jKy hm (hc (Y + 5) j)) ↔ i ≤ j) := fun j j0 j1 => by
    rcases ha with ⟨a1, a2⟩ | ⟨a1, a2, a3⟩
    · exact ⟨fun _ => by omega, fun _ => Or.inl a1⟩
    · have a0 := hD _ (l1 (i - 1) a1 a2).1
      rw [← a3] at a0
      constructor
      · intro q
        rcases q with q | q
        · omega
        · rw [a3] at q
          rcases Int.lt_trichotomy j (i - 1) with z | z | z
          · have := l2 j (i - 1) j0 z a2; omega
          · rw [z] at q; omega
          · omega
      · intro q
        refine Or.inr ?_
        rw [a3]
        exact l2 (i - 1) j a1 (by omega) j1
  rcases jfb_spec hm a w (hm 176 14).toNat with ⟨s1, s2⟩ | ⟨s1, s2, s3, s4, s5⟩
  · refine Or.inl ⟨by omega, fun j j0 j1 q => ?_⟩
    have i0 : 0 ≤ i := by omega
    have d := hD _ (l1 j (by omega) j1).1
    exact s2 _ d.1 (by have := (l1 j (by omega) j1).2; omega) ⟨q, (aft j (by omega) j1).2 j0⟩
  · have i0 : 0 ≤ i := by omega
    generalize jfb hm a w (hm 176 14).toNat = x at s1 s2 s3 s4 s5
    obtain ⟨j, j0, j1, j2⟩ := l3 x s1 (by omega) (by rw [s3]; exact hw)
    refine Or.inr ⟨j, (aft j j0 j1).1 (by rw [j2]; exact s4), j1, j2.symm, by show hm 192 (hc (Y + 5) j) = w; rw [j2]; exact s3, fun j' k0 k1 q => ?_⟩
    have d := hD _ (l1 j' (by omega) (by omega)).1
    have m := s5 _ d.1 (by have := (l1 j' (by omega) (by omega)).2; omega) q ((aft j' (by omega) (by omega)).2 k0)
    have m2 := l2 j' j (by omega) k1 j1
    rw [j2] at m2
    omega
/-- a chain of first ones does what a way along the line does -/
theorem jch_sim {σ : Type} {op : Int → σ → σ} {nx : Int → σ → Int} {n : Int} {ln : Int → Int} {IN : Int → Prop} (I : Int → σ → Prop) (hnn : ∀ i : Int, 0 ≤ i → i < n → 0 ≤ ln i)
    (hnx : ∀ (i : Int) (s : σ), 0 ≤ i → i < n → I (i + 1) s → jFI n ln IN (i + 1) (nx (ln i) s))
    (hstep : ∀ (i : Int) (s : σ), 0 ≤ i → i < n → IN (ln i) → I i s → I (i + 1) (op (ln i) s)) (hskip : ∀ (i : Int) (s : σ), 0 ≤ i → i < n → ¬ IN (ln i) → I i s → I (i + 1) s) :
    ∀ (c : Nat) (i : Int) (m : Nat) (s : σ) (x : Int), 0 ≤ i → i + c = n → c ≤ m → I i s → jFI n ln IN i x → I n (jch op nx m x s)
  | 0, i, m, s, x, h0, h1, hm, hI, hF => by
      have e : i = n := by omega
      rcases hF with ⟨f1, f2⟩ | ⟨j, f1, f2, _⟩
      · rw [jch_e f1, ← e]; exact hI
      · omega
  | c + 1, i, m, s, x, h0, h1, hm, hI, hF => by
      by_cases z : IN (ln i)
      · have ex : x = ln i := by
          rcases hF with ⟨f1, f2⟩ | ⟨j, f1, f2, f3, f4, f5⟩
          · exact absurd z (f2 i (Int.le_refl _) (by omega))
          · by_cases y : j = i
            · rw [f3, y]
            · exact absurd z (f5 i (Int.le_refl _) (by omega))
        subst ex
        have hi := hstep i s h0 (by omega) z hI
        obtain ⟨m', rfl⟩ : ∃ m' : Nat, m = m' + 1 := ⟨m - 1, by omega⟩
        have hx := hnn i h0 (by omega)
        have st : jch op nx (m' + 1) (ln i) s = jch op nx m' (nx (ln i) (op (ln i) s)) (op (ln i) s) := if_neg (by omega)
        rw [st]
        exact jch_sim I hnn hnx hstep hskip c (i + 1) m' _ _ (by omega) (by omega) (by omega) hi (hnx i _ h0 (by omega) hi)
      · have hi := hskip i s h0 (by omega) z hI
        refine jch_sim I hnn hnx hstep hskip c (i + 1) m s x (by omega) (by omega) (by omega) hi ?_
        rcases hF with ⟨f1, f2⟩ | ⟨j, f1, f2, f3, f4, f5⟩
        · exact Or.inl ⟨f1, fun j a b => f2 j (by omega) b⟩
        · refine Or.inr ⟨j, ?_, f2, f3, f4, fun j' a b => f5 j' (by omega) b⟩
          by_cases y : j = i
          · rw [y] at f4; exact absurd f4 z
          · omega
/-- the line stays in order while the moves go on -/
theorem jLn_fr {Y : Int} {D : Int → Prop} {hc hm hc' hm' : JH} (e6 : hc' Y 6 = hc Y 6) (e5 : ∀ i : Int, hc' (Y + 5) i = hc (Y + 5) i) (m0 : hm' 176 14 = hm 176 14) (m1 : ∀ k : Int, hm' 190 k = hm 190 k) (m2 : ∀ k : Int, 0 ≤ k → k < hm 176 14 → (hm' 192 k = 0 ∨ hm' 192 k = 1) → (hm 192 k = 0 ∨ hm 192 k = 1)) (L : jLn Y D hc hm) : jLn Y D hc' hm' := by
  obtain ⟨l1, l2, l3⟩ := L
  have ky : ∀ k : Int, jKy hm' k = jKy hm k := fun k => by unfold jKy; rw [m1]
  refine ⟨fun i a b => ?_, fun i j a b c => ?_, fun k a b c => ?_⟩
  · rw [e5, m0]; exact l1 i a (by omega)
  · rw [e5, e5, ky, ky]; exact l2 i j a b (by omega)
  · obtain ⟨i, q1, q2, q3⟩ := l3 k a (by omega) (m2 k a (by omega) c)
    exact ⟨i, q1, by omega, by rw [e5]; exact q3⟩
/-- the class lets the first one in -/
theorem jLin_r {Y : Int} {h : JH} (hY : Y = 29 ∨ Y = 119) (hl : ∀ i : Int, 0 ≤ i → i < h Y 6 → 0 ≤ h (Y + 5) i ∧ h (Y + 5) i < 16 ∧ 0 ≤ h (Y + 7 + 3 * h (Y + 5) i) 0 ∧ h (Y + 7 + 3 * h (Y + 5) i) 0 ≤ 2) : ∀ n : Nat, (n : Int) ≤ h Y 6 →
    (jit (jLin Y (Y + 2) (Y + 7) (Y + 5)) n h = h ∧ (h (Y + 2) 0 = -1 → ∀ i : Int, 0 ≤ i → i < n → ¬ h (Y + 7 + 3 * h (Y + 5) i) 3 = 0)) ∨
    (∃ i0 : Int, 0 ≤ i0 ∧ i0 < n ∧ h (Y + 2) 0 = -1 ∧ h (Y + 7 + 3 * h (Y + 5) i0) 3 = 0 ∧ (∀ i : Int, 0 ≤ i → i < i0 → ¬ h (Y + 7 + 3 * h (Y + 5) i) 3 = 0) ∧ jit (jLin Y (Y + 2) (Y + 7) (Y + 5)) n h = jBrt Y (Y + 2) (Y + 7) (h (Y + 5) i0) 0 h)
  | 0, _ => Or.inl ⟨rfl, fun _ i a b => absurd b (by omega)⟩
  | n + 1, hn => by
      have st : jit (jLin Y (Y + 2) (Y + 7) (Y + 5)) (n + 1) h = jLin Y (Y + 2) (Y + 7) (Y + 5) n (jit (jLin Y (Y + 2) (Y + 7) (Y + 5)) n h) := rfl
      rcases jLin_r hY hl n (by omega) with ⟨i1, i2⟩ | ⟨i0, i1, i2, i3, i4, i5, i6⟩
      · rw [st, i1]
        unfold jLin
        by_cases z : h (Y + 2) 0 = -1
        · rw [if_neg (fun q => q z)]
          by_cases y : h (Y + 7 + 3 * h (Y + 5) n) 3 = 0
          · rw [if_pos y]
            exact Or.inr ⟨n, by omega, by omega, z, y, fun i a b => i2 z i a b, rfl⟩
          · rw [if_neg y]
            refine Or.inl ⟨rfl, fun _ i a b => ?_⟩
            by_cases x : i = (n : Int)
            · rw [x]; exact y
            · exact i2 z i a (by omega)
        · rw [if_pos z]; exact Or.inl ⟨rfl, fun q => absurd q z⟩
      · have b0 := hl i0 i1 (by omega)
        have c := (jBrt_r (b := 0) hY ⟨b0.1, b0.2.1⟩ ⟨b0.2.2.1, b0.2.2.2⟩).1.1
        rw [st, i6]
        refine Or.inr ⟨i0, i1, by omega, i3, i4, i5, ?_⟩
        exact if_pos (by rw [c]; omega)
set_option maxHeartbeats 1000000 in
theorem jR_li {Y : Int} {D : Int → Prop} {hc hm : JH} (hY : Y = 29 ∨ Y = 119) (hD : ∀ k, D k → 0 ≤ k ∧ k < 16) (R : jR2 Y D hc hm) (T : jTK hc hm) (L : jLn Y D hc hm) (h6 : 0 ≤ hc Y 6) :
    jR2 Y D (jP2 Y (Y + 2) (Y + 7) (Y + 5) hc) (jmLi hm) ∧ jfr (jwC Y) hc (jP2 Y (Y + 2) (Y + 7) (Y + 5) hc) ∧ jfr jwM hm (jmLi hm) ∧ jmo hm (jmLi hm) := by
  have hl : ∀ i : Int, 0 ≤ i → i < hc Y 6 → 0 ≤ hc (Y + 5) i ∧ hc (Y + 5) i < 16 ∧ 0 ≤ hc (Y + 7 + 3 * hc (Y + 5) i) 0 ∧ hc (Y + 7 + 3 * hc (Y + 5) i) 0 ≤ 2 := fun i a b => by
    have l := (L.1 i a b).1
    have r := (R.2.2 _ l).1
    have d := hD _ l
    exact ⟨d.1, d.2, by omega, by omega⟩
  have F := jFI_nx (w := 0) hD (Or.inl rfl) L (a := -1) (i := 0) (Or.inl ⟨by decide, rfl⟩)
  have st : ∀ i : Int, 0 ≤ i → i < hc Y 6 → hc (Y + 7 + 3 * hc (Y + 5) i) 3 = hm 192 (hc (Y + 5) i) := fun i a b => (R.2.2 _ (L.1 i a b).1).1.2.1
  have B := R.2.1 0 (by decide) (by decide)
  unfold jP2 jmLi
  rcases jLin_r hY hl (hc Y 6).toNat (by omega) with ⟨c1, c2⟩ | ⟨i0, c0, c1, c2, c3, c4, c5⟩
  · rw [c1]
    by_cases z : hm 202 0 < 0 ∧ 0 ≤ jfb hm (-1) 0 (hm 176 14).toNat
    · exfalso
      rcases F with ⟨f1, f2⟩ | ⟨j, f1, f2, f3, f4, f5⟩
      · omega
      · have b0 : hc (Y + 2) 0 = -1 := by
          unfold jBR at B
          rcases B with B | B | B <;> omega
        exact c2 b0 j f1 (by omega) (by rw [st j f1 f2]; exact f4)
    · rw [if_neg z]; exact ⟨R, jfr_rf _ _, jfr_rf _ _, fun _ q => q⟩
  · have s0 := st i0 c0 (by omega)
    have n0 : hm 202 0 = -1 := by
      unfold jBR at B
      rcases B with B | B | B <;> omega
    have x0 : jfb hm (-1) 0 (hm 176 14).toNat = hc (Y + 5) i0 := by
      rcases F with ⟨f1, f2⟩ | ⟨j, f1, f2, f3, f4, f5⟩
      · exact absurd (show hm 192 (hc (Y + 5) i0) = 0 by omega) (f2 i0 c0 (by omega))
      · rw [f3]
        rcases Int.lt_trichotomy j i0 with z | z | z
        · exact absurd ((st j f1 f2).trans f4) (c4 j f1 z)
        · rw [z]
        · exact absurd (show hm 192 (hc (Y + 5) i0) = 0 by omega) (f5 i0 c0 z)
    have l0 := (L.1 i0 c0 (by omega)).1
    have b0 := hl i0 c0 (by omega)
    rw [c5, x0, if_pos ⟨by omega, by omega⟩]
    refine ⟨jR_ent hY hD R T l0 (by decide) (fun b' a c d => ?_), jBrt_f hY ⟨b0.1, b0.2.1⟩ ⟨b0.2.2.1, b0.2.2.2⟩, jmEnt_f, fun k q => ?_⟩
    · have r := R.2.1 b' a c
      unfold jBR at r
      intro e
      rw [e] at r
      rcases r with r | r | r <;> omega
    · by_cases z : k = hc (Y + 5) i0
      · exact Or.inl (by rw [z]; omega)
      · rw [jmEnt_r.2.2.2 192 k (by omega) (by omega) (by omega)] at q; exact q
/-! ===== RAFTS STAY ===== -/
def jRft (hm hm' : JH) : Prop := ∀ b : Int, hm' 202 b = 100 ↔ hm 202 b = 100
theorem jRft_mv {b : Int} {h : JH} : jRft h (jmMv b h) := fun b' => by
  unfold jmMv
  by_cases c : h 202 b < 0 ∨ h 202 b = 100 ∨ h 196 (h 202 b) = 0 ∨ 0 < h 195 (h 202 b)
  · rw [if_pos c]
  · rw [if_neg c]
    have e : jup h 202 b (-1) 202 b' = 100 ↔ h 202 b' = 100 := by
      by_cases z : b' = b
      · rw [z, jup_eq]; omega
      · rw [jup_ne (by omega)]
    by_cases c5 : b = 5
    · rw [if_pos c5]
      unfold jmLv
      rw [jup_ne (by omega), jup_ne (by omega), jup_ne (by omega)]; exact e
    · rw [if_neg c5]
      by_cases cn : h 202 (b + 1) < 0
      · rw [if_pos cn]
        by_cases z : b' = b + 1
        · rw [z, (jmEnt_r (k := h 202 b) (b := b + 1)).1.1]; omega
        · rw [jmEnt_r.2.2.2 202 b' (by omega) (by omega) (by omega)]; exact e
      · rw [if_neg cn]
theorem jRft_ma {h : JH} : ∀ n : Nat, jRft h (jit jmMr n h)
  | 0 => fun _ => Iff.rfl
  | n + 1 => fun b => (jRft_mv b).trans (jRft_ma n b)
theorem jRft_li {h : JH} (hn : h 176 14 ≤ 16) : jRft h (jmLi h) := fun b => by
  unfold jmLi
  by_cases c : h 202 0 < 0 ∧ 0 ≤ jfb h (-1) 0 (h 176 14).toNat
  · rw [if_pos c]
    have s := jfb_spec h (-1) 0 (h 176 14).toNat
    generalize jfb h (-1) 0 (h 176 14).toNat = x at s c
    by_cases z : b = 0
    · rw [z, (jmEnt_r (k := x) (b := 0)).1.1]; omega
    · rw [jmEnt_r.2.2.2 202 b (by omega) (by omega) (by omega)]
  · rw [if_neg c]
theorem jRft_fr {h h' : JH} (e : ∀ b : Int, h' 202 b = h 202 b) : jRft h h' := fun b => by rw [e]
theorem jNd_li {Y : Int} {D : Int → Prop} {hc hm : JH} (hD : ∀ k, D k → 0 ≤ k ∧ k < 16) (R : jR2 Y D hc hm) (T : jTK hc hm) (L : jLn Y D hc hm) (N : jNd hm) : jNd (jmLi hm) := by
  have F := jFI_nx (w := 0) hD (Or.inl rfl) L (a := -1) (i := 0) (Or.inl ⟨by decide, rfl⟩)
  unfold jmLi
  by_cases c : hm 202 0 < 0 ∧ 0 ≤ jfb hm (-1) 0 (hm 176 14).toNat
  · rw [if_pos c]
    rcases F with ⟨f1, f2⟩ | ⟨j, f1, f2, f3, f4, f5⟩
    · omega
    · have l := (L.1 j f1 f2).1
      have k16 := hD _ l
      have p := (R.2.2 _ l).1
      rw [f3]
      have f4' : hm 192 (hc (Y + 5) j) = 0 := f4
      refine jNd_ent N k16 (L.1 j f1 f2).2 (by decide) (Or.inl ⟨f4', rfl⟩) (fun g a b => ?_)
      exact ((T (hm 189 (hc (Y + 5) j)) 0 (by omega) (by omega) (by decide) (by decide)).2.2 g a b).2
  · rw [if_neg c]; exact N
