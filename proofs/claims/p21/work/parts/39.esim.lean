/-! ===== WORK ===== -/
theorem jmin_ii (x y : Int) : jmin x y = jmii x y := by unfold jmin jmii; by_cases z : x < y <;> by_cases w : x ≤ y <;> simp only [z, w, if_true, if_false] <;> omega
def jwW (Y i k : Int) : Prop := (i = Y ∧ 9 ≤ k ∧ k ≤ 10) ∨ i = Y + 6 ∨ (Y + 7 ≤ i ∧ i ≤ Y + 54 ∧ k = 6 ∧ (i - Y - 7) % 3 = 0)
theorem jDw_n {Y c i k : Int} {h : JH} (hl : h (Y + 5) i = k) (q : ¬ (h (Y + 7 + 3 * k) 3 = 1 ∧ ¬ h (Y + 7 + 3 * k) 7 = 0 ∧ 0 < h (Y + 7 + 3 * k) 6)) : jDw Y (Y + 6) (Y + 7) (Y + 5) c i h = h := by
  unfold jDw
  rw [hl]
  exact if_neg q
theorem jDw_y {Y c i k : Int} {h : JH} (hY : Y = 29 ∨ Y = 119) (hk : 0 ≤ k ∧ k < 16) (hl : h (Y + 5) i = k) (q : h (Y + 7 + 3 * k) 3 = 1 ∧ ¬ h (Y + 7 + 3 * k) 7 = 0 ∧ 0 < h (Y + 7 + 3 * k) 6) : ∀ a b : Int, ¬ (a = Y ∧ b = 10) →
    jDw Y (Y + 6) (Y + 7) (Y + 5) c i h a b = if a = Y + 7 + 3 * k ∧ b = 6 then jw32 (h (Y + 7 + 3 * k) 6 - jmin (jmin (h (Y + 6) (h (Y + 7 + 3 * k) 5)) c) (h (Y + 7 + 3 * k) 6)) else if a = Y + 6 ∧ b = h (Y + 7 + 3 * k) 5 then jw32 (h (Y + 6) (h (Y + 7 + 3 * k) 5) - jmin (jmin (h (Y + 6) (h (Y + 7 + 3 * k) 5)) c) (h (Y + 7 + 3 * k) 6)) else h a b := fun a b n => by
  unfold jDw
  rw [hl, if_pos q]
  unfold jD3 jD2 jD1 jSt
  rw [jup_ne n]
  generalize jmin (jmin (h (Y + 6) (h (Y + 7 + 3 * k) 5)) c) (h (Y + 7 + 3 * k) 6) = S
  have e : jup h (Y + 6) (h (Y + 7 + 3 * k) 5) (jw32 (h (Y + 6) (h (Y + 7 + 3 * k) 5) - S)) (Y + 7 + 3 * k) 6 = h (Y + 7 + 3 * k) 6 := jup_ne (by omega)
  rw [e]
  rfl
theorem jmin_b {l c w : Int} (h0 : 0 ≤ l) (h1 : 0 ≤ c) (h2 : 0 ≤ w) : 0 ≤ jmin (jmin l c) w ∧ jmin (jmin l c) w ≤ l ∧ jmin (jmin l c) w ≤ w ∧ jmin (jmin l c) w ≤ c := by
  have a : ∀ x y : Int, (jmin x y = x ∧ x ≤ y) ∨ (jmin x y = y ∧ y ≤ x) := fun x y => by
    unfold jmin
    by_cases z : x ≤ y
    · rw [if_pos z]; exact Or.inl ⟨rfl, z⟩
    · rw [if_neg z]; exact Or.inr ⟨rfl, by omega⟩
  have b := a l c
  have d := a (jmin l c) w
  omega
/-- bounds on the way along the line -/
theorem jDw_b {Y c : Int} {D : Int → Prop} {h : JH} (hY : Y = 29 ∨ Y = 119) (hD : ∀ k, D k → 0 ≤ k ∧ k < 16) (hc : 0 ≤ c) (hL : ∀ i : Int, 0 ≤ i → i < h Y 6 → D (h (Y + 5) i))
    (B0 : ∀ x : Int, 0 ≤ x → x < 4 → 0 ≤ h (Y + 6) x ∧ h (Y + 6) x ≤ 400) (B1 : ∀ k : Int, D k → h (Y + 7 + 3 * k) 3 = 1 → 0 ≤ h (Y + 7 + 3 * k) 5 ∧ h (Y + 7 + 3 * k) 5 ≤ 3 ∧ 0 ≤ h (Y + 7 + 3 * k) 6 ∧ h (Y + 7 + 3 * k) 6 ≤ 2000) : ∀ n : Nat, (n : Int) ≤ h Y 6 →
    (∀ x : Int, 0 ≤ x → x < 4 → 0 ≤ jit (jDw Y (Y + 6) (Y + 7) (Y + 5) c) n h (Y + 6) x ∧ jit (jDw Y (Y + 6) (Y + 7) (Y + 5) c) n h (Y + 6) x ≤ 400) ∧
    (∀ k : Int, D k → h (Y + 7 + 3 * k) 3 = 1 → 0 ≤ jit (jDw Y (Y + 6) (Y + 7) (Y + 5) c) n h (Y + 7 + 3 * k) 6 ∧ jit (jDw Y (Y + 6) (Y + 7) (Y + 5) c) n h (Y + 7 + 3 * k) 6 ≤ 2000) ∧
    (∀ k : Int, D k → ¬ h (Y + 7 + 3 * k) 3 = 1 → jit (jDw Y (Y + 6) (Y + 7) (Y + 5) c) n h (Y + 7 + 3 * k) 6 = h (Y + 7 + 3 * k) 6) ∧
    jfr (jwW Y) h (jit (jDw Y (Y + 6) (Y + 7) (Y + 5) c) n h)
  | 0, _ => ⟨B0, fun k a b => (B1 k a b).2.2, fun k _ _ => rfl, jfr_rf _ _⟩
  | n + 1, hn => by
      obtain ⟨i1, i2, i3, i4⟩ := jDw_b hY hD hc hL B0 B1 n (by omega)
      have st : jit (jDw Y (Y + 6) (Y + 7) (Y + 5) c) (n + 1) h = jDw Y (Y + 6) (Y + 7) (Y + 5) c n (jit (jDw Y (Y + 6) (Y + 7) (Y + 5) c) n h) := rfl
      rw [st]
      have dk := hL n (by omega) (by omega)
      generalize jit (jDw Y (Y + 6) (Y + 7) (Y + 5) c) n h = g at i1 i2 i3 i4
      have l : g (Y + 5) n = h (Y + 5) n := i4 _ _ (by unfold jwW; omega)
      generalize h (Y + 5) n = k at dk l
      have k16 := hD k dk
      have f3 : g (Y + 7 + 3 * k) 3 = h (Y + 7 + 3 * k) 3 := i4 _ _ (by unfold jwW; omega)
      have f5 : g (Y + 7 + 3 * k) 5 = h (Y + 7 + 3 * k) 5 := i4 _ _ (by unfold jwW; omega)
      by_cases q : g (Y + 7 + 3 * k) 3 = 1 ∧ ¬ g (Y + 7 + 3 * k) 7 = 0 ∧ 0 < g (Y + 7 + 3 * k) 6
      · have r := jDw_y (c := c) hY k16 l q
        have b1 := B1 k dk (by omega)
        have w := i1 (g (Y + 7 + 3 * k) 5) (by omega) (by omega)
        have v := i2 k dk (by omega)
        have m := jmin_b w.1 hc v.1
        generalize jmin (jmin (g (Y + 6) (g (Y + 7 + 3 * k) 5)) c) (g (Y + 7 + 3 * k) 6) = S at r m
        have e1 : jw32 (g (Y + 7 + 3 * k) 6 - S) = g (Y + 7 + 3 * k) 6 - S := j32e (by omega) (by omega)
        have e2 : jw32 (g (Y + 6) (g (Y + 7 + 3 * k) 5) - S) = g (Y + 6) (g (Y + 7 + 3 * k) 5) - S := j32e (by omega) (by omega)
        rw [e1, e2] at r
        refine ⟨fun x a b => ?_, fun k' a b => ?_, fun k' a b => ?_, fun i j z => ?_⟩
        · rw [r _ _ (by omega), if_neg (by omega)]
          by_cases z : x = g (Y + 7 + 3 * k) 5
          · rw [if_pos ⟨rfl, z⟩]; omega
          · rw [if_neg (by omega)]; exact i1 x a b
        · have k16' := hD k' a
          rw [r _ _ (by omega)]
          by_cases z : k' = k
          · rw [z, if_pos ⟨rfl, rfl⟩]; omega
          · rw [if_neg (by omega), if_neg (by omega)]; exact i2 k' a b
        · have k16' := hD k' a
          have n9 : ¬ k' = k := fun z => b (by rw [z]; omega)
          rw [r _ _ (by omega), if_neg (by omega), if_neg (by omega)]; exact i3 k' a b
        · unfold jwW at z
          rw [r i j (by omega), if_neg (by omega), if_neg (by omega)]; exact i4 i j z
      · rw [jDw_n l q]; exact ⟨i1, i2, i3, i4⟩
/-- on a feast none is sent -/
theorem jDw_0 {Y : Int} {D : Int → Prop} {h : JH} (hY : Y = 29 ∨ Y = 119) (hD : ∀ k, D k → 0 ≤ k ∧ k < 16) (hL : ∀ i : Int, 0 ≤ i → i < h Y 6 → D (h (Y + 5) i))
    (B0 : ∀ x : Int, 0 ≤ x → x < 4 → 0 ≤ h (Y + 6) x ∧ h (Y + 6) x ≤ 400) (B1 : ∀ k : Int, D k → h (Y + 7 + 3 * k) 3 = 1 → 0 ≤ h (Y + 7 + 3 * k) 5 ∧ h (Y + 7 + 3 * k) 5 ≤ 3 ∧ 0 ≤ h (Y + 7 + 3 * k) 6 ∧ h (Y + 7 + 3 * k) 6 ≤ 2000) : ∀ n : Nat, (n : Int) ≤ h Y 6 →
    ∀ a b : Int, ¬ (a = Y ∧ b = 10) → jit (jDw Y (Y + 6) (Y + 7) (Y + 5) 0) n h a b = h a b
  | 0, _, a, b, _ => rfl
  | n + 1, hn, a, b, ab => by
      have ih := jDw_0 hY hD hL B0 B1 n (by omega)
      have st : jit (jDw Y (Y + 6) (Y + 7) (Y + 5) 0) (n + 1) h = jDw Y (Y + 6) (Y + 7) (Y + 5) 0 n (jit (jDw Y (Y + 6) (Y + 7) (Y + 5) 0) n h) := rfl
      rw [st]
      have dk := hL n (by omega) (by omega)
      generalize jit (jDw Y (Y + 6) (Y + 7) (Y + 5) 0) n h = g at ih
      have l : g (Y + 5) n = h (Y + 5) n := ih _ _ (by omega)
      generalize h (Y + 5) n = k at dk l
      have k16 := hD k dk
      have f3 := ih (Y + 7 + 3 * k) 3 (by omega); have f5 := ih (Y + 7 + 3 * k) 5 (by omega); have f6 := ih (Y + 7 + 3 * k) 6 (by omega)
      by_cases q : g (Y + 7 + 3 * k) 3 = 1 ∧ ¬ g (Y + 7 + 3 * k) 7 = 0 ∧ 0 < g (Y + 7 + 3 * k) 6
      · have r := jDw_y (c := 0) hY k16 l q
        have b1 := B1 k dk (by omega)
        have w := B0 (g (Y + 7 + 3 * k) 5) (by omega) (by omega)
        have fw := ih (Y + 6) (g (Y + 7 + 3 * k) 5) (by omega)
        have m := jmin_b (l := g (Y + 6) (g (Y + 7 + 3 * k) 5)) (c := 0) (w := g (Y + 7 + 3 * k) 6) (by omega) (by omega) (by omega)
        generalize jmin (jmin (g (Y + 6) (g (Y + 7 + 3 * k) 5)) 0) (g (Y + 7 + 3 * k) 6) = S at r m
        have e1 : jw32 (g (Y + 7 + 3 * k) 6 - S) = g (Y + 7 + 3 * k) 6 := (j32e (by omega) (by omega)).trans (by omega)
        have e2 : jw32 (g (Y + 6) (g (Y + 7 + 3 * k) 5) - S) = g (Y + 6) (g (Y + 7 + 3 * k) 5) := (j32e (by omega) (by omega)).trans (by omega)
        rw [e1, e2] at r
        rw [r a b ab, ← ih a b ab]
        by_cases z1 : a = Y + 7 + 3 * k ∧ b = 6
        · rw [if_pos z1, z1.1, z1.2]
        · rw [if_neg z1]
          by_cases z2 : a = Y + 6 ∧ b = g (Y + 7 + 3 * k) 5
          · rw [if_pos z2, z2.1, z2.2]
          · rw [if_neg z2]
      · rw [jDw_n l q]; exact ih a b ab
def jw5 (i k : Int) : Prop := i = 195 ∨ (i = 176 ∧ k = 32)
theorem jHm_c {h h' : JH} {c d : Int} (e : ∀ i k : Int, 177 ≤ i → i ≤ 180 → h' i k = h i k) : jHm h' c d = jHm h c d := by
  unfold jHm
  rw [e 178 c (by decide) (by decide), e 179 _ (by decide) (by decide), e 177 c (by decide) (by decide), e 180 _ (by decide) (by decide)]
theorem jmFv_c {h h' : JH} {k c d : Int} (e : ∀ i k : Int, 182 ≤ i → i ≤ 185 → h' i k = h i k) (e6 : h' 176 6 = h 176 6) : jmFv h' k c d = jmFv h k c d := by
  unfold jmFv
  rw [jfn (fun k => e 182 k (by decide) (by decide)), jfn (fun k => e 183 k (by decide) (by decide)), jfn (fun k => e 184 k (by decide) (by decide)), jfn (fun k => e 185 k (by decide) (by decide)), e6]
set_option maxHeartbeats 1000000 in
/-- the reference's way of one craft along the line -/
theorem jR_wc {Y cr cc : Int} {D : Int → Prop} {hc hm hx : JH} (hY : Y = 29 ∨ Y = 119) (hD : ∀ k, D k → 0 ≤ k ∧ k < 16) (hcr : 0 ≤ cr) (hcc : 0 ≤ cc ∧ cc < 4) (L : jLn Y D hc hm) (h6 : 0 ≤ hc Y 6 ∧ hc Y 6 ≤ 16)
    (B0 : ∀ x : Int, 0 ≤ x → x < 4 → 0 ≤ hc (Y + 6) x ∧ hc (Y + 6) x ≤ 400) (B1 : ∀ k : Int, D k → hc (Y + 7 + 3 * k) 3 = 1 → 0 ≤ hc (Y + 7 + 3 * k) 5 ∧ hc (Y + 7 + 3 * k) 5 ≤ 3 ∧ 0 ≤ hc (Y + 7 + 3 * k) 6 ∧ hc (Y + 7 + 3 * k) 6 ≤ 2000)
    (Rk : ∀ k : Int, D k → hc (Y + 7 + 3 * k) 3 = hm 192 k ∧ (hm 192 k = 1 → hc (Y + 7 + 3 * k) 5 = hm 194 k ∧ hc (Y + 7 + 3 * k) 7 = hm 196 k)) (fx : jfr jw5 hm hx) (A : ∀ k : Int, D k → hm 192 k = 1 → hm 194 k = cc → hx 195 k = hc (Y + 7 + 3 * k) 6) {l0 : Int} (hl : l0 = hc (Y + 6) cc) :
    (∀ k : Int, D k → hm 192 k = 1 → hm 194 k = cc → (jch (jmWo cr cc) jnx2 1700 (jnx (-1) hx) (l0, hx)).2 195 k = jit (jDw Y (Y + 6) (Y + 7) (Y + 5) cr) (hc Y 6).toNat hc (Y + 7 + 3 * k) 6) ∧
    (∀ k : Int, ¬ (D k ∧ hm 192 k = 1 ∧ hm 194 k = cc) → (jch (jmWo cr cc) jnx2 1700 (jnx (-1) hx) (l0, hx)).2 195 k = hx 195 k) ∧ jfr (fun i _ => i = 195) hx (jch (jmWo cr cc) jnx2 1700 (jnx (-1) hx) (l0, hx)).2 := by
  have hLD : ∀ i : Int, 0 ≤ i → i < hc Y 6 → D (hc (Y + 5) i) := fun i a b => (L.1 i a b).1
  have BB := jDw_b (c := cr) hY hD hcr hLD B0 B1
  have N : ∀ (x : Int) (s : Int × JH), jfr (fun i _ => i = 195) hx s.2 → jnx2 x s = jfb hm x 1 (hm 176 14).toNat := fun x s f => by
    have g : ∀ i k : Int, ¬ jw5 i k → s.2 i k = hm i k := fun i k q => (f i k (fun z => q (Or.inl z))).trans (fx i k q)
    unfold jnx2 jnx
    rw [g 176 14 (by unfold jw5; omega)]
    exact jfb_c (fun k => g 192 k (by unfold jw5; omega)) (fun k => g 190 k (by unfold jw5; omega)) _
  have key := jch_sim (op := jmWo cr cc) (nx := jnx2) (n := hc Y 6) (ln := hc (Y + 5)) (IN := fun k => hm 192 k = 1) (fun i s => s.1 = jit (jDw Y (Y + 6) (Y + 7) (Y + 5) cr) i.toNat hc (Y + 6) cc ∧ (∀ k : Int, D k → hm 192 k = 1 → hm 194 k = cc → s.2 195 k = jit (jDw Y (Y + 6) (Y + 7) (Y + 5) cr) i.toNat hc (Y + 7 + 3 * k) 6) ∧
      (∀ k : Int, ¬ (D k ∧ hm 192 k = 1 ∧ hm 194 k = cc) → s.2 195 k = hx 195 k) ∧ jfr (fun i _ => i = 195) hx s.2)
    (fun i a b => (hD _ (hLD i a b)).1) (fun i s a b q => by rw [N _ s q.2.2.2]; exact jFI_nx hD (Or.inr rfl) L (Or.inr ⟨by omega, by omega, by rw [show i + 1 - 1 = i by omega]⟩)) (fun i s a b z q => ?_) (fun i s a b z q => ?_) (hc Y 6).toNat 0 1700 (l0, hx) (jnx (-1) hx) (Int.le_refl _) (by omega) (by omega) ⟨hl, A, fun k _ => rfl, jfr_rf _ _⟩ (by
      have e : jnx (-1) hx = jfb hm (-1) 1 (hm 176 14).toNat := N (-1) (l0, hx) (jfr_rf _ _)
      rw [e]; exact jFI_nx hD (Or.inr rfl) L (Or.inl ⟨by decide, rfl⟩))
  · exact ⟨key.2.1, key.2.2.1, key.2.2.2⟩
  · obtain ⟨q1, q2, q3, q4⟩ := q
    obtain ⟨b1, b2, b3, b4⟩ := BB i.toNat (by omega)
    rw [jit_s a]
    have dk := hLD i a b
    generalize jit (jDw Y (Y + 6) (Y + 7) (Y + 5) cr) i.toNat hc = g at q1 q2 b1 b2 b3 b4
    have l : g (Y + 5) i = hc (Y + 5) i := b4 _ _ (by unfold jwW; omega)
    generalize hc (Y + 5) i = k at dk l z
    have k16 := hD k dk
    obtain ⟨e3, e57⟩ := Rk k dk
    obtain ⟨e5, e7⟩ := e57 z
    have f3 : g (Y + 7 + 3 * k) 3 = 1 := (b4 _ _ (by unfold jwW; omega)).trans (e3.trans z)
    have f5 : g (Y + 7 + 3 * k) 5 = hm 194 k := (b4 _ _ (by unfold jwW; omega)).trans e5
    have f7 : g (Y + 7 + 3 * k) 7 = hm 196 k := (b4 _ _ (by unfold jwW; omega)).trans e7
    have s6 : s.2 196 k = hm 196 k := (q4 196 k (by omega)).trans (fx 196 k (by unfold jw5; omega))
    have s4 : s.2 194 k = hm 194 k := (q4 194 k (by omega)).trans (fx 194 k (by unfold jw5; omega))
    have bk := B1 k dk (e3.trans z)
    have w := b2 k dk (e3.trans z)
    have wl := b1 cc hcc.1 hcc.2
    unfold jmWo
    rw [s6, s4]
    by_cases t : hm 196 k = 0
    · rw [if_pos (Or.inl t), jDw_n l (by omega)]; exact ⟨q1, q2, q3, q4⟩
    · by_cases c : hm 194 k = cc
      · rw [if_neg (by omega)]
        have qk := q2 k dk z c
        unfold jmSn
        rw [qk, q1, ← jmin_ii, ← jmin_ii]
        by_cases p : 0 < g (Y + 7 + 3 * k) 6
        · have r := jDw_y (c := cr) hY k16 l ⟨f3, by omega, p⟩
          rw [f5, c] at r
          generalize jmin (jmin (g (Y + 6) cc) cr) (g (Y + 7 + 3 * k) 6) = S at r
          refine ⟨?_, fun k' d1 d2 d3 => ?_, fun k' d => ?_, fun i' j' d => ?_⟩
          · show jw32 (g (Y + 6) cc - S) = _
            rw [r _ _ (by omega), if_neg (by omega), if_pos ⟨rfl, rfl⟩]
          · have k16' := hD k' d1
            show jup s.2 195 k (jw32 (g (Y + 7 + 3 * k) 6 - S)) 195 k' = _
            rw [r _ _ (by omega)]
            by_cases y : k' = k
            · rw [y, if_pos ⟨rfl, rfl⟩]; exact jup_eq
            · rw [if_neg (by omega), if_neg (by omega), jup_ne (by omega)]; exact q2 k' d1 d2 d3
          · show jup s.2 195 k (jw32 (g (Y + 7 + 3 * k) 6 - S)) 195 k' = _
            have y : ¬ k' = k := fun y => d (by rw [y]; exact ⟨dk, z, c⟩)
            rw [jup_ne (by omega)]; exact q3 k' d
          · show jup s.2 195 k (jw32 (g (Y + 7 + 3 * k) 6 - S)) i' j' = _
            have d' : ¬ i' = 195 := d
            rw [jup_ne (by omega)]; exact q4 i' j' d
        · have w0 : g (Y + 7 + 3 * k) 6 = 0 := by omega
          have m := jmin_b (l := g (Y + 6) cc) (c := cr) (w := g (Y + 7 + 3 * k) 6) wl.1 hcr w.1
          rw [jDw_n l (by omega)]
          have m0 : jmin (jmin (g (Y + 6) cc) cr) (g (Y + 7 + 3 * k) 6) = 0 := by omega
          rw [m0]
          have e1 : jw32 (g (Y + 6) cc - 0) = g (Y + 6) cc := (j32e (by omega) (by omega)).trans (by omega)
          have e2 : jw32 (g (Y + 7 + 3 * k) 6 - 0) = g (Y + 7 + 3 * k) 6 := (j32e (by omega) (by omega)).trans (by omega)
          refine ⟨e1, fun k' d1 d2 d3 => ?_, fun k' d => ?_, fun i' j' d => ?_⟩
          · show jup s.2 195 k (jw32 (g (Y + 7 + 3 * k) 6 - 0)) 195 k' = _
            by_cases y : k' = k
            · rw [y, jup_eq]; exact e2
            · rw [jup_ne (by omega)]; exact q2 k' d1 d2 d3
          · show jup s.2 195 k (jw32 (g (Y + 7 + 3 * k) 6 - 0)) 195 k' = _
            have y : ¬ k' = k := fun y => d (by rw [y]; exact ⟨dk, z, c⟩)
            rw [jup_ne (by omega)]; exact q3 k' d
          · show jup s.2 195 k (jw32 (g (Y + 7 + 3 * k) 6 - 0)) i' j' = _
            have d' : ¬ i' = 195 := d
            rw [jup_ne (by omega)]; exact q4 i' j' d
      · rw [if_pos (Or.inr c)]
        by_cases p : 0 < g (Y + 7 + 3 * k) 6
        · have r := jDw_y (c := cr) hY k16 l ⟨f3, by omega, p⟩
          generalize jmin (jmin (g (Y + 6) (g (Y + 7 + 3 * k) 5)) cr) (g (Y + 7 + 3 * k) 6) = S at r
          refine ⟨?_, fun k' d1 d2 d3 => ?_, q3, q4⟩
          · rw [r _ _ (by omega), if_neg (by omega), if_neg (by omega)]; exact q1
          · have k16' := hD k' d1
            have y : ¬ k' = k := fun y => c (by rw [← y]; exact d3)
            rw [r _ _ (by omega), if_neg (by omega), if_neg (by omega)]; exact q2 k' d1 d2 d3
        · rw [jDw_n l (by omega)]; exact ⟨q1, q2, q3, q4⟩
  · obtain ⟨q1, q2, q3, q4⟩ := q
    obtain ⟨b1, b2, b3, b4⟩ := BB i.toNat (by omega)
    rw [jit_s a]
    have dk := hLD i a b
    generalize jit (jDw Y (Y + 6) (Y + 7) (Y + 5) cr) i.toNat hc = g at q1 q2 b1 b2 b3 b4
    have l : g (Y + 5) i = hc (Y + 5) i := b4 _ _ (by unfold jwW; omega)
    have k16 := hD _ dk
    have f3 : g (Y + 7 + 3 * hc (Y + 5) i) 3 = hm 192 (hc (Y + 5) i) := (b4 _ _ (by unfold jwW; omega)).trans (Rk _ dk).1
    rw [jDw_n l (by rw [f3]; exact fun x => z x.1)]
    exact ⟨q1, q2, q3, q4⟩
theorem jDi_f {Y : Int} {h : JH} : ∀ n : Nat, ∀ i j : Int, ¬ (i = Y ∧ j = 9) → jit (jDi Y (Y + 6)) n h i j = h i j
  | 0, i, j, _ => rfl
  | n + 1, i, j, q => by
      show jup (jit (jDi Y (Y + 6)) n h) Y 9 _ i j = _
      rw [jup_ne q]
      exact jDi_f n i j q
set_option maxHeartbeats 1000000 in
/-- work -/
theorem jR_wa {Y A f c : Int} {D : Int → Prop} {hc hm : JH} (hY : Y = 29 ∨ Y = 119) (hD : ∀ k, D k → 0 ≤ k ∧ k < 16) (R : jR2 Y D hc hm) (L : jLn Y D hc hm) (h6 : 0 ≤ hc Y 6 ∧ hc Y 6 ≤ 16)
    (hh : ∀ x : Int, 0 ≤ x → x < 4 → hc A (f + x) = jHm hm x (hm 176 0) ∧ 0 ≤ hc A (f + x) ∧ hc A (f + x) ≤ 400) (hcr : (jmWk hm = 0 ∧ c = 0) ∨ (¬ jmWk hm = 0 ∧ c = jmFv hm 3 0 (hm 176 0) ∧ 0 ≤ c)) :
    jR2 Y D (jP4 Y (Y + 6) (Y + 7) (Y + 5) A f c hc) (jmWA hm) ∧ jfr (jwC Y) hc (jP4 Y (Y + 6) (Y + 7) (Y + 5) A f c hc) ∧ jfr jw5 hm (jmWA hm) := by
  unfold jP4
  have c0 : 0 ≤ c := by omega
  have W1 : ∀ i j : Int, ¬ i = Y + 6 → jcp hc A f (Y + 6) 0 4 i j = hc i j := fun i j q => if_neg (by omega)
  have W2 : ∀ x : Int, 0 ≤ x → x < 4 → jcp hc A f (Y + 6) 0 4 (Y + 6) x = hc A (f + x) := fun x a b => by
    have e : jcp hc A f (Y + 6) 0 4 (Y + 6) x = hc A (f + (x - 0)) := if_pos ⟨rfl, a, by omega⟩
    rw [e, Int.sub_zero]
  generalize jcp hc A f (Y + 6) 0 4 = h1 at W1 W2
  have L1 : jLn Y D h1 hm := jLn_fr (W1 _ _ (by omega)) (fun i => W1 _ _ (by omega)) rfl (fun _ => rfl) (fun k _ _ q => q) L
  have n6 : h1 Y 6 = hc Y 6 := W1 _ _ (by omega)
  have B0 : ∀ x : Int, 0 ≤ x → x < 4 → 0 ≤ h1 (Y + 6) x ∧ h1 (Y + 6) x ≤ 400 := fun x a b => by rw [W2 x a b]; exact (hh x a b).2
  have Rk : ∀ k : Int, D k → h1 (Y + 7 + 3 * k) 3 = hm 192 k ∧ (hm 192 k = 1 → h1 (Y + 7 + 3 * k) 5 = hm 194 k ∧ h1 (Y + 7 + 3 * k) 7 = hm 196 k) := fun k hk => by
    have k16 := hD k hk
    have r := R.2.2 k hk
    rw [W1 _ 3 (by omega), W1 _ 5 (by omega), W1 _ 7 (by omega)]
    exact ⟨r.1.2.1, fun z => ⟨(r.2.2.1 z).1, (r.2.2.1 z).2.2.1⟩⟩
  have B1 : ∀ k : Int, D k → h1 (Y + 7 + 3 * k) 3 = 1 → 0 ≤ h1 (Y + 7 + 3 * k) 5 ∧ h1 (Y + 7 + 3 * k) 5 ≤ 3 ∧ 0 ≤ h1 (Y + 7 + 3 * k) 6 ∧ h1 (Y + 7 + 3 * k) 6 ≤ 2000 := fun k hk z => by
    have k16 := hD k hk
    have r := R.2.2 k hk
    rw [W1 _ 3 (by omega)] at z
    rw [W1 _ 5 (by omega), W1 _ 6 (by omega)]
    obtain ⟨y5, y6, y7, y8, y9, yw⟩ := r.2.2.1 (r.1.2.1.symm.trans z)
    rw [y5, y6]
    exact ⟨y8, y9, yw⟩
  have hLD : ∀ i : Int, 0 ≤ i → i < h1 Y 6 → D (h1 (Y + 5) i) := fun i a b => (L1.1 i a b).1
  obtain ⟨g1, g2, g3, g4⟩ := jDw_b (c := c) hY hD c0 hLD B0 B1 (hc Y 6).toNat (by omega)
  have FIN : (∀ k : Int, D k → hm 192 k = 1 → jmWA hm 195 k = jit (jDw Y (Y + 6) (Y + 7) (Y + 5) c) (hc Y 6).toNat h1 (Y + 7 + 3 * k) 6) ∧ jfr jw5 hm (jmWA hm) := by
    unfold jmWA
    rcases hcr with ⟨w0, c0⟩ | ⟨w1, w2, w3⟩
    · subst c0
      rw [w0]
      have f : ∀ n : Nat, ∀ i j : Int, ¬ (i = 176 ∧ j = 32) → jit (jmWc 0 (jmFv hm 3 0 (hm 176 0))) n hm i j = hm i j := by
        intro n
        induction n with
        | zero => intro i j _; rfl
        | succ n ih =>
            intro i j q
            have e : jit (jmWc 0 (jmFv hm 3 0 (hm 176 0))) (n + 1) hm i j = jit (jmWc 0 (jmFv hm 3 0 (hm 176 0))) n hm i j := jup_ne q
            rw [e]; exact ih i j q
      have z := jDw_0 hY hD hLD B0 B1 (hc Y 6).toNat (by omega)
      refine ⟨fun k hk hi => ?_, fun i j q => f 4 i j (fun y => q (Or.inr y))⟩
      have k16 := hD k hk
      rw [f 4 195 k (by omega), z _ _ (by omega), W1 _ _ (by omega)]
      exact ((R.2.2 k hk).2.2.1 hi).2.1.symm
    · rw [← w2]
      have key : ∀ n : Nat, n ≤ 4 → (∀ k : Int, D k → hm 192 k = 1 → (hm 194 k < n → jit (jmWc (jmWk hm) c) n hm 195 k = jit (jDw Y (Y + 6) (Y + 7) (Y + 5) c) (hc Y 6).toNat h1 (Y + 7 + 3 * k) 6) ∧ (¬ hm 194 k < n → jit (jmWc (jmWk hm) c) n hm 195 k = hm 195 k)) ∧ jfr jw5 hm (jit (jmWc (jmWk hm) c) n hm) := by
        intro n
        induction n with
        | zero =>
            intro _
            refine ⟨fun k hk hi => ⟨fun q => ?_, fun _ => rfl⟩, jfr_rf _ _⟩
            have := (R.2.2 k hk).2.2.1 hi
            omega
        | succ n ih =>
            intro hn
            obtain ⟨i1, i2⟩ := ih (by omega)
            have st : jit (jmWc (jmWk hm) c) (n + 1) hm = jmWe (jmWs (jmWk hm) c n (jit (jmWc (jmWk hm) c) n hm)) := rfl
            rw [st]
            generalize jit (jmWc (jmWk hm) c) n hm = hx at i1 i2
            have d9 : hx 176 0 = hm 176 0 := i2 176 0 (by unfold jw5; omega)
            have wsE : jmWs (jmWk hm) c n hx = jch (jmWo c n) jnx2 1700 (jnx (-1) hx) (jHm hx n (hx 176 0), hx) := if_neg w1
            have hl : jHm hx n (hx 176 0) = h1 (Y + 6) n := by
              rw [d9, jHm_c (h := hm) (fun i k _ _ => i2 i k (by unfold jw5; omega)), W2 n (by omega) (by omega)]
              exact (hh n (by omega) (by omega)).1.symm
            have wc := jR_wc (cr := c) (cc := n) (hx := hx) hY hD w3 (by omega) L1 (by omega) B0 B1 Rk i2 (fun k hk hi hcc => by
              have k16 := hD k hk
              rw [(i1 k hk hi).2 (by omega), W1 _ _ (by omega)]
              exact ((R.2.2 k hk).2.2.1 hi).2.1.symm) hl
            rw [wsE]
            rw [n6] at wc
            generalize jch (jmWo c n) jnx2 1700 (jnx (-1) hx) (jHm hx n (hx 176 0), hx) = s at wc
            obtain ⟨u1, u2, u3⟩ := wc
            have e : ∀ i j : Int, ¬ (i = 176 ∧ j = 32) → jmWe s i j = s.2 i j := fun i j q => jup_ne q
            refine ⟨fun k hk hi => ⟨fun q => ?_, fun q => ?_⟩, fun i j q => ?_⟩
            · rw [e _ _ (by omega)]
              by_cases y : hm 194 k = n
              · exact u1 k hk hi y
              · rw [u2 k (fun x => y x.2.2)]; exact (i1 k hk hi).1 (by omega)
            · rw [e _ _ (by omega), u2 k (fun x => by have := x.2.2; omega)]; exact (i1 k hk hi).2 (by omega)
            · rw [e _ _ (fun y => q (Or.inr y))]; exact (u3 i j (fun y => q (Or.inl y))).trans (i2 i j q)
      obtain ⟨k1, k2⟩ := key 4 (Nat.le_refl _)
      refine ⟨fun k hk hi => (k1 k hk hi).1 ?_, k2⟩
      have := (R.2.2 k hk).2.2.1 hi
      omega
  obtain ⟨F1, F2⟩ := FIN
  generalize jmWA hm = V at F1 F2
  have X0 := jDi_f (Y := Y) (h := jit (jDw Y (Y + 6) (Y + 7) (Y + 5) c) (hc Y 6).toNat h1) 4
  generalize jit (jDw Y (Y + 6) (Y + 7) (Y + 5) c) (hc Y 6).toNat h1 = G at g1 g2 g3 g4 F1 X0
  generalize jit (jDi Y (Y + 6)) 4 G = X at X0
  have cf : ∀ i j : Int, ¬ jwW Y i j → X i j = hc i j := fun i j q => by
    unfold jwW at q
    rw [X0 i j (by omega), g4 i j (by unfold jwW; omega), W1 i j (by omega)]
  obtain ⟨r1, r2, r3⟩ := R
  refine ⟨⟨fun g a b => ?_, fun b a c => ?_, fun k hk => ?_⟩, fun i j q => ?_, F2⟩
  · rw [cf _ _ (by unfold jwW; omega), F2 _ _ (by unfold jw5; omega)]; exact r1 g a b
  · exact jBR_fr (cf _ _ (by unfold jwW; omega)) (F2 _ _ (by unfold jw5; omega)) (fun k _ _ _ => ⟨F2 _ _ (by unfold jw5; omega), F2 _ _ (by unfold jw5; omega)⟩) (r2 b a c)
  · have k16 := hD k hk
    have q := r3 k hk
    unfold jHR at q ⊢
    obtain ⟨q1, q2, q3, q4, q5⟩ := q
    have x6 : X (Y + 7 + 3 * k) 6 = G (Y + 7 + 3 * k) 6 := X0 _ _ (by omega)
    have h3 : h1 (Y + 7 + 3 * k) 3 = hm 192 k := (Rk k hk).1
    rw [cf _ 0 (by unfold jwW; omega), cf _ 3 (by unfold jwW; omega), cf _ 4 (by unfold jwW; omega), cf _ 5 (by unfold jwW; omega), cf _ 7 (by unfold jwW; omega), cf _ 8 (by unfold jwW; omega), cf _ 9 (by unfold jwW; omega), F2 189 _ (by unfold jw5; omega), F2 192 _ (by unfold jw5; omega), F2 193 _ (by unfold jw5; omega), F2 194 _ (by unfold jw5; omega), F2 196 _ (by unfold jw5; omega), F2 197 _ (by unfold jw5; omega), F2 198 _ (by unfold jw5; omega), x6]
    refine ⟨q1, fun g a b => ?_, fun z => ?_, fun z g a b => ?_, fun z => ?_⟩
    · rw [cf _ _ (by unfold jwW; omega), F2 200 _ (by unfold jw5; omega)]; exact q2 g a b
    · obtain ⟨y5, y6, y7, y8, y9, yw⟩ := q3 z
      have b := g2 k hk (h3.trans z)
      rw [F1 k hk z]
      exact ⟨y5, rfl, y7, y8, y9, b⟩
    · rw [cf _ _ (by unfold jwW; omega), F2 199 _ (by unfold jw5; omega)]; exact q4 z g a b
    · rw [g3 k hk (by rw [h3]; exact z), W1 _ _ (by omega)]; exact q5 z
  · unfold jwC at q
    exact cf i j (by unfold jwW; omega)
