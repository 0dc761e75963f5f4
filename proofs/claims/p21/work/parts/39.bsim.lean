/-! ===== CLASS'S YARD AND REFERENCE'S: two pictures alike ===== -/
def jHR (H k : Int) (hc hm : JH) : Prop :=
  (hc (H + 3 * k) 0 = hm 189 k ∧ hc (H + 3 * k) 3 = hm 192 k ∧ hc (H + 3 * k) 4 = hm 193 k ∧ hc (H + 3 * k) 8 = hm 197 k ∧ hc (H + 3 * k) 9 = hm 198 k ∧ 0 ≤ hm 189 k ∧ hm 189 k ≤ 2 ∧ -2147483648 ≤ hm 197 k ∧ hm 197 k ≤ 2147483647) ∧
  (∀ g : Int, 0 ≤ g → g < 6 → hc (H + 3 * k + 2) g = hm 200 (6 * k + g)) ∧
  (hm 192 k = 1 → hc (H + 3 * k) 5 = hm 194 k ∧ hc (H + 3 * k) 6 = hm 195 k ∧ hc (H + 3 * k) 7 = hm 196 k ∧ 0 ≤ hm 194 k ∧ hm 194 k ≤ 3 ∧ 0 ≤ hm 195 k ∧ hm 195 k ≤ 2000) ∧
  (hm 192 k = 1 → ∀ g : Int, 0 ≤ g → g < 6 → hc (H + 3 * k + 1) g = hm 199 (6 * k + g) ∧ 0 ≤ hm 199 (6 * k + g) ∧ hm 199 (6 * k + g) ≤ 500) ∧
  (¬ hm 192 k = 1 → hc (H + 3 * k) 6 = 0 ∧ hc (H + 3 * k) 7 = 0)
theorem jHR_fr {H k : Int} {hc hm hc' hm' : JH} (e0 : ∀ f : Int, ¬ f = 10 → hc' (H + 3 * k) f = hc (H + 3 * k) f) (e1 : ∀ f : Int, 0 ≤ f → f < 6 → hc' (H + 3 * k + 1) f = hc (H + 3 * k + 1) f) (e2 : ∀ f : Int, 0 ≤ f → f < 6 → hc' (H + 3 * k + 2) f = hc (H + 3 * k + 2) f)
    (m1 : ∀ i : Int, 189 ≤ i → i ≤ 198 → hm' i k = hm i k) (m2 : ∀ i g : Int, 199 ≤ i → i ≤ 200 → 0 ≤ g → g < 6 → hm' i (6 * k + g) = hm i (6 * k + g)) (q : jHR H k hc hm) : jHR H k hc' hm' := by
  unfold jHR at q ⊢
  rw [e0 0 (by decide), e0 3 (by decide), e0 4 (by decide), e0 5 (by decide), e0 6 (by decide), e0 7 (by decide), e0 8 (by decide), e0 9 (by decide), m1 189 (by decide) (by decide), m1 192 (by decide) (by decide), m1 193 (by decide) (by decide), m1 194 (by decide) (by decide), m1 195 (by decide) (by decide), m1 196 (by decide) (by decide), m1 197 (by decide) (by decide), m1 198 (by decide) (by decide)]
  obtain ⟨q1, q2, q3, q4, q5⟩ := q
  refine ⟨q1, fun g a b => ?_, q3, fun z g a b => ?_, q5⟩
  · rw [e2 g a b, m2 200 g (by decide) (by decide) a b]; exact q2 g a b
  · rw [e1 g a b, m2 199 g (by decide) (by decide) a b]; exact q4 z g a b
/-- a berth -/
def jBR (Y : Int) (D : Int → Prop) (b : Int) (hc hm : JH) : Prop :=
  (hc (Y + 2) b = -1 ∧ hm 202 b = -1) ∨ (hc (Y + 2) b = -2 ∧ hm 202 b = 100) ∨ (hc (Y + 2) b = hm 202 b ∧ 0 ≤ hm 202 b ∧ hm 202 b < 16 ∧ D (hm 202 b) ∧ hm 192 (hm 202 b) = 1 ∧ hm 193 (hm 202 b) = b)
theorem jBR_fr {Y b : Int} {D : Int → Prop} {hc hm hc' hm' : JH} (e : hc' (Y + 2) b = hc (Y + 2) b) (m : hm' 202 b = hm 202 b) (s : ∀ k : Int, k = hm 202 b → 0 ≤ k → k < 16 → hm' 192 k = hm 192 k ∧ hm' 193 k = hm 193 k) (q : jBR Y D b hc hm) : jBR Y D b hc' hm' := by
  unfold jBR at q ⊢
  rw [e, m]
  rcases q with q | q | ⟨q1, q2, q3, q4, q5, q6⟩
  · exact Or.inl q
  · exact Or.inr (Or.inl q)
  · obtain ⟨s1, s2⟩ := s _ rfl q2 q3
    exact Or.inr (Or.inr ⟨q1, q2, q3, q4, s1.trans q5, s2.trans q6⟩)
def jR2 (Y : Int) (D : Int → Prop) (hc hm : JH) : Prop :=
  (∀ g : Int, 0 ≤ g → g < 6 → hc (Y + 1) g = hm 181 g ∧ 0 ≤ hm 181 g ∧ hm 181 g ≤ 1000000) ∧
  (∀ b : Int, 0 ≤ b → b < 6 → jBR Y D b hc hm) ∧
  (∀ k : Int, D k → jHR (Y + 7) k hc hm)
/-- tasks -/
def jTK (hc hm : JH) : Prop := ∀ s b : Int, 0 ≤ s → s < 3 → 0 ≤ b → b < 6 → (hc (18 + s) b = hm 186 (6 * s + b) ∧ 0 ≤ hm 186 (6 * s + b) ∧ hm 186 (6 * s + b) ≤ 3) ∧ (hc (22 + s) b = hm 187 (6 * s + b) ∧ 0 ≤ hm 187 (6 * s + b) ∧ hm 187 (6 * s + b) ≤ 2000) ∧
  (∀ g : Int, 0 ≤ g → g < 6 → hc (26 + s) (b * 6 + g) = hm 188 (6 * (6 * s + b) + g) ∧ 0 ≤ hm 188 (6 * (6 * s + b) + g) ∧ hm 188 (6 * (6 * s + b) + g) ≤ 500)
theorem jTK_fr {hc hm hc' hm' : JH} (e : ∀ i k : Int, 18 ≤ i → i ≤ 28 → hc' i k = hc i k) (m : ∀ i k : Int, 186 ≤ i → i ≤ 188 → hm' i k = hm i k) (q : jTK hc hm) : jTK hc' hm' := fun s b h0 h1 h2 h3 => by
  obtain ⟨q1, q2, q3⟩ := q s b h0 h1 h2 h3
  rw [e (18 + s) b (by omega) (by omega), e (22 + s) b (by omega) (by omega), m 186 _ (by decide) (by decide), m 187 _ (by decide) (by decide)]
  refine ⟨q1, q2, fun g a c => ?_⟩
  rw [e (26 + s) _ (by omega) (by omega), m 188 _ (by decide) (by decide)]
  exact q3 g a c
/-- a berth is emptied -/
theorem jR_clr {Y b : Int} {D : Int → Prop} {hc hm : JH} (hY : Y = 29 ∨ Y = 119) (hD : ∀ k, D k → 0 ≤ k ∧ k < 16) (R : jR2 Y D hc hm) : jR2 Y D (jup hc (Y + 2) b (-1)) (jup hm 202 b (-1)) := by
  obtain ⟨r1, r2, r3⟩ := R
  refine ⟨fun g a c => ?_, fun b' a c => ?_, fun k hk => ?_⟩
  · rw [jup_ne (by omega), jup_ne (by omega)]; exact r1 g a c
  · by_cases z : b' = b
    · subst z; exact Or.inl ⟨jup_eq, jup_eq⟩
    · exact jBR_fr (jup_ne (by omega)) (jup_ne (by omega)) (fun k _ _ _ => ⟨jup_ne (by omega), jup_ne (by omega)⟩) (r2 b' a c)
  · have := hD k hk
    exact jHR_fr (fun f _ => jup_ne (by omega)) (fun f _ _ => jup_ne (by omega)) (fun f _ _ => jup_ne (by omega)) (fun i _ _ => jup_ne (by omega)) (fun i g _ _ _ _ => jup_ne (by omega)) (r3 k hk)
set_option maxHeartbeats 1000000 in
/-- a hull comes into a berth -/
theorem jR_ent {Y k b : Int} {D : Int → Prop} {hc hm : JH} (hY : Y = 29 ∨ Y = 119) (hD : ∀ k, D k → 0 ≤ k ∧ k < 16) (R : jR2 Y D hc hm) (T : jTK hc hm) (hk : D k) (hb : 0 ≤ b ∧ b < 6) (nk : ∀ b' : Int, 0 ≤ b' → b' < 6 → ¬ b' = b → ¬ hm 202 b' = k) :
    jR2 Y D (jBrt Y (Y + 2) (Y + 7) k b hc) (jmEnt k b hm) := by
  obtain ⟨r1, r2, r3⟩ := R
  have k16 := hD k hk
  have Hk := r3 k hk
  unfold jHR at Hk
  obtain ⟨⟨p0, p3, p4, p8, p9, pa, pb, pl⟩, q2, q3, q4, q5⟩ := Hk
  have C := jBrt_r (Y := Y) (k := k) (b := b) (h := hc) hY k16 (by rw [p0]; exact ⟨pa, pb⟩)
  have Mm := jmEnt_r (k := k) (b := b) (h := hm)
  rw [p0] at C
  obtain ⟨t1, t2, t3⟩ := T (hm 189 k) b pa (by omega) hb.1 hb.2
  generalize jBrt Y (Y + 2) (Y + 7) k b hc = X at C
  generalize jmEnt k b hm = Z at Mm
  obtain ⟨⟨cB, c3, c4, c5, c6, c7⟩, cn, ca, cf⟩ := C
  obtain ⟨⟨mB, m3, m4, m5, m6, m7⟩, mn, ma, mf⟩ := Mm
  refine ⟨fun g a c => ?_, fun b' a c => ?_, fun k' hk' => ?_⟩
  · rw [cf (Y + 1) g (by omega) (by omega) (by omega) (by omega) (by omega), mf 181 g (by omega) (by omega) (by omega)]; exact r1 g a c
  · by_cases z : b' = b
    · subst z
      refine Or.inr (Or.inr ?_)
      rw [mB]
      exact ⟨cB, k16.1, k16.2, hk, m3, m4⟩
    · have n := nk b' a c z
      refine jBR_fr (cf _ _ (by omega) (by omega) (by omega) (by omega) (by omega)) (mf _ _ (by omega) (by omega) (by omega)) (fun k2 e _ _ => ?_) (r2 b' a c)
      exact ⟨mf _ _ (by omega) (by omega) (by omega), mf _ _ (by omega) (by omega) (by omega)⟩
  · have k16' := hD k' hk'
    by_cases z : k' = k
    · subst z
      unfold jHR
      rw [c3, c4, c5, c6, c7, m3, m4, m5, m6, m7, cf _ 0 (by omega) (by omega) (by omega) (by omega) (by omega), cf _ 8 (by omega) (by omega) (by omega) (by omega) (by omega), cf _ 9 (by omega) (by omega) (by omega) (by omega) (by omega), mf 189 _ (by omega) (by omega) (by omega), mf 197 _ (by omega) (by omega) (by omega), mf 198 _ (by omega) (by omega) (by omega)]
      refine ⟨⟨p0, rfl, rfl, p8, p9, pa, pb, pl⟩, fun g a c => ?_, fun _ => ⟨t1.1, t2.1, rfl, t1.2.1, t1.2.2, t2.2.1, t2.2.2⟩, fun _ g a c => ?_, fun q => absurd rfl q⟩
      · rw [ca g a c, ma g a c, q2 g a c, (t3 g a c).1]
      · rw [cn g a c, mn g a c]; exact t3 g a c
    · exact jHR_fr (fun f _ => cf _ f (by omega) (by omega) (by omega) (by omega) (by omega)) (fun f _ _ => cf _ f (by omega) (by omega) (by omega) (by omega) (by omega)) (fun f _ _ => cf _ f (by omega) (by omega) (by omega) (by omega) (by omega)) (fun i _ _ => mf i k' (by omega) (by omega) (by omega)) (fun i g _ _ _ _ => mf i _ (by omega) (by omega) (by omega)) (r3 k' hk')
/-- a hull leaves -/
theorem jR_lv {Y k d : Int} {D : Int → Prop} {hc hm : JH} (hY : Y = 29 ∨ Y = 119) (hD : ∀ k, D k → 0 ≤ k ∧ k < 16) (R : jR2 Y D hc hm) (hk : D k) (nk : ∀ b' : Int, 0 ≤ b' → b' < 6 → ¬ hm 202 b' = k) (hw : hc (Y + 7 + 3 * k) 6 = 0) (hd : hm 176 0 = d) :
    jR2 Y D (jup (jLv (Y + 7 + 3 * k) d hc) Y 10 1) (jmLv k hm) := by
  obtain ⟨r1, r2, r3⟩ := R
  have k16 := hD k hk
  have C : ∀ i j : Int, jup (jLv (Y + 7 + 3 * k) d hc) Y 10 1 i j = if i = Y ∧ j = 10 then 1 else if i = Y + 7 + 3 * k ∧ j = 9 then d else if i = Y + 7 + 3 * k ∧ j = 7 then 0 else if i = Y + 7 + 3 * k ∧ j = 4 then -9 else if i = Y + 7 + 3 * k ∧ j = 3 then 2 else hc i j := fun i j => rfl
  have e0 : jup (jup hm 192 k 2) 193 k (-9) 176 0 = d := by rw [jup_ne (by omega), jup_ne (by omega)]; exact hd
  have Mm : ∀ i j : Int, jmLv k hm i j = if i = 198 ∧ j = k then d else if i = 193 ∧ j = k then -9 else if i = 192 ∧ j = k then 2 else hm i j := fun i j => by
    show (if i = 198 ∧ j = k then jup (jup hm 192 k 2) 193 k (-9) 176 0 else jup (jup hm 192 k 2) 193 k (-9) i j) = _
    rw [e0]; rfl
  generalize jup (jLv (Y + 7 + 3 * k) d hc) Y 10 1 = X at C
  generalize jmLv k hm = Z at Mm
  have cf : ∀ i j : Int, ¬ (i = Y ∧ j = 10) → ¬ (i = Y + 7 + 3 * k ∧ (j = 3 ∨ j = 4 ∨ j = 7 ∨ j = 9)) → X i j = hc i j := fun i j p q => by rw [C, if_neg (by omega), if_neg (by omega), if_neg (by omega), if_neg (by omega), if_neg (by omega)]
  have mf : ∀ i j : Int, ¬ (j = k ∧ (i = 192 ∨ i = 193 ∨ i = 198)) → Z i j = hm i j := fun i j q => by rw [Mm, if_neg (by omega), if_neg (by omega), if_neg (by omega)]
  refine ⟨fun g a c => ?_, fun b' a c => ?_, fun k' hk' => ?_⟩
  · rw [cf (Y + 1) g (by omega) (by omega), mf 181 g (by omega)]; exact r1 g a c
  · have n := nk b' a c
    refine jBR_fr (cf _ _ (by omega) (by omega)) (mf _ _ (by omega)) (fun k2 e _ _ => ?_) (r2 b' a c)
    exact ⟨mf _ _ (by omega), mf _ _ (by omega)⟩
  · have k16' := hD k' hk'
    by_cases z : k' = k
    · subst z
      have Hk := r3 k' hk'
      unfold jHR at Hk ⊢
      obtain ⟨⟨p0, p3, p4, p8, p9, pa, pb, pl⟩, q2, q3, q4, q5⟩ := Hk
      have c3 : X (Y + 7 + 3 * k') 3 = 2 := by rw [C, if_neg (by omega), if_neg (by omega), if_neg (by omega), if_neg (by omega), if_pos ⟨rfl, rfl⟩]
      have c4 : X (Y + 7 + 3 * k') 4 = -9 := by rw [C, if_neg (by omega), if_neg (by omega), if_neg (by omega), if_pos ⟨rfl, rfl⟩]
      have c7 : X (Y + 7 + 3 * k') 7 = 0 := by rw [C, if_neg (by omega), if_neg (by omega), if_pos ⟨rfl, rfl⟩]
      have c9 : X (Y + 7 + 3 * k') 9 = d := by rw [C, if_neg (by omega), if_pos ⟨rfl, rfl⟩]
      have z3 : Z 192 k' = 2 := by rw [Mm, if_neg (by omega), if_neg (by omega), if_pos ⟨rfl, rfl⟩]
      have z4 : Z 193 k' = -9 := by rw [Mm, if_neg (by omega), if_pos ⟨rfl, rfl⟩]
      have z9 : Z 198 k' = d := by rw [Mm, if_pos ⟨rfl, rfl⟩]
      rw [c3, c4, c7, c9, z3, z4, z9, cf _ 0 (by omega) (by omega), cf _ 6 (by omega) (by omega), cf _ 8 (by omega) (by omega), mf 189 _ (by omega), mf 197 _ (by omega)]
      refine ⟨⟨p0, rfl, rfl, p8, rfl, pa, pb, pl⟩, fun g a c => ?_, fun q => absurd q (by decide), fun q => absurd q (by decide), fun _ => ⟨hw, rfl⟩⟩
      rw [cf _ g (by omega) (by omega), mf 200 _ (by omega)]; exact q2 g a c
    · exact jHR_fr (fun f _ => cf _ f (by omega) (by omega)) (fun f _ _ => cf _ f (by omega) (by omega)) (fun f _ _ => cf _ f (by omega) (by omega)) (fun i _ _ => mf i k' (by omega)) (fun i g _ _ _ _ => mf i _ (by omega)) (r3 k' hk')
/-! frames of the moves -/
def jwC (Y i k : Int) : Prop := (i = Y ∧ 7 ≤ k ∧ k ≤ 10) ∨ i = Y + 1 ∨ i = Y + 2 ∨ i = Y + 6 ∨ (Y + 7 ≤ i ∧ i ≤ Y + 54 ∧ ¬ (0 ≤ k ∧ k ≤ 2 ∧ (i - Y - 7) % 3 = 0))
/-- none comes under way again -/
def jmo (hm hm' : JH) : Prop := ∀ k : Int, (hm' 192 k = 0 ∨ hm' 192 k = 1) → (hm 192 k = 0 ∨ hm 192 k = 1)
def jwM (i k : Int) : Prop := i = 181 ∨ (192 ≤ i ∧ i ≤ 200) ∨ i = 202 ∨ (i = 176 ∧ 30 ≤ k ∧ k ≤ 32)
theorem jBrt_f {Y k b : Int} {h : JH} (hY : Y = 29 ∨ Y = 119) (hk : 0 ≤ k ∧ k < 16) (hs : 0 ≤ h (Y + 7 + 3 * k) 0 ∧ h (Y + 7 + 3 * k) 0 ≤ 2) : jfr (jwC Y) h (jBrt Y (Y + 2) (Y + 7) k b h) := fun i j q => by
  unfold jwC at q
  exact (jBrt_r (b := b) hY hk hs).2.2.2 i j (by omega) (by omega) (by omega) (by omega) (by omega)
theorem jmEnt_f {k b : Int} {h : JH} : jfr jwM h (jmEnt k b h) := fun i j q => by
  unfold jwM at q
  exact jmEnt_r.2.2.2 i j (by omega) (by omega) (by omega)
set_option maxHeartbeats 1000000 in
/-- from basin b on -/
theorem jR_mv {Y b d : Int} {D : Int → Prop} {hc hm : JH} (hY : Y = 29 ∨ Y = 119) (hD : ∀ k, D k → 0 ≤ k ∧ k < 16) (R : jR2 Y D hc hm) (T : jTK hc hm) (hb : 0 ≤ b ∧ b < 6) (hd : hm 176 0 = d) :
    jR2 Y D (jMv Y (Y + 2) (Y + 7) d b hc) (jmMv b hm) ∧ jfr (jwC Y) hc (jMv Y (Y + 2) (Y + 7) d b hc) ∧ jfr jwM hm (jmMv b hm) ∧ jmo hm (jmMv b hm) := by
  have r2 := R.2.1 b hb.1 hb.2
  unfold jMv jmMv
  unfold jBR at r2
  rcases r2 with ⟨z1, z2⟩ | ⟨z1, z2⟩ | ⟨z1, z2, z3, z4, z5, z6⟩
  · rw [if_pos (Or.inl (by omega)), if_pos (Or.inl (by omega))]; exact ⟨R, jfr_rf _ _, jfr_rf _ _, fun _ q => q⟩
  · rw [if_pos (Or.inl (by omega)), if_pos (Or.inr (Or.inl z2))]; exact ⟨R, jfr_rf _ _, jfr_rf _ _, fun _ q => q⟩
  · rw [z1]
    generalize hk : hm 202 b = k at z1 z2 z3 z4 z5 z6 ⊢
    have Hk := R.2.2 k z4
    unfold jHR at Hk
    obtain ⟨⟨p0, p3, p4, p8, p9, pa, pb, pl⟩, q2, q3, q4, q5⟩ := Hk
    obtain ⟨y5, y6, y7, y8, y9, yw, _⟩ := q3 z5
    by_cases c : hc (Y + 7 + 3 * k) 7 = 0 ∨ ¬ hc (Y + 7 + 3 * k) 6 = 0
    · rw [if_pos (Or.inr c), if_pos (Or.inr (Or.inr (by omega)))]; exact ⟨R, jfr_rf _ _, jfr_rf _ _, fun _ q => q⟩
    · rw [if_neg (show ¬ (k < 0 ∨ hc (Y + 7 + 3 * k) 7 = 0 ∨ ¬ hc (Y + 7 + 3 * k) 6 = 0) by omega), if_neg (show ¬ (k < 0 ∨ k = 100 ∨ hm 196 k = 0 ∨ 0 < hm 195 k) by omega)]
      have R1 := jR_clr (b := b) hY hD R
      have o : ∀ b' : Int, 0 ≤ b' → b' < 6 → ¬ jup hm 202 b (-1) 202 b' = k := fun b' a e => by
        by_cases w : b' = b
        · rw [w, jup_eq]; omega
        · rw [jup_ne (by omega)]
          have r := R.2.1 b' a e
          unfold jBR at r
          intro x
          rw [x] at r
          rcases r with r | r | r <;> omega
      have fc : jfr (jwC Y) hc (jup hc (Y + 2) b (-1)) := jfr_up (jfr_rf _ _) rfl (by unfold jwC; omega)
      have fm : jfr jwM hm (jup hm 202 b (-1)) := jfr_up (jfr_rf _ _) rfl (by unfold jwM; omega)
      by_cases b5 : b = 5
      · rw [if_pos b5, if_pos b5]
        refine ⟨jR_lv hY hD R1 z4 o (by rw [jup_ne (by omega)]; omega) (by rw [jup_ne (by omega)]; exact hd), ?_, ?_, fun j q => ?_⟩
        · refine jfr_up ?_ rfl (by unfold jwC; omega)
          unfold jLv
          exact jfr_up (jfr_up (jfr_up (jfr_up fc rfl (by unfold jwC; omega)) rfl (by unfold jwC; omega)) rfl (by unfold jwC; omega)) rfl (by unfold jwC; omega)
        · unfold jmLv
          exact jfr_up (jfr_up (jfr_up fm rfl (by unfold jwM; omega)) rfl (by unfold jwM; omega)) rfl (by unfold jwM; omega)
        · by_cases y : j = k
          · exact Or.inr (by rw [y]; exact z5)
          · unfold jmLv at q
            rw [jup_ne (by omega), jup_ne (by omega), jup_ne (by omega), jup_ne (by omega)] at q
            exact q
      · rw [if_neg b5, if_neg b5]
        have rn := R.2.1 (b + 1) (by omega) (by omega)
        have e : hc (Y + 2) (b + 1) = -1 ↔ hm 202 (b + 1) < 0 := by
          unfold jBR at rn
          rcases rn with r | r | r <;> omega
        by_cases w : hc (Y + 2) (b + 1) = -1
        · rw [if_pos w, if_pos (e.1 w)]
          have T1 : jTK (jup hc (Y + 2) b (-1)) (jup hm 202 b (-1)) := jTK_fr (fun i k _ _ => jup_ne (by omega)) (fun i k _ _ => jup_ne (by omega)) T
          have u0 : jup hc (Y + 2) b (-1) (Y + 7 + 3 * k) 0 = hc (Y + 7 + 3 * k) 0 := jup_ne (by omega)
          refine ⟨jR_ent hY hD R1 T1 z4 (by omega) (fun b' a c' _ => o b' a c'), ?_, ?_, fun j q => ?_⟩
          · exact jfr_tr fc (jBrt_f hY ⟨z2, z3⟩ (by rw [u0]; omega)) (fun i k q => q)
          · exact jfr_tr fm jmEnt_f (fun i k q => q)
          · by_cases y : j = k
            · exact Or.inr (by rw [y]; exact z5)
            · rw [jmEnt_r.2.2.2 192 j (by omega) (by omega) (by omega), jup_ne (by omega)] at q
              exact q
        · rw [if_neg w, if_neg (fun x => w (e.2 x))]; exact ⟨R, jfr_rf _ _, jfr_rf _ _, fun _ q => q⟩
theorem jTK_f {Y : Int} {hc hm hc' hm' : JH} (hY : Y = 29 ∨ Y = 119) (fc : jfr (jwC Y) hc hc') (fm : jfr jwM hm hm') (T : jTK hc hm) : jTK hc' hm' :=
  jTK_fr (fun i k a b => fc i k (by unfold jwC; omega)) (fun i k a b => fm i k (by unfold jwM; omega)) T
/-- all moves -/
theorem jR_ma {Y d : Int} {D : Int → Prop} {hc hm : JH} (hY : Y = 29 ∨ Y = 119) (hD : ∀ k, D k → 0 ≤ k ∧ k < 16) (R : jR2 Y D hc hm) (T : jTK hc hm) (hd : hm 176 0 = d) : ∀ n : Nat, n ≤ 6 →
    jR2 Y D (jit (jMvr Y (Y + 2) (Y + 7) d) n hc) (jit jmMr n hm) ∧ jfr (jwC Y) hc (jit (jMvr Y (Y + 2) (Y + 7) d) n hc) ∧ jfr jwM hm (jit jmMr n hm) ∧ jmo hm (jit jmMr n hm)
  | 0, _ => ⟨R, jfr_rf _ _, jfr_rf _ _, fun _ q => q⟩
  | n + 1, hn => by
      obtain ⟨i1, i2, i3, i4⟩ := jR_ma hY hD R T hd n (by omega)
      have e : (jit jmMr n hm) 176 0 = d := (i3 176 0 (by unfold jwM; omega)).trans hd
      obtain ⟨s1, s2, s3, s4⟩ := jR_mv (b := 5 - (n : Int)) hY hD i1 (jTK_f hY i2 i3 T) (by omega) e
      exact ⟨s1, jfr_tr i2 s2 (fun _ _ q => q), jfr_tr i3 s3 (fun _ _ q => q), fun k q => i4 k (s4 k q)⟩
/-! ===== WHAT ALL TASKS NEEDED STAYS SMALL ===== -/
def jNd (hm : JH) : Prop := (∀ k g : Int, 0 ≤ k → k < 16 → 0 ≤ g → g < 6 → 0 ≤ hm 200 (6 * k + g) ∧ hm 200 (6 * k + g) ≤ 500 * (if hm 192 k = 0 then 0 else if hm 192 k = 1 then hm 193 k + 1 else 6)) ∧ ∀ k : Int, 0 ≤ k → hm 176 14 ≤ k → k < 16 → hm 192 k = 0
theorem jNd_fr {hm hm' : JH} (e : ∀ i j : Int, (192 ≤ i ∧ i ≤ 193 ∧ 0 ≤ j ∧ j < 16) ∨ (i = 200 ∧ 0 ≤ j ∧ j < 96) ∨ (i = 176 ∧ j = 14) → hm' i j = hm i j) (N : jNd hm) : jNd hm' := ⟨fun k g a b c d => by
  rw [e 200 _ (by omega), e 192 k (by omega), e 193 k (by omega)]; exact N.1 k g a b c d, fun k c a b => by
  rw [e 192 k (by omega)]; exact N.2 k c (by rw [e 176 14 (by omega)] at a; exact a) b⟩
theorem jNd_ent {k b : Int} {hm : JH} (N : jNd hm) (hk : 0 ≤ k ∧ k < 16) (hN : k < hm 176 14) (hb : 0 ≤ b ∧ b < 6) (hs : (hm 192 k = 0 ∧ b = 0) ∨ (hm 192 k = 1 ∧ hm 193 k + 1 = b)) (ht : ∀ g : Int, 0 ≤ g → g < 6 → 0 ≤ hm 188 (6 * (6 * hm 189 k + b) + g) ∧ hm 188 (6 * (6 * hm 189 k + b) + g) ≤ 500) : jNd (jmEnt k b hm) := by
  obtain ⟨⟨mB, m3, m4, m5, m6, m7⟩, mn, ma, mf⟩ := jmEnt_r (k := k) (b := b) (h := hm)
  refine ⟨fun k' g h0 h1 h2 h3 => ?_, fun k' h00 h0 h1 => ?_⟩
  rotate_left
  · rw [mf 176 14 (by omega) (by omega) (by omega)] at h0
    rw [mf 192 k' (by omega) (by omega) (by omega)]; exact N.2 k' h00 h0 h1
  by_cases z : k' = k
  · subst z
    have n := N.1 k' g h0 h1 h2 h3
    have t := ht g h2 h3
    rw [ma g h2 h3, m3, m4, if_neg (by decide), if_pos rfl]
    have u : hm 200 (6 * k' + g) ≤ 500 * b := by
      rcases hs with ⟨s1, s2⟩ | ⟨s1, s2⟩
      · rw [if_pos s1] at n; omega
      · rw [if_neg (by omega), if_pos s1] at n; omega
    rw [j32e (x := hm 200 (6 * k' + g) + hm 188 (6 * (6 * hm 189 k' + b) + g)) (by omega) (by omega)]
    omega
  · rw [mf 200 _ (by omega) (by omega) (by omega), mf 192 k' (by omega) (by omega) (by omega), mf 193 k' (by omega) (by omega) (by omega)]
    exact N.1 k' g h0 h1 h2 h3
theorem jNd_lv {k : Int} {hm : JH} (N : jNd hm) (hs : hm 192 k = 1 ∧ hm 193 k ≤ 5) : jNd (jmLv k hm) := by
  refine ⟨fun k' g h0 h1 h2 h3 => ?_, fun k' h00 h0 h1 => ?_⟩
  rotate_left
  · unfold jmLv at h0 ⊢
    rw [jup_ne (by omega), jup_ne (by omega), jup_ne (by omega)] at h0
    have q := N.2 k' h00 h0 h1
    have z : ¬ k' = k := fun z => by rw [z] at q; omega
    rw [jup_ne (by omega), jup_ne (by omega), jup_ne (by omega)]; exact q
  have n := N.1 k' g h0 h1 h2 h3
  unfold jmLv
  rw [jup_ne (by omega), jup_ne (by omega), jup_ne (by omega)]
  by_cases z : k' = k
  · subst z
    rw [if_neg (by omega), if_pos hs.1] at n
    have e : jup (jup (jup hm 192 k' 2) 193 k' (-9)) 198 k' (jup (jup hm 192 k' 2) 193 k' (-9) 176 0) 192 k' = 2 := by rw [jup_ne (by omega), jup_ne (by omega), jup_eq]
    rw [e, if_neg (by decide), if_neg (by decide)]
    omega
  · rw [jup_ne (show ¬ ((192 : Int) = 198 ∧ k' = k) by omega), jup_ne (show ¬ ((192 : Int) = 193 ∧ k' = k) by omega), jup_ne (show ¬ ((192 : Int) = 192 ∧ k' = k) by omega), jup_ne (show ¬ ((193 : Int) = 198 ∧ k' = k) by omega), jup_ne (show ¬ ((193 : Int) = 193 ∧ k' = k) by omega), jup_ne (show ¬ ((193 : Int) = 192 ∧ k' = k) by omega)]
    exact n
theorem jNd_mv {Y b : Int} {D : Int → Prop} {hc hm : JH} (hD : ∀ k, D k → 0 ≤ k ∧ k < 16) (R : jR2 Y D hc hm) (T : jTK hc hm) (hb : 0 ≤ b ∧ b < 6) (N : jNd hm) : jNd (jmMv b hm) := by
  have r2 := R.2.1 b hb.1 hb.2
  unfold jmMv
  by_cases c : hm 202 b < 0 ∨ hm 202 b = 100 ∨ hm 196 (hm 202 b) = 0 ∨ 0 < hm 195 (hm 202 b)
  · rw [if_pos c]; exact N
  · rw [if_neg c]
    have N1 : jNd (jup hm 202 b (-1)) := jNd_fr (fun i j q => jup_ne (by omega)) N
    unfold jBR at r2
    rcases r2 with ⟨z1, z2⟩ | ⟨z1, z2⟩ | ⟨z1, z2, z3, z4, z5, z6⟩
    · omega
    · omega
    · generalize hm 202 b = k at z1 z2 z3 z4 z5 z6 c ⊢
      have p := (R.2.2 k z4).1
      have hN : k < hm 176 14 := by
        by_cases y : k < hm 176 14
        · exact y
        · have := N.2 k z2 (by omega) z3; omega
      by_cases b5 : b = 5
      · rw [if_pos b5]
        exact jNd_lv N1 (by rw [jup_ne (by omega), jup_ne (by omega)]; omega)
      · rw [if_neg b5]
        by_cases w : hm 202 (b + 1) < 0
        · rw [if_pos w]
          refine jNd_ent N1 ⟨z2, z3⟩ (by rw [jup_ne (by omega)]; exact hN) (by omega) (by rw [jup_ne (by omega), jup_ne (by omega)]; omega) (fun g a c => ?_)
          rw [jup_ne (by omega), jup_ne (by omega)]
          exact ((T (hm 189 k) (b + 1) (by omega) (by omega) (by omega) (by omega)).2.2 g a c).2
        · rw [if_neg w]; exact N
theorem jNd_ma {Y d : Int} {D : Int → Prop} {hc hm : JH} (hY : Y = 29 ∨ Y = 119) (hD : ∀ k, D k → 0 ≤ k ∧ k < 16) (R : jR2 Y D hc hm) (T : jTK hc hm) (hd : hm 176 0 = d) (N : jNd hm) : ∀ n : Nat, n ≤ 6 → jNd (jit jmMr n hm)
  | 0, _ => N
  | n + 1, hn => by
      obtain ⟨i1, i2, i3, _⟩ := jR_ma hY hD R T hd n (by omega)
      exact jNd_mv (b := 5 - (n : Int)) hD i1 (jTK_f hY i2 i3 T) (by omega) (jNd_ma hY hD R T hd N n (by omega))
