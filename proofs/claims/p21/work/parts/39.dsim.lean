/-! ===== GOODS ===== -/
theorem jTs_r {S v : Int} {h : JH} (hv : ¬ v = S) : ∀ n : Nat, (∀ g : Int, 0 ≤ g → g < n → jit (jTs S v) n h S g = jw32 (h S g - h v g)) ∧ (∀ i k : Int, ¬ (i = S ∧ 0 ≤ k ∧ k < n) → jit (jTs S v) n h i k = h i k)
  | 0 => ⟨fun g a c => absurd c (by omega), fun i k _ => rfl⟩
  | n + 1 => by
      obtain ⟨i1, i2⟩ := jTs_r (h := h) hv n
      have st : jit (jTs S v) (n + 1) h = jup (jit (jTs S v) n h) S n (jw32 (jit (jTs S v) n h S n - jit (jTs S v) n h v n)) := rfl
      rw [st]
      generalize jit (jTs S v) n h = G at i1 i2
      rw [i2 S n (by omega), i2 v n (by omega)]
      refine ⟨fun g a c => ?_, fun i k q => ?_⟩
      · by_cases z : g = (n : Int)
        · rw [z]; exact jup_eq
        · rw [jup_ne (by omega)]; exact i1 g a (by omega)
      · rw [jup_ne (by omega)]; exact i2 i k (by omega)
theorem jmTs_r {k : Int} {h : JH} : ∀ n : Nat, (∀ g : Int, 0 ≤ g → g < n → jit (jmTs k) n h 181 g = jw32 (h 181 g - h 199 (6 * k + g))) ∧ (∀ i j : Int, ¬ (i = 181 ∧ 0 ≤ j ∧ j < n) → jit (jmTs k) n h i j = h i j)
  | 0 => ⟨fun g a c => absurd c (by omega), fun i k _ => rfl⟩
  | n + 1 => by
      obtain ⟨i1, i2⟩ := jmTs_r (k := k) (h := h) n
      have st : jit (jmTs k) (n + 1) h = jup (jit (jmTs k) n h) 181 n (jw32 (jit (jmTs k) n h 181 n - jit (jmTs k) n h 199 (6 * k + n))) := rfl
      rw [st]
      generalize jit (jmTs k) n h = G at i1 i2
      rw [i2 181 n (by omega), i2 199 _ (by omega)]
      refine ⟨fun g a c => ?_, fun i j q => ?_⟩
      · by_cases z : g = (n : Int)
        · rw [z]; exact jup_eq
        · rw [jup_ne (by omega)]; exact i1 g a (by omega)
      · rw [jup_ne (by omega)]; exact i2 i j (by omega)
def jwG (i _k : Int) : Prop := i = 181 ∨ i = 196 ∨ i = 197
theorem jmTf_r {k a : Int} {h : JH} : ∀ i j : Int, jmTf k a h i j = if i = 197 ∧ j = k then jw32 (h 197 k + (if a = 0 then 1 else 0)) else if i = 196 ∧ j = k then a else h i j := fun i j => by
  have e : jup h 196 k a 197 k = h 197 k := jup_ne (by omega)
  show (if i = 197 ∧ j = k then jw32 (jup h 196 k a 197 k + (if a = 0 then 1 else 0)) else jup h 196 k a i j) = _
  rw [e]; rfl
theorem jmGo_f {k : Int} {h : JH} : jfr jwG h (jmGo k h) := fun i j q => by
  unfold jwG at q
  unfold jmGo jmTk
  by_cases z : h 196 k = 0
  · rw [if_pos z]
    by_cases y : jmAl k h
    · rw [if_pos y, jmTf_r, if_neg (by omega), if_neg (by omega)]; exact (jmTs_r 6).2 i j (by omega)
    · rw [if_neg y, jmTf_r, if_neg (by omega), if_neg (by omega)]
  · rw [if_neg z]
set_option maxHeartbeats 1000000 in
theorem jR_tg {Y i k : Int} {D : Int → Prop} {hc hm : JH} (hY : Y = 29 ∨ Y = 119) (hD : ∀ k, D k → 0 ≤ k ∧ k < 16) (R : jR2 Y D hc hm) (hk : D k) (hl : hc (Y + 5) i = k) (h1 : hm 192 k = 1) :
    jR2 Y D (jTg Y (Y + 1) (Y + 7) (Y + 5) i hc) (jmGo k hm) ∧ jfr (jwC Y) hc (jTg Y (Y + 1) (Y + 7) (Y + 5) i hc) := by
  obtain ⟨r1, r2, r3⟩ := R
  have k16 := hD k hk
  have Hk := r3 k hk
  unfold jHR at Hk
  obtain ⟨⟨p0, p3, p4, p8, p9, pa, pb, pl⟩, q2, q3, q4, q5⟩ := Hk
  obtain ⟨y5, y6, y7, y8, y9, yw⟩ := q3 h1
  have y4 := q4 h1
  unfold jTg jmGo
  rw [hl]
  by_cases t : hc (Y + 7 + 3 * k) 7 = 0
  · rw [if_neg (show ¬ (¬ hc (Y + 7 + 3 * k) 3 = 1 ∨ ¬ hc (Y + 7 + 3 * k) 7 = 0) by omega), if_pos (show hm 196 k = 0 by omega)]
    unfold jmTk
    have n0 := y4 0 (by decide) (by decide); have n1 := y4 1 (by decide) (by decide); have n2 := y4 2 (by decide) (by decide); have n3 := y4 3 (by decide) (by decide); have n4 := y4 4 (by decide) (by decide); have n5 := y4 5 (by decide) (by decide)
    have s0 := r1 0 (by decide) (by decide); have s1 := r1 1 (by decide) (by decide); have s2 := r1 2 (by decide) (by decide); have s3 := r1 3 (by decide) (by decide); have s4 := r1 4 (by decide) (by decide); have s5 := r1 5 (by decide) (by decide)
    by_cases al : jmAl k hm
    · have al2 : jAl (Y + 1) (Y + 7 + 3 * k + 1) hc := by
        obtain ⟨a0, a1, a2, a3, a4, a5⟩ := al
        refine ⟨?_, ?_, ?_, ?_, ?_, ?_⟩ <;> omega
      rw [if_pos al2, if_pos al]
      have le : ∀ g : Int, 0 ≤ g → g < 6 → hm 199 (6 * k + g) ≤ hm 181 g := fun g a b => by
        obtain ⟨a0, a1, a2, a3, a4, a5⟩ := al
        have q : g = 0 ∨ g = 1 ∨ g = 2 ∨ g = 3 ∨ g = 4 ∨ g = 5 := by omega
        rcases q with rfl | rfl | rfl | rfl | rfl | rfl <;> assumption
      obtain ⟨c1, c2⟩ := jTs_r (S := Y + 1) (v := Y + 7 + 3 * k + 1) (h := hc) (by omega) 6
      obtain ⟨m1, m2⟩ := jmTs_r (k := k) (h := hm) 6
      generalize jit (jTs (Y + 1) (Y + 7 + 3 * k + 1)) 6 hc = G at c1 c2
      generalize jit (jmTs k) 6 hm = Z at m1 m2
      have C : ∀ i j : Int, jup (jup G (Y + 7 + 3 * k) 7 1) Y 10 1 i j = if i = Y ∧ j = 10 then 1 else if i = Y + 7 + 3 * k ∧ j = 7 then 1 else G i j := fun i j => rfl
      have Mm := fun i j => jmTf_r (k := k) (a := 1) (h := Z) i j
      rw [if_neg (by decide)] at Mm
      generalize jup (jup G (Y + 7 + 3 * k) 7 1) Y 10 1 = X at C
      generalize jmTf k 1 Z = V at Mm
      have cf : ∀ i j : Int, ¬ (i = Y ∧ j = 10) → ¬ (i = Y + 7 + 3 * k ∧ j = 7) → ¬ (i = Y + 1 ∧ 0 ≤ j ∧ j < 6) → X i j = hc i j := fun i j a b c => by rw [C, if_neg a, if_neg b]; exact c2 i j c
      have mf : ∀ i j : Int, ¬ (i = 197 ∧ j = k) → ¬ (i = 196 ∧ j = k) → ¬ (i = 181 ∧ 0 ≤ j ∧ j < 6) → V i j = hm i j := fun i j a b c => by rw [Mm, if_neg a, if_neg b]; exact m2 i j c
      have l9 : V 197 k = hm 197 k := by rw [Mm, if_pos ⟨rfl, rfl⟩, m2 197 k (by omega), Int.add_zero]; exact j32e (by omega) (by omega)
      refine ⟨⟨fun g a b => ?_, fun b a c => ?_, fun k' hk' => ?_⟩, fun i j q => ?_⟩
      · rw [C, if_neg (by omega), if_neg (by omega), c1 g a b, Mm, if_neg (by omega), if_neg (by omega), m1 g a b]
        have u1 := y4 g a b; have u2 := r1 g a b; have u3 := le g a b
        rw [u2.1, u1.1]
        have e : jw32 (hm 181 g - hm 199 (6 * k + g)) = hm 181 g - hm 199 (6 * k + g) := j32e (by omega) (by omega)
        exact ⟨rfl, by omega, by omega⟩
      · exact jBR_fr (cf _ _ (by omega) (by omega) (by omega)) (mf _ _ (by omega) (by omega) (by omega)) (fun k2 _ _ _ => ⟨mf _ _ (by omega) (by omega) (by omega), mf _ _ (by omega) (by omega) (by omega)⟩) (r2 b a c)
      · have k16' := hD k' hk'
        by_cases z : k' = k
        · subst z
          unfold jHR
          have c7 : X (Y + 7 + 3 * k') 7 = 1 := by rw [C, if_neg (by omega), if_pos ⟨rfl, rfl⟩]
          have m7 : V 196 k' = 1 := by rw [Mm, if_neg (by omega), if_pos ⟨rfl, rfl⟩]
          rw [c7, m7, l9, cf _ 0 (by omega) (by omega) (by omega), cf _ 3 (by omega) (by omega) (by omega), cf _ 4 (by omega) (by omega) (by omega), cf _ 5 (by omega) (by omega) (by omega), cf _ 6 (by omega) (by omega) (by omega), cf _ 8 (by omega) (by omega) (by omega), cf _ 9 (by omega) (by omega) (by omega), mf 189 _ (by omega) (by omega) (by omega), mf 192 _ (by omega) (by omega) (by omega), mf 193 _ (by omega) (by omega) (by omega), mf 194 _ (by omega) (by omega) (by omega), mf 195 _ (by omega) (by omega) (by omega), mf 198 _ (by omega) (by omega) (by omega)]
          refine ⟨⟨p0, p3, p4, p8, p9, pa, pb, pl⟩, fun g a b => ?_, fun _ => ⟨y5, y6, rfl, y8, y9, yw⟩, fun z g a b => ?_, fun z => absurd h1 z⟩
          · rw [cf _ g (by omega) (by omega) (by omega), mf 200 _ (by omega) (by omega) (by omega)]; exact q2 g a b
          · rw [cf _ g (by omega) (by omega) (by omega), mf 199 _ (by omega) (by omega) (by omega)]; exact y4 g a b
        · exact jHR_fr (fun f _ => cf _ f (by omega) (by omega) (by omega)) (fun f _ _ => cf _ f (by omega) (by omega) (by omega)) (fun f _ _ => cf _ f (by omega) (by omega) (by omega)) (fun i _ _ => mf i k' (by omega) (by omega) (by omega)) (fun i g _ _ _ _ => mf i _ (by omega) (by omega) (by omega)) (r3 k' hk')
      · unfold jwC at q
        exact cf i j (by omega) (by omega) (by omega)
    · have al2 : ¬ jAl (Y + 1) (Y + 7 + 3 * k + 1) hc := fun x => al (by
        obtain ⟨a0, a1, a2, a3, a4, a5⟩ := x
        refine ⟨?_, ?_, ?_, ?_, ?_, ?_⟩ <;> omega)
      rw [if_neg al2, if_neg al]
      have C : ∀ i j : Int, jup hc (Y + 7 + 3 * k) 8 (jw32 (hc (Y + 7 + 3 * k) 8 + 1)) i j = if i = Y + 7 + 3 * k ∧ j = 8 then jw32 (hc (Y + 7 + 3 * k) 8 + 1) else hc i j := fun i j => rfl
      have Mm := fun i j => jmTf_r (k := k) (a := 0) (h := hm) i j
      rw [if_pos rfl] at Mm
      have rr := j32_r (hm 197 k + 1)
      unfold jR32 at rr
      rw [p8] at C ⊢
      generalize jup hc (Y + 7 + 3 * k) 8 (jw32 (hm 197 k + 1)) = X at C
      generalize jmTf k 0 hm = V at Mm
      have cf : ∀ i j : Int, ¬ (i = Y + 7 + 3 * k ∧ j = 8) → X i j = hc i j := fun i j a => by rw [C, if_neg a]
      have mf : ∀ i j : Int, ¬ (i = 197 ∧ j = k) → ¬ (i = 196 ∧ j = k) → V i j = hm i j := fun i j a b => by rw [Mm, if_neg a, if_neg b]
      refine ⟨⟨fun g a b => ?_, fun b a c => ?_, fun k' hk' => ?_⟩, fun i j q => ?_⟩
      · rw [cf _ _ (by omega), mf _ _ (by omega) (by omega)]; exact r1 g a b
      · exact jBR_fr (cf _ _ (by omega)) (mf _ _ (by omega) (by omega)) (fun k2 _ _ _ => ⟨mf _ _ (by omega) (by omega), mf _ _ (by omega) (by omega)⟩) (r2 b a c)
      · have k16' := hD k' hk'
        by_cases z : k' = k
        · subst z
          unfold jHR
          have c8 : X (Y + 7 + 3 * k') 8 = jw32 (hm 197 k' + 1) := by rw [C, if_pos ⟨rfl, rfl⟩]
          have m8 : V 197 k' = jw32 (hm 197 k' + 1) := by rw [Mm, if_pos ⟨rfl, rfl⟩]
          have m7 : V 196 k' = 0 := by rw [Mm, if_neg (by omega), if_pos ⟨rfl, rfl⟩]
          rw [c8, m8, m7, cf _ 0 (by omega), cf _ 3 (by omega), cf _ 4 (by omega), cf _ 5 (by omega), cf _ 6 (by omega), cf _ 7 (by omega), cf _ 9 (by omega), mf 189 _ (by omega) (by omega), mf 192 _ (by omega) (by omega), mf 193 _ (by omega) (by omega), mf 194 _ (by omega) (by omega), mf 195 _ (by omega) (by omega), mf 198 _ (by omega) (by omega)]
          refine ⟨⟨p0, p3, p4, rfl, p9, pa, pb, rr⟩, fun g a b => ?_, fun _ => ⟨y5, y6, t, y8, y9, yw⟩, fun z g a b => ?_, fun z => absurd h1 z⟩
          · rw [cf _ g (by omega), mf 200 _ (by omega) (by omega)]; exact q2 g a b
          · rw [cf _ g (by omega), mf 199 _ (by omega) (by omega)]; exact y4 g a b
        · exact jHR_fr (fun f _ => cf _ f (by omega)) (fun f _ _ => cf _ f (by omega)) (fun f _ _ => cf _ f (by omega)) (fun i _ _ => mf i k' (by omega) (by omega)) (fun i g _ _ _ _ => mf i _ (by omega) (by omega)) (r3 k' hk')
      · unfold jwC at q
        exact cf i j (by omega)
  · rw [if_pos (Or.inr t), if_neg (show ¬ hm 196 k = 0 by omega)]; exact ⟨⟨r1, r2, r3⟩, jfr_rf _ _⟩
/-- goods, one way along the line -/
theorem jR_ga {Y : Int} {D : Int → Prop} {hc hm : JH} (hY : Y = 29 ∨ Y = 119) (hD : ∀ k, D k → 0 ≤ k ∧ k < 16) (R : jR2 Y D hc hm) (L : jLn Y D hc hm) (h6 : 0 ≤ hc Y 6 ∧ hc Y 6 ≤ 16) :
    jR2 Y D (jP3 Y (Y + 1) (Y + 7) (Y + 5) hc) (jmGA hm) ∧ jfr (jwC Y) hc (jP3 Y (Y + 1) (Y + 7) (Y + 5) hc) ∧ jfr jwG hm (jmGA hm) := by
  unfold jP3 jmGA
  refine jch_sim (n := hc Y 6) (ln := hc (Y + 5)) (IN := fun k => hm 192 k = 1) (fun i s => jR2 Y D (jit (jTg Y (Y + 1) (Y + 7) (Y + 5)) i.toNat hc) s ∧ jfr (jwC Y) hc (jit (jTg Y (Y + 1) (Y + 7) (Y + 5)) i.toNat hc) ∧ jfr jwG hm s)
    (fun i a b => (hD _ (L.1 i a b).1).1) (fun i s a b q => ?_) (fun i s a b z q => ?_) (fun i s a b z q => ?_) (hc Y 6).toNat 0 1700 hm _ (Int.le_refl _) (by omega) (by omega) ⟨R, jfr_rf _ _, jfr_rf _ _⟩ ?_
  · have e : jnx (hc (Y + 5) i) s = jfb hm (hc (Y + 5) i) 1 (hm 176 14).toNat := by
      unfold jnx
      rw [q.2.2 176 14 (by unfold jwG; omega)]
      exact jfb_c (fun k => q.2.2 192 k (by unfold jwG; omega)) (fun k => q.2.2 190 k (by unfold jwG; omega)) _
    rw [e]
    exact jFI_nx hD (Or.inr rfl) L (Or.inr ⟨by omega, by omega, by rw [show i + 1 - 1 = i by omega]⟩)
  · obtain ⟨q1, q2, q3⟩ := q
    rw [jit_s a]
    have l := q2 (Y + 5) i (by unfold jwC; omega)
    have s1 : s 192 (hc (Y + 5) i) = 1 := (q3 192 _ (by unfold jwG; omega)).trans z
    obtain ⟨t1, t2⟩ := jR_tg hY hD q1 (L.1 i a b).1 l s1
    exact ⟨t1, jfr_tr q2 t2 (fun _ _ w => w), jfr_tr q3 jmGo_f (fun _ _ w => w)⟩
  · obtain ⟨q1, q2, q3⟩ := q
    rw [jit_s a]
    have l := q2 (Y + 5) i (by unfold jwC; omega)
    have s1 := (q1.2.2 _ (L.1 i a b).1).1.2.1
    have s2 := q3 192 (hc (Y + 5) i) (by unfold jwG; omega)
    have e : jTg Y (Y + 1) (Y + 7) (Y + 5) i (jit (jTg Y (Y + 1) (Y + 7) (Y + 5)) i.toNat hc) = jit (jTg Y (Y + 1) (Y + 7) (Y + 5)) i.toNat hc := by
      generalize jit (jTg Y (Y + 1) (Y + 7) (Y + 5)) i.toNat hc = G at l s1
      unfold jTg
      rw [l, s1, s2]
      exact if_pos (Or.inl z)
    rw [e]
    exact ⟨q1, q2, q3⟩
  · exact jFI_nx hD (Or.inr rfl) L (Or.inl ⟨by decide, rfl⟩)
