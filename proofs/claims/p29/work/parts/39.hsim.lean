/-! ===== A DAY OF THE CLASS AND ONE OF THE REFERENCE ===== -/
def jDn (n k : Int) : Prop := 0 ≤ k ∧ k < n
def jTr (hc hm : JH) : Prop := hc 84 0 = hm 176 34 ∧ (∀ t : Int, 0 ≤ t → t < hm 176 34 → hc 85 t = hm 205 t ∧ hc 87 t = hm 207 t ∧ (hc 88 t = -9 ↔ hm 208 t < 0) ∧ 0 ≤ hm 205 t ∧ hm 205 t < 3) ∧ (∀ w : Int, 0 ≤ w → w < 3 → hc 90 w = hm 204 w)
def jCF (hc hm : JH) : Prop := (∀ c d : Int, 0 ≤ c → c < 4 → 0 ≤ d → jHd hc c d = jHm hm c d ∧ -1 ≤ hc 4 c ∧ hc 4 c ≤ 3) ∧ jSrt hc ∧ (∀ k c d : Int, 0 ≤ k → k < 4 → 0 ≤ c → c < 4 → jcF hc (jsl k c) d = jmFv hm k c d)
def jDR (fl : Prop) (hc hm : JH) : Prop :=
  (hc 29 4 = hm 176 14 ∧ 0 ≤ hm 176 14 ∧ hm 176 14 ≤ 16 ∧ hc 0 0 = hm 176 0 ∧ 0 ≤ hm 176 0 ∧ jNd hm) ∧ jR2 29 (jDn 16) hc hm ∧ jTK hc hm ∧ (∀ k : Int, 0 ≤ k → k < 16 → hc (36 + 3 * k) 1 = hm 190 k ∧ hc (36 + 3 * k) 2 = hm 191 k) ∧ jCF hc hm ∧ (fl → jTr hc hm)
def jDL (fl : Prop) (hc hm : JH) : Prop := jDR fl hc hm ∧ jLn 29 (jDn 16) hc hm ∧ (0 ≤ hc 29 6 ∧ hc 29 6 ≤ 16) ∧ jCd hc (hc 0 0)
theorem jDn_16 : ∀ k, jDn 16 k → 0 ≤ k ∧ k < 16 := fun k q => q
theorem jcF_c {h h' : JH} {t d : Int} (e : ∀ i k : Int, 12 ≤ i → i ≤ 14 → h' i k = h i k) (e0 : h' 11 0 = h 11 0) : jcF h' t d = jcF h t d := by
  unfold jcF
  rw [jfn (fun k => e 12 k (by decide) (by decide)), jfn (fun k => e 13 k (by decide) (by decide)), jfn (fun k => e 14 k (by decide) (by decide)), e0]
theorem jSrt_c {h h' : JH} (e : ∀ i k : Int, 12 ≤ i → i ≤ 14 → h' i k = h i k) (e0 : h' 11 0 = h 11 0) (q : jSrt h) : jSrt h' := fun i j a b c => by
  rw [e 14 i (by decide) (by decide), e 14 j (by decide) (by decide)]; exact q i j a b (by omega)
theorem jCF_fr {hc hm hc' hm' : JH} (e1 : ∀ i k : Int, 3 ≤ i → i ≤ 10 → hc' i k = hc i k) (e2 : ∀ i k : Int, 12 ≤ i → i ≤ 14 → hc' i k = hc i k) (e0 : hc' 11 0 = hc 11 0) (m1 : ∀ i k : Int, 177 ≤ i → i ≤ 180 → hm' i k = hm i k) (m2 : ∀ i k : Int, 182 ≤ i → i ≤ 185 → hm' i k = hm i k) (m0 : hm' 176 6 = hm 176 6) (q : jCF hc hm) : jCF hc' hm' := by
  obtain ⟨q1, q2, q3⟩ := q
  refine ⟨fun c d a b z => ?_, jSrt_c e2 e0 q2, fun k c d a b x y => ?_⟩
  · obtain ⟨p1, p2⟩ := q1 c d a b z
    rw [jHd_c e1 p2, jHm_c m1, e1 4 c (by decide) (by decide)]
    exact ⟨p1, p2⟩
  · rw [jcF_c e2 e0, jmFv_c m2 m0]; exact q3 k c d a b x y
/-- what write leaves is what the reference has of that day -/
theorem jAlm_w {A r d d0 : Int} {h g hm : JH} (hA : A = 107 ∨ A = 114) (C : jCF h hm) (hd : 0 ≤ d) (D0 : jCd h d0) (hd0 : d0 ≤ d) (w : jWri A r d h g) (e : ∀ i k : Int, 12 ≤ i → i ≤ 14 → g i k = h i k) (e0 : g 11 0 = h 11 0) : jAlm A r d g hm ∧ jCd g d := by
  obtain ⟨w1, w2, w3, w4, w5, w6, _⟩ := w
  obtain ⟨c1, c2, c3⟩ := C
  obtain ⟨k1, k2⟩ := jCd_go c2 D0 hd0 w1 e e0
  have s8 : g 15 8 = jmFv hm 2 0 d := (k2 8 (by decide) (by decide)).trans (c3 2 0 d (by decide) (by decide) (by decide) (by decide))
  have s9 : g 15 9 = jmFv hm 3 0 d := (k2 9 (by decide) (by decide)).trans (c3 3 0 d (by decide) (by decide) (by decide) (by decide))
  have s4 : ∀ c : Int, 0 ≤ c → c < 4 → g 15 (4 + c) = jmFv hm 1 c d := fun c a b => (k2 (4 + c) (by omega) (by omega)).trans (by
    have q := c3 1 c d (by decide) (by decide) a b
    have z : jsl 1 c = 4 + c := by unfold jsl; rw [if_neg (by decide), if_pos rfl]
    rw [z] at q; exact q)
  have hh : ∀ c : Int, 0 ≤ c → c < 4 → jHd h c d = jHm hm c d := fun c a b => (c1 c d a b hd).1
  refine ⟨⟨fun x a b => ?_, ?_, fun c a b => ?_, ?_⟩, k1⟩
  · obtain ⟨p1, p2⟩ := w3 x a b
    rw [← hh x a b]
    exact ⟨p1, p2⟩
  · rw [w2, s8, s9]
    unfold jmWd
    by_cases z : ¬ jmFv hm 2 0 d = 0 ∧ d.tmod (jmFv hm 2 0 d) = 0
    · rw [if_pos z]
      exact Or.inl ⟨if_neg (fun y => y.elim z.1 (fun x => x z.2)), rfl⟩
    · rw [if_neg z]
      have y : jmFv hm 2 0 d = 0 ∨ ¬ d.tmod (jmFv hm 2 0 d) = 0 := by
        by_cases x : jmFv hm 2 0 d = 0
        · exact Or.inl x
        · exact Or.inr (fun v => z ⟨x, v⟩)
      rw [if_pos y]
      refine Or.inr ⟨by decide, rfl, ?_⟩
      rw [w2, s8, s9, if_neg z] at w6
      exact w6
  · rw [← hh c a b, ← s4 c a b]; exact w4 c a b
  · have q0 := s4 0 (by decide) (by decide); have q1 := s4 1 (by decide) (by decide); have q2 := s4 2 (by decide) (by decide); have q3 := s4 3 (by decide) (by decide)
    have a0 : (4 : Int) + 0 = 4 := rfl
    have a1 : (4 : Int) + 1 = 5 := rfl
    have a2 : (4 : Int) + 2 = 6 := rfl
    have a3 : (4 : Int) + 3 = 7 := rfl
    rw [a0] at q0; rw [a1] at q1; rw [a2] at q2; rw [a3] at q3
    rw [w5, q0, q1, q2, q3, hh 0 (by decide) (by decide), hh 1 (by decide) (by decide), hh 2 (by decide) (by decide), hh 3 (by decide) (by decide)]
/-- trees -/
theorem jTr_fr {hc hm hc' hm' : JH} (e : ∀ i k : Int, 84 ≤ i → i ≤ 90 → hc' i k = hc i k) (m : ∀ i k : Int, 204 ≤ i → i ≤ 208 → hm' i k = hm i k) (m0 : hm' 176 34 = hm 176 34) (q : jTr hc hm) : jTr hc' hm' := by
  obtain ⟨q1, q2, q3⟩ := q
  refine ⟨by rw [e 84 0 (by decide) (by decide), m0]; exact q1, fun t a b => ?_, fun w a b => ?_⟩
  · rw [e 85 t (by decide) (by decide), e 87 t (by decide) (by decide), e 88 t (by decide) (by decide), m 205 t (by decide) (by decide), m 207 t (by decide) (by decide), m 208 t (by decide) (by decide)]
    exact q2 t a (by omega)
  · rw [e 90 w (by decide) (by decide), m 204 w (by decide) (by decide)]; exact q3 w a b
theorem jGw_r {h : JH} : ∀ n : Nat, (∀ t : Int, 0 ≤ t → t < n → jit jGw n h 87 t = if h 88 t = -9 then jw32 (h 87 t + h 90 (h 85 t)) else h 87 t) ∧ (∀ i k : Int, ¬ (i = 87 ∧ 0 ≤ k ∧ k < n) → jit jGw n h i k = h i k)
  | 0 => ⟨fun t a b => absurd b (by omega), fun i k _ => rfl⟩
  | n + 1 => by
      obtain ⟨i1, i2⟩ := jGw_r (h := h) n
      have st : jit jGw (n + 1) h = jGw n (jit jGw n h) := rfl
      rw [st]
      generalize jit jGw n h = g at i1 i2
      unfold jGw
      rw [i2 88 n (by omega), i2 87 n (by omega), i2 85 n (by omega), i2 90 _ (by omega)]
      by_cases z : h 88 n = -9
      · rw [if_pos z]
        refine ⟨fun t a b => ?_, fun i k q => ?_⟩
        · by_cases y : t = (n : Int)
          · rw [y, jup_eq, if_pos z]
          · rw [jup_ne (by omega)]; exact i1 t a (by omega)
        · rw [jup_ne (by omega)]; exact i2 i k (by omega)
      · rw [if_neg z]
        refine ⟨fun t a b => ?_, fun i k q => i2 i k (by omega)⟩
        by_cases y : t = (n : Int)
        · rw [y, if_neg z]; exact i2 87 n (by omega)
        · exact i1 t a (by omega)
theorem jmTr_r {h : JH} : ∀ n : Nat, (∀ t : Int, 0 ≤ t → t < n → jit jmTr n h 207 t = jw32 (h 207 t + (if h 208 t < 0 then h 204 (h 205 t) else 0))) ∧ (∀ i k : Int, ¬ (i = 207 ∧ 0 ≤ k ∧ k < n) → jit jmTr n h i k = h i k)
  | 0 => ⟨fun t a b => absurd b (by omega), fun i k _ => rfl⟩
  | n + 1 => by
      obtain ⟨i1, i2⟩ := jmTr_r (h := h) n
      have st : jit jmTr (n + 1) h = jmTr n (jit jmTr n h) := rfl
      rw [st]
      generalize jit jmTr n h = g at i1 i2
      unfold jmTr
      rw [i2 208 n (by omega), i2 207 n (by omega), i2 205 n (by omega), i2 204 _ (by omega)]
      refine ⟨fun t a b => ?_, fun i k q => ?_⟩
      · by_cases y : t = (n : Int)
        · rw [y, jup_eq]
        · rw [jup_ne (by omega)]; exact i1 t a (by omega)
      · rw [jup_ne (by omega)]; exact i2 i k (by omega)
theorem jTr_gw {hc hm : JH} (T : jTr hc hm) (B : ∀ t : Int, 0 ≤ t → t < hm 176 34 → -2147483648 ≤ hm 207 t ∧ hm 207 t ≤ 2147483647) : jTr (jit jGw (hc 84 0).toNat hc) (jit jmTr (hm 176 34).toNat hm) := by
  obtain ⟨t1, t2, t3⟩ := T
  obtain ⟨c1, c2⟩ := jGw_r (h := hc) (hc 84 0).toNat
  obtain ⟨m1, m2⟩ := jmTr_r (h := hm) (hm 176 34).toNat
  refine ⟨by rw [c2 84 0 (by omega), m2 176 34 (by omega)]; exact t1, fun t a b => ?_, fun w a b => by rw [c2 90 w (by omega), m2 204 w (by omega)]; exact t3 w a b⟩
  rw [m2 176 34 (by omega)] at b
  obtain ⟨p1, p2, p3, p4, p5⟩ := t2 t a b
  rw [c2 85 t (by omega), c2 88 t (by omega), m2 205 t (by omega), m2 208 t (by omega), c1 t a (by omega), m1 t a (by omega)]
  refine ⟨p1, ?_, p3, p4, p5⟩
  by_cases z : hc 88 t = -9
  · rw [if_pos z, if_pos (p3.1 z), p1, p2, t3 _ p4 p5]
  · rw [if_neg z, if_neg (fun y => z (p3.2 y)), Int.add_zero, p2]
    have := B t a b
    exact (j32e (by omega) (by omega)).symm
set_option maxHeartbeats 2000000 in
theorem jD_step {fl : Prop} {g g1 g2 g3 g4 hm : JH} (S : jDL fl g hm) (e1 : g1 = jup g 0 0 (g 0 0 + 1)) (w : jWri 107 0 (g 0 0 + 1) g1 g2) (wf : ∀ i k : Int, ¬ (i = 11 ∧ k = 5) → ¬ i = 15 → ¬ (107 ≤ i ∧ i ≤ 110) → g2 i k = g1 i k)
    (p : g3 = jPD 29 30 31 36 34 35 107 108 109 110 (g 0 0 + 1) 0 g2) (q : ((g 0 0 + 1).tmod 360 = 0 ∧ g4 = jit jGw (g3 84 0).toNat g3) ∨ (¬ (g 0 0 + 1).tmod 360 = 0 ∧ g4 = g3)) (B : ∀ t : Int, -2147483648 ≤ g 87 t ∧ g 87 t ≤ 2147483647) : jDL fl g4 (jmGr (jmPs hm)) ∧ jRft hm (jmGr (jmPs hm)) := by
  obtain ⟨⟨⟨n1, n2, n3, n4, n5, nd⟩, R, T, K, C, Tr⟩, L, l6, Cd⟩ := S
  have f1 : ∀ i k : Int, ¬ (i = 0 ∧ k = 0) → g1 i k = g i k := fun i k z => by rw [e1]; exact jup_ne z
  have f2 : ∀ i k : Int, ¬ (i = 0 ∧ k = 0) → ¬ (i = 11 ∧ k = 5) → ¬ i = 15 → ¬ (107 ≤ i ∧ i ≤ 110) → g2 i k = g i k := fun i k a b c d => (wf i k b c d).trans (f1 i k a)
  have D16 := jDn_16
  have C1 : jCF g1 hm := jCF_fr (fun i k _ _ => f1 i k (by omega)) (fun i k _ _ => f1 i k (by omega)) (f1 11 0 (by omega)) (fun _ _ _ _ => rfl) (fun _ _ _ _ => rfl) rfl C
  have Cd1 : jCd g1 (g 0 0) := by
    obtain ⟨k1, k2, k3, k4⟩ := Cd
    refine ⟨jCo_fr (fun i k _ _ => f1 i k (by omega)) k1, by rw [f1 11 5 (by omega)]; exact k2, by rw [f1 11 5 (by omega), f1 11 0 (by omega)]; exact k3, fun i a b => ?_⟩
    rw [f1 14 i (by omega)]; exact k4 i a (by rw [f1 11 5 (by omega)] at b; exact b)
  obtain ⟨al, cd⟩ := jAlm_w (Or.inl rfl) C1 (by omega) Cd1 (by omega) w (fun i k _ _ => wf i k (by omega) (by omega) (by omega)) (wf 11 0 (by omega) (by omega) (by omega))
  have R2' : jR2 29 (jDn 16) g2 hm := jR2_fr D16 (fun i k z _ => f2 i k (by omega) (by omega) (by omega) (by omega)) (fun _ _ _ => rfl) R
  have T2 : jTK g2 hm := jTK_fr (fun i k _ _ => f2 i k (by omega) (by omega) (by omega) (by omega)) (fun _ _ _ _ => rfl) T
  have L2 : jLn 29 (jDn 16) g2 hm := jLn_fr (f2 _ _ (by omega) (by omega) (by omega) (by omega)) (fun i => f2 _ _ (by omega) (by omega) (by omega) (by omega)) rfl (fun _ => rfl) (fun _ _ _ z => z) L
  have s6 : g2 29 6 = g 29 6 := f2 _ _ (by omega) (by omega) (by omega) (by omega)
  obtain ⟨R3, fc, fm, dd, mo, ra, nd3, _⟩ := jR_day (Y := 29) (d := g 0 0 + 1) (r := 0) (A := 107) (Or.inl rfl) D16 (Or.inl rfl) R2' T2 L2 (by omega) n3 (by omega) al
  have p' : g3 = jPD 29 (29 + 1) (29 + 2) (29 + 7) (29 + 5) (29 + 6) 107 (107 + 1) (107 + 2) (107 + 3) (g 0 0 + 1) 0 g2 := p
  rw [← p'] at R3 fc
  generalize jmPs hm = m3 at R3 fm dd mo ra nd3
  have h0 : g3 0 0 = g 0 0 + 1 := by rw [fc 0 0 (by unfold jwC; omega), wf 0 0 (by omega) (by omega) (by omega), e1]; exact jup_eq
  have f3 : ∀ i k : Int, ¬ (i = 0 ∧ k = 0) → ¬ (i = 11 ∧ k = 5) → ¬ i = 15 → ¬ (107 ≤ i ∧ i ≤ 110) → ¬ jwC 29 i k → g3 i k = g i k := fun i k a b c d z => (fc i k z).trans (f2 i k a b c d)
  have m14 : m3 176 14 = hm 176 14 := fm _ _ (by unfold jwP jwM; omega)
  have Tr3 : fl → jTr g3 m3 := fun hf => jTr_fr (fun i k a b => f3 i k (by omega) (by omega) (by omega) (by omega) (by unfold jwC; omega)) (fun i k a b => fm i k (by unfold jwP jwM; omega)) (fm _ _ (by unfold jwP jwM; omega)) (Tr hf)
  have C3 : jCF g3 m3 := jCF_fr (fun i k _ _ => f3 i k (by omega) (by omega) (by omega) (by omega) (by unfold jwC; omega)) (fun i k _ _ => f3 i k (by omega) (by omega) (by omega) (by omega) (by unfold jwC; omega)) (f3 11 0 (by omega) (by omega) (by omega) (by omega) (by unfold jwC; omega)) (fun i k _ _ => fm i k (by unfold jwP jwM; omega)) (fun i k _ _ => fm i k (by unfold jwP jwM; omega)) (fm _ _ (by unfold jwP jwM; omega)) C
  have T3 : jTK g3 m3 := jTK_fr (fun i k a b => f3 i k (by omega) (by omega) (by omega) (by omega) (by unfold jwC; omega)) (fun i k a b => fm i k (by unfold jwP jwM; omega)) T
  have L3 : jLn 29 (jDn 16) g3 m3 := jLn_fr (f3 _ _ (by omega) (by omega) (by omega) (by omega) (by unfold jwC; omega)) (fun i => f3 _ _ (by omega) (by omega) (by omega) (by omega) (by unfold jwC; omega)) m14 (fun k => fm _ _ (by unfold jwP jwM; omega)) (fun k _ _ z => mo k z) L
  have cd3 : jCd g3 (g 0 0 + 1) := by
    obtain ⟨k1, k2, k3, k4⟩ := cd
    have e : ∀ i k : Int, 11 ≤ i → i ≤ 15 → g3 i k = g2 i k := fun i k a b => fc i k (by unfold jwC; omega)
    refine ⟨jCo_fr e k1, by rw [e 11 5 (by decide) (by decide)]; exact k2, by rw [e 11 5 (by decide) (by decide), e 11 0 (by decide) (by decide)]; exact k3, fun i a b => ?_⟩
    rw [e 14 i (by decide) (by decide)]; exact k4 i a (by rw [e 11 5 (by decide) (by decide)] at b; exact b)
  have K3 : ∀ k : Int, 0 ≤ k → k < 16 → g3 (36 + 3 * k) 1 = m3 190 k ∧ g3 (36 + 3 * k) 2 = m3 191 k := fun k a b => by
    rw [f3 _ 1 (by omega) (by omega) (by omega) (by omega) (by unfold jwC; omega), fm 190 k (by unfold jwP jwM; omega), f3 _ 2 (by omega) (by omega) (by omega) (by omega) (by unfold jwC; omega), fm 191 k (by unfold jwP jwM; omega)]; exact K k a b
  have s4 : g3 29 4 = g 29 4 := f3 _ _ (by omega) (by omega) (by omega) (by omega) (by unfold jwC; omega)
  have s6' : g3 29 6 = g 29 6 := f3 _ _ (by omega) (by omega) (by omega) (by omega) (by unfold jwC; omega)
  have B3 : fl → ∀ t : Int, 0 ≤ t → t < m3 176 34 → -2147483648 ≤ m3 207 t ∧ m3 207 t ≤ 2147483647 := fun hf t a b => by
    rw [← ((Tr3 hf).2.1 t a b).2.1, f3 87 t (by omega) (by omega) (by omega) (by omega) (by unfold jwC; omega)]; exact B t
  have G : ∀ V W : JH, (∀ i k : Int, ¬ i = 87 → V i k = g3 i k) → (∀ i k : Int, ¬ i = 207 → W i k = m3 i k) → (fl → jTr V W) → jDL fl V W := fun V W ev ew tv => by
    have w14 : W 176 14 = hm 176 14 := (ew _ _ (by omega)).trans m14
    refine ⟨⟨⟨by rw [ev 29 4 (by omega), w14]; omega, by omega, by omega, by rw [ev 0 0 (by omega), ew 176 0 (by omega)]; omega, by rw [ew 176 0 (by omega)]; omega, jNd_fr (fun i j z => ew i j (by omega)) (nd3 nd)⟩, ?_, jTK_fr (fun i k _ _ => ev i k (by omega)) (fun i k _ _ => ew i k (by omega)) T3, ?_, ?_, tv⟩, ?_, by rw [ev 29 6 (by omega)]; omega, ?_⟩
    · exact jR2_fr D16 (fun i k z _ => ev i k (by omega)) (fun i k z => ew i k (by omega)) R3
    · intro k a b
      rw [ev _ 1 (by omega), ew 190 k (by omega), ev _ 2 (by omega), ew 191 k (by omega)]; exact K3 k a b
    · exact jCF_fr (fun i k _ _ => ev i k (by omega)) (fun i k _ _ => ev i k (by omega)) (ev 11 0 (by omega)) (fun i k _ _ => ew i k (by omega)) (fun i k _ _ => ew i k (by omega)) (ew 176 6 (by omega)) C3
    · exact jLn_fr (ev _ _ (by omega)) (fun i => ev _ _ (by omega)) (ew _ _ (by omega)) (fun k => ew _ _ (by omega)) (fun k _ _ z => by rw [ew 192 k (by omega)] at z; exact z) L3
    · rw [ev 0 0 (by omega), h0]
      obtain ⟨k1, k2, k3, k4⟩ := cd3
      refine ⟨jCo_fr (fun i k _ _ => ev i k (by omega)) k1, by rw [ev 11 5 (by omega)]; exact k2, by rw [ev 11 5 (by omega), ev 11 0 (by omega)]; exact k3, fun i a b => ?_⟩
      rw [ev 14 i (by omega)]; exact k4 i a (by rw [ev 11 5 (by omega)] at b; exact b)
  unfold jmGr
  have dy : m3 176 0 = g 0 0 + 1 := dd
  rw [dy]
  rcases q with ⟨q1, q2⟩ | ⟨q1, q2⟩
  · rw [if_pos q1, q2]
    exact ⟨G _ _ (fun i k z => (jGw_r _).2 i k (by omega)) (fun i k z => (jmTr_r _).2 i k (by omega)) (fun hf => jTr_gw (Tr3 hf) (B3 hf)), fun b => by rw [(jmTr_r _).2 202 b (by omega)]; exact ra b⟩
  · rw [if_neg q1, q2]
    exact ⟨G _ _ (fun _ _ _ => rfl) (fun _ _ _ => rfl) Tr3, ra⟩
/-- the line that lineUp makes is the reference's -/
theorem jLn_lu {fl : Prop} {h g hm : JH} (S : jDR fl h hm) (H : jHo h g (h 29 4) (g 29 6) (g 29 6)) (b6 : g 29 6 ≤ 16) : jLn 29 (jDn 16) g hm := by
  obtain ⟨⟨n1, n2, n3, n4, n5, nd⟩, R, T, K, C, Tr⟩ := S
  obtain ⟨h1, h2, h3⟩ := H
  have ky : ∀ i : Int, 0 ≤ i → i < g 29 6 → jKy hm (g 34 i) = jLk h (g 34 i) := fun i a b => by
    obtain ⟨p1, p2, p3⟩ := h1 i a (by omega) (by omega)
    unfold jKy jLk
    rw [(K _ p1 (by omega)).1]
  have A34 : ∀ i : Int, g (29 + 5) i = g 34 i := fun i => rfl
  refine ⟨fun i a b => ?_, fun i j a b c => ?_, fun k a b c => ?_⟩
  · rw [A34]
    obtain ⟨p1, p2, p3⟩ := h1 i a (by omega) (by omega)
    exact ⟨⟨p1, by omega⟩, by omega⟩
  · rw [A34, A34, ky i a (by omega), ky j (by omega) c]
    exact h2 i j a b (by omega) (by omega) (by omega)
  · have st := (R.2.2 k ⟨a, by omega⟩).1.2.1
    obtain ⟨i, p1, p2, p3, p4⟩ := h3 k a (by omega) (by
      unfold jUnw
      have e : h (29 + 7 + 3 * k) 3 = h (36 + 3 * k) 3 := rfl
      rw [← e, st]; exact c)
    exact ⟨i, p1, by omega, p4⟩
