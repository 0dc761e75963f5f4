/-! ===== AHEAD: the trial yard and the reference ===== -/
def jTl (D : Int → Prop) (hc hm : JH) : Prop := jR2 119 D hc hm ∧ jTK hc hm ∧ jLn 119 D hc hm ∧ (0 ≤ hc 119 6 ∧ hc 119 6 ≤ 16) ∧ hm 176 14 ≤ 16
def jAlF (f : Int) (hc hm : JH) : Prop := ∀ r : Int, 0 ≤ r → r < 300 → jAlm 114 r (f + 1 + r) hc hm
theorem jAlm_fr {r d : Int} {hc hm hc' hm' : JH} (e : ∀ i k : Int, 114 ≤ i → i ≤ 117 → hc' i k = hc i k) (m1 : ∀ i k : Int, 177 ≤ i → i ≤ 180 → hm' i k = hm i k) (m2 : ∀ i k : Int, 182 ≤ i → i ≤ 185 → hm' i k = hm i k) (m6 : hm' 176 6 = hm 176 6) (q : jAlm 114 r d hc hm) : jAlm 114 r d hc' hm' := by
  obtain ⟨q1, q2, q3, q4⟩ := q
  have eH : ∀ c : Int, jHm hm' c d = jHm hm c d := fun c => jHm_c m1
  have eF : ∀ k c : Int, jmFv hm' k c d = jmFv hm k c d := fun k c => jmFv_c m2 m6
  have eW : jmWd hm' d = jmWd hm d := by unfold jmWd; rw [eF]
  refine ⟨fun x a b => ?_, ?_, fun c a b => ?_, ?_⟩
  · rw [e 114 _ (by decide) (by decide), eH]; exact q1 x a b
  · rw [e (114 + 1) _ (by decide) (by decide), eW, eF]; exact q2
  · rw [eH, eF]; exact q3 c a b
  · rw [e (114 + 3) _ (by decide) (by decide), eH, eH, eH, eH, eF, eF, eF, eF]; exact q4
theorem jAlF_fr {f : Int} {hc hm hc' hm' : JH} (e : ∀ i k : Int, 114 ≤ i → i ≤ 117 → hc' i k = hc i k) (m1 : ∀ i k : Int, 177 ≤ i → i ≤ 180 → hm' i k = hm i k) (m2 : ∀ i k : Int, 182 ≤ i → i ≤ 185 → hm' i k = hm i k) (m6 : hm' 176 6 = hm 176 6) (q : jAlF f hc hm) : jAlF f hc' hm' := fun r a b => jAlm_fr e m1 m2 m6 (q r a b)
theorem jAlF_o {f r : Int} {hc hm : JH} (q : jAlF f hc hm) (h0 : 0 ≤ r) (h1 : r < 300) : jAo r hc := by
  obtain ⟨q1, q2, q3, q4⟩ := q r h0 h1
  refine ⟨fun c a b => (q1 c a b).2, ?_, ?_⟩
  · have e : hc (114 + 1) r = hc 115 r := rfl
    rw [e] at q2
    rcases q2 with q2 | q2 <;> omega
  · have e : hc (114 + 3) r = hc 117 r := rfl
    rw [e] at q4
    have w0 := q3 0 (by decide) (by decide); have w1 := q3 1 (by decide) (by decide); have w2 := q3 2 (by decide) (by decide); have w3 := q3 3 (by decide) (by decide)
    omega
theorem jTl_ok {D : Int → Prop} {hc hm : JH} (hD : ∀ k, D k → 0 ≤ k ∧ k < 16) (S : jTl D hc hm) : jOk hc := by
  obtain ⟨R, T, L, l6, n14⟩ := S
  refine ⟨fun i a b => hD _ (L.1 i a b).1, fun b a c => ?_, ?_, fun i a b c => ?_, l6⟩
  · have r := R.2.1 b a c
    unfold jBR at r
    have e : hc (119 + 2) b = hc 121 b := rfl
    rw [e] at r
    rcases r with r | r | r <;> omega
  · have r := R.1 5 (by decide) (by decide)
    have e : hc (119 + 1) 5 = hc 120 5 := rfl
    rw [e] at r
    omega
  · have e5 : hc (119 + 5) i = hc 124 i := rfl
    have l := (L.1 i a b).1
    rw [e5] at l
    have q := R.2.2 _ l
    unfold jHR at q
    have e7 : ∀ f : Int, hc (119 + 7 + 3 * hc 124 i) f = hc (126 + 3 * hc 124 i) f := fun f => rfl
    rw [e7 3, e7 5, e7 6] at q
    have q3 := q.2.2.1 (by rw [← q.1.2.1]; exact c)
    omega
/-- a day of the trial yard -/
theorem jTl_day {D : Int → Prop} {f r : Int} {hc hm : JH} (hD : ∀ k, D k → 0 ≤ k ∧ k < 16) (S : jTl D hc hm) (h0 : 0 ≤ r) (h1 : r < 300) (hd : hm 176 0 = f + r) (al : jAlF f hc hm) :
    jTl D (jTD (f + 1 + r) r hc) (jmPs hm) ∧ jmPs hm 176 0 = f + (r + 1) ∧ jAlF f (jTD (f + 1 + r) r hc) (jmPs hm) ∧ jfr (jwC 119) hc (jTD (f + 1 + r) r hc) ∧ jmo hm (jmPs hm) ∧ (∀ k : Int, hc 121 5 = k → 0 ≤ k → ¬ hc (126 + 3 * k) 7 = 0 → hc (126 + 3 * k) 6 = 0 → ¬ (jmPs hm 192 k = 0 ∨ jmPs hm 192 k = 1)) := by
  obtain ⟨R, T, L, l6, n14⟩ := S
  have P := jR_day (Y := 119) (d := f + 1 + r) (r := r) (A := 114) (Or.inr rfl) hD (Or.inr rfl) R T L l6 n14 (by omega) (al r h0 h1)
  have e : jPD 119 (119 + 1) (119 + 2) (119 + 7) (119 + 5) (119 + 6) 114 (114 + 1) (114 + 2) (114 + 3) (f + 1 + r) r hc = jTD (f + 1 + r) r hc := rfl
  rw [e] at P
  obtain ⟨R', fc, fm, dd, mo, _, _, lv⟩ := P
  generalize jTD (f + 1 + r) r hc = hc' at R' fc ⊢
  generalize jmPs hm = hm' at R' fm dd mo lv ⊢
  have m14 : hm' 176 14 = hm 176 14 := fm _ _ (by unfold jwP jwM; omega)
  refine ⟨⟨R', jTK_fr (fun i k a b => fc i k (by unfold jwC; omega)) (fun i k a b => fm i k (by unfold jwP jwM; omega)) T, jLn_fr (fc _ _ (by unfold jwC; omega)) (fun i => fc _ _ (by unfold jwC; omega)) m14 (fun k => fm _ _ (by unfold jwP jwM; omega)) (fun k _ _ q => mo k q) L, by rw [fc 119 6 (by unfold jwC; omega)]; exact l6, by omega⟩, by omega, ?_, fc, mo, lv⟩
  exact jAlF_fr (fun i k a b => fc i k (by unfold jwC; omega)) (fun i k a b => fm i k (by unfold jwP jwM; omega)) (fun i k a b => fm i k (by unfold jwP jwM; omega)) (fm _ _ (by unfold jwP jwM; omega)) al
/-! how many are under way -/
def jcu (hm : JH) (L : Int → Int) : Nat → Int
  | 0 => 0
  | n + 1 => jcu hm L n + (if hm 192 (L n) = 0 ∨ hm 192 (L n) = 1 then 1 else 0)
theorem jcu_b {hm : JH} {L : Int → Int} : ∀ n : Nat, 0 ≤ jcu hm L n ∧ jcu hm L n ≤ n
  | 0 => ⟨Int.le_refl _, Int.le_refl _⟩
  | n + 1 => by
      have ih := jcu_b (hm := hm) (L := L) n
      show 0 ≤ jcu hm L n + (if hm 192 (L n) = 0 ∨ hm 192 (L n) = 1 then 1 else 0) ∧ jcu hm L n + (if hm 192 (L n) = 0 ∨ hm 192 (L n) = 1 then 1 else 0) ≤ ((n + 1 : Nat) : Int)
      split <;> omega
theorem jcu_le {hm hm' : JH} {L : Int → Int} (mo : jmo hm hm') : ∀ n : Nat, jcu hm' L n ≤ jcu hm L n
  | 0 => Int.le_refl _
  | n + 1 => by
      have ih := jcu_le (L := L) mo n
      show jcu hm' L n + (if hm' 192 (L n) = 0 ∨ hm' 192 (L n) = 1 then 1 else 0) ≤ jcu hm L n + (if hm 192 (L n) = 0 ∨ hm 192 (L n) = 1 then 1 else 0)
      by_cases z : hm' 192 (L n) = 0 ∨ hm' 192 (L n) = 1
      · rw [if_pos z, if_pos (mo _ z)]; omega
      · rw [if_neg z]; split <;> omega
theorem jcu_lt {hm hm' : JH} {L : Int → Int} (mo : jmo hm hm') {i : Nat} (u : hm 192 (L i) = 0 ∨ hm 192 (L i) = 1) (v : ¬ (hm' 192 (L i) = 0 ∨ hm' 192 (L i) = 1)) : ∀ n : Nat, i < n → jcu hm' L n + 1 ≤ jcu hm L n
  | 0, h => absurd h (by omega)
  | n + 1, h => by
      show jcu hm' L n + (if hm' 192 (L n) = 0 ∨ hm' 192 (L n) = 1 then 1 else 0) + 1 ≤ jcu hm L n + (if hm 192 (L n) = 0 ∨ hm 192 (L n) = 1 then 1 else 0)
      by_cases y : i = n
      · have ih := jcu_le (L := L) mo n
        rw [← y, if_neg v, if_pos u, y]; omega
      · have ih := jcu_lt (L := L) mo u v n (by omega)
        by_cases z : hm' 192 (L n) = 0 ∨ hm' 192 (L n) = 1
        · rw [if_pos z, if_pos (mo _ z)]; omega
        · rw [if_neg z]; split <;> omega
theorem jcu_0 {hm : JH} {L : Int → Int} : ∀ n : Nat, jcu hm L n ≤ 0 → ∀ i : Nat, i < n → ¬ (hm 192 (L i) = 0 ∨ hm 192 (L i) = 1)
  | 0, _, i, h => absurd h (by omega)
  | n + 1, q, i, h => by
      have q' : jcu hm L n + (if hm 192 (L n) = 0 ∨ hm 192 (L n) = 1 then 1 else 0) ≤ 0 := q
      have b := jcu_b (hm := hm) (L := L) n
      by_cases z : hm 192 (L n) = 0 ∨ hm 192 (L n) = 1
      · rw [if_pos z] at q'; omega
      · rw [if_neg z] at q'
        by_cases y : i = n
        · rw [y]; exact z
        · exact jcu_0 n (by omega) i (by omega)
/-! the trial -/
def jLr (g : JH) : Prop := ∀ x c : Int, 0 ≤ x → x < 300 → 0 ≤ c → c < 4 → 0 < g 115 x → 0 < g 114 (x * 4 + c) → x ≤ g 118 c
def jTq (A n : Int) (D : Int → Prop) (h hm : JH) : Prop :=
  (jR2 29 (jDn 16) h hm ∧ jTK h hm ∧ jNd hm) ∧ (0 ≤ n ∧ n ≤ 16 ∧ hm 176 14 ≤ 16) ∧ (∀ k : Int, D k ↔ ∃ i : Int, 0 ≤ i ∧ i < n ∧ h A i = k) ∧
  ((∀ i : Int, 0 ≤ i → i < n → 0 ≤ h A i ∧ h A i < 16 ∧ h A i < hm 176 14) ∧ (∀ i j : Int, 0 ≤ i → i < j → j < n → jKy hm (h A i) < jKy hm (h A j)) ∧ (∀ k : Int, 0 ≤ k → k < hm 176 14 → (hm 192 k = 0 ∨ hm 192 k = 1) → ∃ i : Int, 0 ≤ i ∧ i < n ∧ h A i = k)) ∧
  h 111 3 = hm 176 0 ∧ jAlF (h 111 3) h hm ∧ jLr h
theorem jTq_D {A n : Int} {D : Int → Prop} {h hm : JH} (S : jTq A n D h hm) : ∀ k, D k → 0 ≤ k ∧ k < 16 := fun k q => by
  obtain ⟨i, a, b, e⟩ := (S.2.2.1 k).1 q
  have := S.2.2.2.1.1 i a b
  omega
/-- what become leaves -/
def jBc (A n : Int) (h g : JH) : Prop := (∀ x : Int, 0 ≤ x → x < 6 → g 120 x = h 30 x) ∧ (∀ b : Int, 0 ≤ b → b < 6 → g 121 b = h 31 b) ∧ (∀ i : Int, 0 ≤ i → i < n → g 124 i = h A i) ∧ g 119 6 = n ∧
  (∀ i : Int, 0 ≤ i → i < n → (∀ f : Int, 0 ≤ f → f ≤ 9 → g (126 + 3 * h A i) f = h (36 + 3 * h A i) f) ∧ (∀ f : Int, 0 ≤ f → f < 6 → g (126 + 3 * h A i + 1) f = h (36 + 3 * h A i + 1) f ∧ g (126 + 3 * h A i + 2) f = h (36 + 3 * h A i + 2) f))
theorem jHR_mv {H H' k : Int} {hc hc' hm : JH} (e0 : ∀ f : Int, 0 ≤ f → f ≤ 9 → hc' (H' + 3 * k) f = hc (H + 3 * k) f) (e1 : ∀ f : Int, 0 ≤ f → f < 6 → hc' (H' + 3 * k + 1) f = hc (H + 3 * k + 1) f ∧ hc' (H' + 3 * k + 2) f = hc (H + 3 * k + 2) f) (q : jHR H k hc hm) : jHR H' k hc' hm := by
  unfold jHR at q ⊢
  rw [e0 0 (by decide) (by decide), e0 3 (by decide) (by decide), e0 4 (by decide) (by decide), e0 5 (by decide) (by decide), e0 6 (by decide) (by decide), e0 7 (by decide) (by decide), e0 8 (by decide) (by decide), e0 9 (by decide) (by decide)]
  obtain ⟨q1, q2, q3, q4, q5⟩ := q
  exact ⟨q1, fun g a c => by rw [(e1 g a c).2]; exact q2 g a c, q3, fun z g a c => by rw [(e1 g a c).1]; exact q4 z g a c, q5⟩
def jMc (B H : Int) (h : JH) : Int := if h B 5 < 0 ∨ h (H + 3 * h B 5) 7 = 0 ∨ ¬ h (H + 3 * h B 5) 6 = 0 then 0 else 1
theorem jMc_b {B H : Int} {h : JH} : 0 ≤ jMc B H h ∧ jMc B H h ≤ 1 := by unfold jMc; split <;> decide
def jTI (A n x r al : Int) (h g : JH) : Prop := ∀ (D : Int → Prop) (hm : JH), jTq A n D h hm →
  jTl D g (jit jmPi x.toNat hm) ∧ jit jmPi x.toNat hm 176 0 = h 111 3 + x ∧ jAlF (h 111 3) g (jit jmPi x.toNat hm) ∧ r + jcu (jit jmPi x.toNat hm) (h A) n.toNat ≤ n ∧ (al = 0 → jStk x g) ∧ (∀ i : Int, 0 ≤ i → i < n → g 124 i = h A i) ∧ g 119 6 = n ∧ jLr g ∧ ∀ i : Int, 0 ≤ i → i < n → g (126 + 3 * h A i) 2 = h (36 + 3 * h A i) 2
theorem jTI_0 {A n : Int} {h g : JH} (B : jBc A n h g) (e : ∀ i k : Int, (18 ≤ i ∧ i ≤ 28) ∨ (114 ≤ i ∧ i ≤ 118) → g i k = h i k) : jTI A n 0 0 1 h g := fun D hm S => by
  have hD := jTq_D S
  obtain ⟨⟨R, T, N⟩, ⟨n0, n1, n14⟩, Di, ⟨l1, l2, l3⟩, dd, al, lr⟩ := S
  obtain ⟨b1, b2, b3, b4, b5⟩ := B
  rw [jit_0]
  have e5 : ∀ i : Int, g (119 + 5) i = g 124 i := fun i => rfl
  refine ⟨⟨⟨fun x a b => ?_, fun b a c => ?_, fun k hk => ?_⟩, jTK_fr (fun i k a b => e i k (by omega)) (fun _ _ _ _ => rfl) T, ⟨fun i a b => ?_, fun i j a b c => ?_, fun k a b c => ?_⟩, by omega, n14⟩, by omega, jAlF_fr (fun i k a b => e i k (by omega)) (fun _ _ _ _ => rfl) (fun _ _ _ _ => rfl) rfl al, ?_, fun q => absurd q (by decide), b3, b4, fun x c p q r s t u => ?_, fun i a b => (b5 i a b).1 2 (by decide) (by decide)⟩
  · have r := R.1 x a b
    have e1 : g (119 + 1) x = h (29 + 1) x := b1 x a b
    rw [e1]; exact r
  · have r := R.2.1 b a c
    have e1 : g (119 + 2) b = h (29 + 2) b := b2 b a c
    unfold jBR at r ⊢
    rw [e1]
    rcases r with r | r | ⟨r1, r2, r3, r4, r5, r6⟩
    · exact Or.inl r
    · exact Or.inr (Or.inl r)
    · refine Or.inr (Or.inr ⟨r1, r2, r3, ?_, r5, r6⟩)
      refine (Di _).2 (l3 _ r2 ?_ (Or.inr r5))
      by_cases z : hm 202 b < hm 176 14
      · exact z
      · have := N.2 _ r2 (by omega) r3; omega
  · obtain ⟨i, a, b, q⟩ := (Di k).1 hk
    have k16 := hD k hk
    obtain ⟨c1, c2⟩ := b5 i a b
    rw [q] at c1 c2
    exact jHR_mv (H := 29 + 7) (H' := 119 + 7) c1 c2 (R.2.2 k k16)
  · rw [b4] at b
    rw [e5, b3 i a b]
    exact ⟨(Di _).2 ⟨i, a, b, rfl⟩, (l1 i a b).2.2⟩
  · rw [b4] at c
    rw [e5, e5, b3 i a (by omega), b3 j (by omega) c]; exact l2 i j a b c
  · obtain ⟨i, p, q, r⟩ := l3 k a b c
    exact ⟨i, p, by omega, by rw [e5, b3 i p q]; exact r⟩
  · have := (jcu_b (hm := hm) (L := h A) n.toNat).2
    omega
  · rw [e 115 x (by omega)] at t
    rw [e 114 _ (by omega)] at u
    rw [e 118 c (by omega)]
    exact lr x c p q r s t u
/-- all are READY -/
theorem jStk_r {D : Int → Prop} {g hm : JH} {r : Int} (T : jTl D g hm) (Dl : ∀ k, D k → ∃ i : Int, 0 ≤ i ∧ i < g 119 6 ∧ g 124 i = k) (no : ∀ i : Int, 0 ≤ i → i < g 119 6 → ¬ (hm 192 (g 124 i) = 0 ∨ hm 192 (g 124 i) = 1)) : jStk r g := by
  obtain ⟨R, _, L, _, _⟩ := T
  have st : ∀ i : Int, 0 ≤ i → i < g 119 6 → g (126 + 3 * g 124 i) 3 = hm 192 (g 124 i) := fun i a b => by
    have l := (L.1 i a b).1
    exact (R.2.2 _ l).1.2.1
  refine ⟨fun b a c => ?_, Or.inr (fun i a b => ?_), fun i a b c => ?_, fun i a b c => ?_⟩
  · have q := R.2.1 b a c
    unfold jBR at q
    have e : g (119 + 2) b = g 121 b := rfl
    rw [e] at q
    rcases q with q | q | ⟨q1, q2, q3, q4, q5, q6⟩
    · exact Or.inl (by omega)
    · exact Or.inl (by omega)
    · obtain ⟨i, x, y, z⟩ := Dl _ q4
      exact absurd (Or.inr (by rw [z]; exact q5)) (no i x y)
  · have := no i a b; rw [st i a b]; omega
  · have := no i a b; rw [st i a b] at c; omega
  · have := no i a b; rw [st i a b] at c; omega
theorem jTI_s {A n x r al r' al' : Int} {h g g' : JH} (I : jTI A n x r al h g) (h0 : 0 ≤ x) (h1 : x < 300) (e : g' = jTD (h 111 3 + 1 + x) x g) (er : r' = r + jMc 121 126 g)
    (ea : al' = 0 → g' 119 10 = 0 ∧ ∀ i : Int, 0 ≤ i → i < g' 119 6 → ¬ (g' (126 + 3 * g' 124 i) 3 = 1 ∧ ¬ g' (126 + 3 * g' 124 i) 7 = 0 ∧ 0 < g' (126 + 3 * g' 124 i) 6 ∧ x < g' 118 (g' (126 + 3 * g' 124 i) 5))) : jTI A n (x + 1) r' al' h g' := fun D hm S => by
  have hD := jTq_D S
  obtain ⟨T, dd, al1, cn, st, ln, l6, lr, du⟩ := I D hm S
  have l16 := S.2.2.2.1.1
  obtain ⟨_, ⟨n0, n1, _⟩, Di, _, _, _, _⟩ := S
  have js : jit jmPi (x + 1).toNat hm = jmPs (jit jmPi x.toNat hm) := jit_s h0
  rw [js]
  generalize jit jmPi x.toNat hm = M at T dd al1 cn
  obtain ⟨T', dd', al', fc, mo, lv⟩ := jTl_day hD T h0 h1 dd al1
  have O := jTl_ok hD T
  have Ao := jAlF_o al1 h0 h1
  rw [← e] at T' al' fc
  have ln' : ∀ i : Int, 0 ≤ i → i < n → g' 124 i = h A i := fun i a b => (fc 124 i (by unfold jwC; omega)).trans (ln i a b)
  have l6' : g' 119 6 = n := (fc 119 6 (by unfold jwC; omega)).trans l6
  have lr' : jLr g' := fun x c p q r s t u => by
    rw [fc 115 x (by unfold jwC; omega)] at t
    rw [fc 114 _ (by unfold jwC; omega)] at u
    rw [fc 118 c (by unfold jwC; omega)]
    exact lr x c p q r s t u
  refine ⟨T', dd', al', ?_, fun q => ?_, ln', l6', lr', fun i a b => (fc _ 2 (by have := l16 i a b; unfold jwC; omega)).trans (du i a b)⟩
  · unfold jMc at er
    by_cases c : g 121 5 < 0 ∨ g (126 + 3 * g 121 5) 7 = 0 ∨ ¬ g (126 + 3 * g 121 5) 6 = 0
    · rw [if_pos c] at er
      have := jcu_le (L := h A) mo n.toNat
      omega
    · rw [if_neg c] at er
      have b5 := T.1.2.1 5 (by decide) (by decide)
      unfold jBR at b5
      have e2 : g (119 + 2) 5 = g 121 5 := rfl
      rw [e2] at b5
      rcases b5 with b5 | b5 | ⟨z1, z2, z3, z4, z5, z6⟩
      · omega
      · omega
      · have v := lv _ rfl (by omega) (by omega) (by omega)
        obtain ⟨i, p, q, w⟩ := (Di _).1 z4
        rw [z1, ← w] at v
        rw [← w] at z5
        have := jcu_lt (L := h A) mo (i := i.toNat) (by rw [Int.toNat_of_nonneg p]; exact Or.inr z5) (by rw [Int.toNat_of_nonneg p]; exact v) n.toNat (by omega)
        omega
  · obtain ⟨z, w⟩ := ea q
    rw [e] at z
    obtain ⟨⟨k1, k2, k3⟩, k4⟩ := jStk_st O Ao z
    rw [← e] at k1 k2 k3
    obtain ⟨c1, c2, c3⟩ := jS3_fr O k1 k2 k4
    have O' := jTl_ok hD T'
    refine ⟨c1, c2, c3, fun i a b c d f y y1 y2 => ?_⟩
    have o := O'.2.2.2.1 i a b c
    have nw := w i a b
    by_cases u1 : 0 < g' 115 y
    · by_cases u2 : 0 < g' 114 (y * 4 + g' (126 + 3 * g' 124 i) 5)
      · have := lr' y _ (by omega) y2 o.1.1 (by omega) u1 u2
        exact absurd ⟨c, d, f, by omega⟩ nw
      · exact Or.inr (by omega)
    · exact Or.inl (by omega)
/-- from a yard in which nothing can stir to day 300 -/
theorem jStk_run {D : Int → Prop} {f x : Int} {g hm : JH} (hD : ∀ k, D k → 0 ≤ k ∧ k < 16) (h0 : 0 ≤ x) (T : jTl D g (jit jmPi x.toNat hm)) (dd : jit jmPi x.toNat hm 176 0 = f + x) (al : jAlF f g (jit jmPi x.toNat hm)) (st : jStk x g) : ∀ m : Nat, x + m ≤ 300 → ∃ g' : JH, jTl D g' (jit jmPi (x + m).toNat hm) ∧ jit jmPi (x + m).toNat hm 176 0 = f + (x + m) ∧ jAlF f g' (jit jmPi (x + m).toNat hm) ∧ jStk (x + m) g' ∧ jAg g g'
  | 0, _ => ⟨g, by rw [show x + ((0 : Nat) : Int) = x by omega]; exact ⟨T, dd, al, st, fun _ _ _ _ _ _ => rfl⟩⟩
  | m + 1, hm1 => by
      obtain ⟨g', T', dd', al', st', ag⟩ := jStk_run hD h0 T dd al st m (by omega)
      have js : jit jmPi (x + ((m + 1 : Nat) : Int)).toNat hm = jmPs (jit jmPi (x + m).toNat hm) := by
        rw [show x + ((m + 1 : Nat) : Int) = x + m + 1 by omega]
        exact jit_s (by omega)
      rw [js]
      obtain ⟨T2, dd2, al2, fc, mo, lv⟩ := jTl_day hD T' (by omega) (by omega) dd' al'
      have O := jTl_ok hD T'
      obtain ⟨k1, k2, k3⟩ := jStk_day (d := f + 1 + (x + m)) O (jAlF_o al' (by omega) (by omega)) st' (by omega)
      refine ⟨jTD (f + 1 + (x + m)) (x + m) g', T2, by omega, al2, jStk_fr (by omega) O k1 k2 st', fun i k a b c d => ?_⟩
      rw [k1 i k a b c d]; exact ag i k a b c d
theorem jTI_e {A n x r al : Int} {h g : JH} (I : jTI A n x r al h g) (h0 : 0 ≤ x) (h1 : x ≤ 300) (ex : 300 ≤ x ∨ n ≤ r ∨ al = 0) (D : Int → Prop) (hm : JH) (S : jTq A n D h hm) : ∀ i : Int, 0 ≤ i → i < n → g (126 + 3 * h A i) 9 = jit jmPi 300 hm 198 (h A i) ∧ g (126 + 3 * h A i) 2 = h (36 + 3 * h A i) 2 := fun i a b => by
  have hD := jTq_D S
  obtain ⟨T, dd, al1, cn, st, ln, l6, lr, du⟩ := I D hm S
  refine ⟨?_, du i a b⟩
  obtain ⟨_, ⟨n0, n1, _⟩, Di, _, _, _, _⟩ := S
  have dk : D (h A i) := (Di _).2 ⟨i, a, b, rfl⟩
  by_cases y : x = 300
  · have e := (T.1.2.2 _ dk).1.2.2.2.2.1
    rw [y, jtn300] at e
    exact e
  · have sk : jStk x g := by
      rcases ex with ex | ex | ex
      · omega
      · refine jStk_r T (fun k q => ?_) (fun j p q => ?_)
        · obtain ⟨j, p, q, w⟩ := (Di k).1 q
          exact ⟨j, p, by omega, by rw [ln j p q]; exact w⟩
        · have z := jcu_0 (hm := jit jmPi x.toNat hm) (L := h A) n.toNat (by omega) j.toNat (by omega)
          rw [Int.toNat_of_nonneg p] at z
          rw [ln j p (by omega)]; exact z
      · exact st ex
    obtain ⟨g', T', dd', al', st', ag⟩ := jStk_run hD h0 T dd al1 sk (300 - x).toNat (by omega)
    rw [show x + (((300 - x).toNat : Nat) : Int) = 300 by omega, jtn300] at T'
    have e := (T'.1.2.2 _ dk).1.2.2.2.2.1
    have k16 := hD _ dk
    have e2 := ag (126 + 3 * h A i) 9 (by omega) (by omega) (by omega) (by omega)
    have e3 : g' (119 + 7 + 3 * h A i) 9 = g' (126 + 3 * h A i) 9 := rfl
    rw [← e2, ← e3]; exact e
