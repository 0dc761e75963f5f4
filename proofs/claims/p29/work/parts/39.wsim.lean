/-! ===== THE LEAST LATE: orders tried, the class ===== -/
theorem jx_d7 (E : JE) {k : Int} (h0 : 0 ≤ k) (h1 : k < 6) : jxv E (-7) k = (jfa k.toNat : Int) := by
  rw [jx_e7]
  have q : k = 0 ∨ k = 1 ∨ k = 2 ∨ k = 3 ∨ k = 4 ∨ k = 5 := by omega
  rcases q with rfl | rfl | rfl | rfl | rfl | rfl <;> decide
theorem jprs_o {o : Nat → Int} {h : JH} {i k : Int} (q : ¬ i = 190) : ∀ n : Nat, jprs o n h i k = h i k
  | 0 => rfl
  | n + 1 => by
      show jup (jprs o n h) 190 (o n) (99 - (n : Int)) i k = h i k
      rw [jup_ne (fun z => q z.1)]
      exact jprs_o q n
theorem jprs_s {o : Nat → Int} {h : JH} : ∀ n : Nat, (∀ i j : Nat, i < n → j < n → o i = o j → i = j) → ∀ i : Nat, i < n → jprs o n h 190 (o i) = 99 - (i : Int)
  | 0, _, i, hi => absurd hi (by omega)
  | n + 1, inj, i, hi => by
      show jup (jprs o n h) 190 (o n) (99 - (n : Int)) 190 (o i) = 99 - (i : Int)
      by_cases z : i = n
      · rw [z, jup_eq]
      · rw [jup_ne (fun q => z (inj i n hi (by omega) q.2))]
        exact jprs_s n (fun a b ha hb => inj a b (by omega) (by omega)) i (by omega)
theorem jpo_2 : (List.range 6).all (fun m => (List.range m).all (fun i => decide (jpos m 0 i = i))) = true := by decide +kernel
theorem jpos_0 {m i : Nat} (hm : m ≤ 5) (hi : i < m) : jpos m 0 i = i :=
  of_decide_eq_true (List.all_eq_true.mp (List.all_eq_true.mp jpo_2 m (List.mem_range.mpr (by omega))) i (List.mem_range.mpr hi))
theorem jUL_m {hm : JH} (h0 : 0 ≤ hm 176 14) {k : Int} : k ∈ jUL hm ↔ jU hm k := by
  unfold jUL jU
  rw [jull_mem, Int.toNat_of_nonneg h0]
theorem jodr_b {hm : JH} {k i : Nat} (h5 : (jUL hm).length ≤ 5) (hk : k < jfa (jUL hm).length) (hi : i < (jUL hm).length) : jodr hm k i ∈ jUL hm := jgd_mem ((jpos_p h5 hk).1 i hi)
theorem jUL_i {hm : JH} {p q : Nat} (hp : p < (jUL hm).length) (hq : q < (jUL hm).length) (e : (jUL hm).getD p 0 = (jUL hm).getD q 0) : p = q := by
  by_cases z : p = q
  · exact z
  · by_cases y : p < q
    · have w : (jUL hm).getD p 0 < (jUL hm).getD q 0 := jull_srt _ _ _ y hq
      omega
    · have w : (jUL hm).getD q 0 < (jUL hm).getD p 0 := jull_srt _ _ _ (by omega) hp
      omega
theorem jodr_j {hm : JH} {k i j : Nat} (h5 : (jUL hm).length ≤ 5) (hk : k < jfa (jUL hm).length) (hi : i < (jUL hm).length) (hj : j < (jUL hm).length) (e : jodr hm k i = jodr hm k j) : i = j := by
  have p := jpos_p h5 hk
  exact p.2.2 i j hi hj (jUL_i (p.1 i hi) (p.1 j hj) e)
theorem jodr_s {hm : JH} {k : Nat} {x : Int} (h5 : (jUL hm).length ≤ 5) (hk : k < jfa (jUL hm).length) (h : x ∈ jUL hm) : ∃ i : Nat, i < (jUL hm).length ∧ jodr hm k i = x := by
  obtain ⟨p, hp, e⟩ := jgd_ex h
  obtain ⟨i, hi, q⟩ := (jpos_p h5 hk).2.1 p hp
  exact ⟨i, hi, by unfold jodr; rw [q]; exact e⟩
theorem jR2_90 {hc hm hm' : JH} (o : ∀ i k : Int, ¬ i = 190 → hm' i k = hm i k) (R : jR2 29 (jDn 16) hc hm) : jR2 29 (jDn 16) hc hm' := by
  obtain ⟨r1, r2, r3⟩ := R
  refine ⟨fun g a b => ?_, fun b a c => ?_, fun k hk => ?_⟩
  · rw [o _ _ (by decide)]; exact r1 g a b
  · exact jBR_fr rfl (o _ _ (by decide)) (fun k _ _ _ => ⟨o _ _ (by decide), o _ _ (by decide)⟩) (r2 b a c)
  · have q := r3 k hk
    unfold jHR at q ⊢
    rw [o 189 k (by decide), o 192 k (by decide), o 193 k (by decide), o 194 k (by decide), o 195 k (by decide), o 196 k (by decide), o 197 k (by decide), o 198 k (by decide)]
    obtain ⟨q1, q2, q3, q4, q5⟩ := q
    refine ⟨q1, fun g a b => ?_, q3, fun z g a b => ?_, q5⟩
    · rw [o 200 _ (by decide)]; exact q2 g a b
    · rw [o 199 _ (by decide)]; exact q4 z g a b
/-- one order, tried in the class's yard of thought -/
theorem jTq_or {h g hm : JH} {k : Nat} (S : jDR False h hm) (q1 : h 111 3 = hm 176 0) (q2 : jAlF (h 111 3) h hm) (q3 : jLr h) (h5 : (jUL hm).length ≤ 5) (hk : k < jfa (jUL hm).length) (e : ∀ i k : Int, jwk i k ∨ (i = 111 ∧ k = 3) ∨ (114 ≤ i ∧ i ≤ 118) → g i k = h i k) (r : ∀ i : Nat, i < (jUL hm).length → g 175 i = jodr hm k i) :
    jTq 175 (jUL hm).length (fun x => ∃ i : Int, 0 ≤ i ∧ i < ((jUL hm).length : Int) ∧ g 175 i = x) g (jprs (jodr hm k) (jUL hm).length hm) := by
  have n0 : 0 ≤ hm 176 14 := S.1.2.1
  have o : ∀ i j : Int, ¬ i = 190 → jprs (jodr hm k) (jUL hm).length hm i j = hm i j := fun i j q => jprs_o q _
  have S' : jDR False g hm := jDF_fr (fun i k w => e i k (Or.inl w)) (fun _ _ _ => rfl) S
  obtain ⟨⟨n1, n2, n3, n4, n5, nd⟩, R, T, K, C, _⟩ := S'
  have mem : ∀ i : Nat, i < (jUL hm).length → jU hm (jodr hm k i) := fun i a => (jUL_m n0).1 (jodr_b h5 hk a)
  have hat : ∀ i : Int, 0 ≤ i → i < ((jUL hm).length : Int) → g 175 i = jodr hm k i.toNat := fun i a b => by
    have w := r i.toNat (by omega)
    rw [Int.toNat_of_nonneg a] at w
    exact w
  refine ⟨⟨jR2_90 o R, jTK_fr (fun _ _ _ _ => rfl) (fun i k a b => o i k (by omega)) T, jNd_fr (fun i j z => o i j (by omega)) nd⟩, ⟨by omega, by omega, by rw [o 176 14 (by decide)]; exact n3⟩, fun x => Iff.rfl, ⟨fun i a b => ?_, fun i j a b c => ?_, fun x a b c => ?_⟩, ?_, ?_, jLr_fr (fun i k x y => e i k (Or.inr (Or.inr ⟨x, y⟩))) q3⟩
  · have u := mem i.toNat (by omega)
    unfold jU at u
    rw [hat i a b, o 176 14 (by decide)]
    omega
  · have p1 := jprs_s (h := hm) (jUL hm).length (fun x y hx hy q => jodr_j h5 hk hx hy q) i.toNat (by omega)
    have p2 := jprs_s (h := hm) (jUL hm).length (fun x y hx hy q => jodr_j h5 hk hx hy q) j.toNat (by omega)
    have u1 := mem i.toNat (by omega)
    have u2 := mem j.toNat (by omega)
    unfold jU at u1 u2
    rw [hat i a (by omega), hat j (by omega) c]
    unfold jKy
    rw [p1, p2]
    omega
  · rw [o 176 14 (by decide)] at b
    rw [o 192 x (by decide)] at c
    obtain ⟨i, hi, q⟩ := jodr_s h5 hk ((jUL_m n0).2 ⟨a, b, c⟩)
    exact ⟨i, by omega, by omega, (r i hi).trans q⟩
  · rw [e 111 3 (Or.inr (Or.inl ⟨rfl, rfl⟩)), o 176 0 (by decide)]; exact q1
  · rw [e 111 3 (Or.inr (Or.inl ⟨rfl, rfl⟩))]
    exact jAlF_fr (fun i k a b => e i k (Or.inr (Or.inr ⟨a, by omega⟩))) (fun i k a b => o i k (by omega)) (fun i k a b => o i k (by omega)) (o 176 6 (by decide)) q2
def jsB (h : JH) : Prop := ∀ i : Int, 0 ≤ i → i < h 111 2 → (0 ≤ h (126 + 3 * h 175 i) 2 ∧ h (126 + 3 * h 175 i) 2 ≤ 2000) ∧ 0 ≤ h 111 3 ∧ h 111 3 ≤ 2000
theorem jlb_p {r now due : Int} : 0 ≤ jlb r now due := by
  unfold jlb
  by_cases z : 0 < (if r < 0 then now + 301 else r) - due
  · rw [if_pos z]; omega
  · rw [if_neg z]; exact Int.le_refl 0
theorem jsl3_p {o : Nat → Int} {m : Nat} {hm : JH} : ∀ n : Nat, 0 ≤ jsl3 o m hm n
  | 0 => Int.le_refl 0
  | n + 1 => by
      show 0 ≤ jsl3 o m hm n + jlb (jSin (jprs o m hm) (o n)) (hm 176 0) (hm 191 (o n))
      have a := jsl3_p (o := o) (m := m) (hm := hm) n
      have b := jlb_p (r := jSin (jprs o m hm) (o n)) (now := hm 176 0) (due := hm 191 (o n))
      omega
theorem jsk_p {hm : JH} : ∀ k : Nat, 0 ≤ jsk hm k := fun k => jsl3_p _
theorem jadd3 {a b : Int} {n : Nat} (h5 : n + 1 ≤ 5) (a0 : 0 ≤ a) (a1 : a ≤ 2301 * n) (b0 : 0 ≤ b ∧ b ≤ 2301) : jw32 (a + b) = a + b ∧ a + b ≤ 2301 * ((n + 1 : Nat) : Int) := ⟨j32e (by omega) (by omega), by omega⟩
theorem jsc3_l {g hm : JH} {o : Nat → Int} {m : Nat} (h5 : m ≤ 5) (q1 : g 111 3 = hm 176 0) (hM : g 111 2 = m) (B : jsB g) (s9 : ∀ i : Nat, i < m → 0 ≤ hm 176 0 → hm 176 0 ≤ 2000 → jSin (jprs o m hm) (o i) = -9 ∨ (0 ≤ jSin (jprs o m hm) (o i) ∧ jSin (jprs o m hm) (o i) ≤ 2300))
    (r : ∀ i : Nat, i < m → g 175 i = o i ∧ g (126 + 3 * o i) 9 = jSin (jprs o m hm) (o i) ∧ g (126 + 3 * o i) 2 = hm 191 (o i)) : ∀ n : Nat, n ≤ m → jsc3 g n = jsl3 o m hm n ∧ jsl3 o m hm n ≤ 2301 * n
  | 0, _ => ⟨rfl, by show (0 : Int) ≤ 2301 * ((0 : Nat) : Int); omega⟩
  | n + 1, hn => by
      obtain ⟨i1, i2⟩ := jsc3_l h5 q1 hM B s9 r n (by omega)
      obtain ⟨r1, r2, r3⟩ := r n (by omega)
      have b := B n (by omega) (by omega)
      rw [r1, r3, q1] at b
      have s := s9 n (by omega) b.2.1 b.2.2
      have p := jsl3_p (o := o) (m := m) (hm := hm) n
      have c := jlb_b s b.1 b.2
      have e := jlt_b s b.1 b.2
      show jw32 (jsc3 g n + jlt (g (126 + 3 * g 175 n) 9) (g (126 + 3 * g 175 n) 2) (g 111 3)) = jsl3 o m hm n + jlb (jSin (jprs o m hm) (o n)) (hm 176 0) (hm 191 (o n)) ∧ jsl3 o m hm n + jlb (jSin (jprs o m hm) (o n)) (hm 176 0) (hm 191 (o n)) ≤ 2301 * ((n + 1 : Nat) : Int)
      rw [r1, r2, r3, q1, e, i1]
      exact jadd3 (Nat.le_trans hn h5) p i2 c
theorem jcS_e {h hm : JH} (S : jDR False h hm) : jull (jcS h) (h 29 4).toNat = jUL hm := by
  unfold jUL
  rw [S.1.1]
  have a := S.1.2.1
  have b := S.1.2.2.1
  exact jull_c _ (fun i x y => (S.2.1.2.2 i ⟨x, by omega⟩).1.2.1)
/-- so many orders are tried -/
def jFX (k : Int) (h g : JH) : Prop := ∀ hm : JH, jDR False h hm → h 111 3 = hm 176 0 → jAlF (h 111 3) h hm → jLr h → jS9 hm → (jUL hm).length ≤ 5 →
  g 111 2 = (jUL hm).length ∧ k ≤ (jfa (jUL hm).length : Int) ∧ (k < (jfa (jUL hm).length : Int) → ∀ i : Nat, i < (jUL hm).length → g 175 i = jodr hm k.toNat i) ∧ (g 111 0 = if k = 0 then 1000000 else (jbq (jsk hm) k.toNat).1) ∧ (0 < k → ∀ i : Nat, i < (jUL hm).length → g 112 i = jodr hm (jbq (jsk hm) k.toNat).2 i)
theorem jGa_0 {h g : JH} (e : g = jup h 111 2 0) : jGa 0 h g := ⟨(jup_s e).trans rfl, Nat.zero_le _, fun i hi => absurd hi (Nat.not_lt_zero i)⟩
theorem jFX_0 {h g g' : JH} (G : jGaP h g) (e : g' = jup g 111 0 1000000) : jFX 0 h g' := fun hm S q1 q2 q3 s9 h5 => by
  have E := jcS_e S
  unfold jGaP at G
  rw [E] at G
  obtain ⟨a, b⟩ := G h5
  refine ⟨by rw [jup_o e (by omega)]; exact a, by have := jfa_p (jUL hm).length; omega, fun _ i hi => ?_, by rw [jup_s e, if_pos rfl], fun z => absurd z (by omega)⟩
  rw [jup_o e (by omega), b i hi]
  show (jUL hm).getD i 0 = (jUL hm).getD (jpos (jUL hm).length 0 i) 0
  rw [jpos_0 h5 hi]
theorem jFX_k {k : Nat} {t : Int} {h g g1 hm : JH} (S : jDR False h hm) (q1 : h 111 3 = hm 176 0) (q2 : jAlF (h 111 3) h hm) (q3 : jLr h) (s9 : jS9 hm) (h5 : (jUL hm).length ≤ 5) (hk : k < jfa (jUL hm).length)
    (e : ∀ i k : Int, jwk i k ∨ (i = 111 ∧ k = 3) ∨ (114 ≤ i ∧ i ≤ 118) → g i k = h i k) (r : ∀ i : Nat, i < (jUL hm).length → g 175 i = jodr hm k i) (hM : g 111 2 = (jUL hm).length)
    (z : ∀ (D : Int → Prop) (hm : JH), jTq 175 (g 111 2) D g hm → ∀ i : Int, 0 ≤ i → i < g 111 2 → g1 (126 + 3 * g 175 i) 9 = jit jmPi 300 hm 198 (g 175 i) ∧ g1 (126 + 3 * g 175 i) 2 = g (36 + 3 * g 175 i) 2)
    (f1 : ∀ i k : Int, i = 111 ∨ i = 112 ∨ i = 175 → g1 i k = g i k) (et : t = jsc3 g1 (g1 111 2).toNat) (B : jsB g1) : t = jsk hm k ∧ 0 ≤ t ∧ t ≤ 11505 := by
  have n0 : 0 ≤ hm 176 14 := S.1.2.1
  have Q := jTq_or S q1 q2 q3 h5 hk e r
  rw [hM] at z
  have Z := z _ _ Q
  have m1 : g1 111 2 = (jUL hm).length := (f1 _ _ (by omega)).trans hM
  have K := jsc3_l (g := g1) (hm := hm) (o := jodr hm k) (m := (jUL hm).length) h5 (by rw [f1 _ _ (by omega), e 111 3 (Or.inr (Or.inl ⟨rfl, rfl⟩))]; exact q1) m1 B (fun i hi x0 x1 => ?_) (fun i hi => ?_) (jUL hm).length (Nat.le_refl _)
  · rw [et, m1, Int.toNat_natCast, K.1]
    have p := jsl3_p (o := jodr hm k) (m := (jUL hm).length) (hm := hm) (jUL hm).length
    exact ⟨rfl, p, by have := K.2; omega⟩
  · have u := (jUL_m n0).1 (jodr_b h5 hk hi)
    have o : ∀ i j : Int, ¬ i = 190 → jprs (jodr hm k) (jUL hm).length hm i j = hm i j := fun i j q => jprs_o q _
    exact jS9_in (by rw [o 176 0 (by decide)]; exact ⟨x0, x1⟩) (jS9_fr (fun k _ _ => o 198 k (by decide)) (o 176 0 (by decide)) s9) ⟨u.1, by have := u.2.1; have := S.1.2.2.1; omega⟩
  · have w := Z i (by omega) (by omega)
    have u := (jUL_m n0).1 (jodr_b h5 hk hi)
    rw [r i hi] at w
    refine ⟨(f1 _ _ (by omega)).trans (r i hi), w.1, ?_⟩
    rw [w.2, e _ _ (Or.inl (by have := u.1; have := u.2.1; have := S.1.2.2.1; unfold jwk; omega))]
    exact (S.2.2.2.1 _ u.1 (by have := u.2.1; have := S.1.2.2.1; omega)).2
theorem jFX_s {x t : Int} {h g g1 g2 g3 : JH} (I : jFX x h g) (h0 : 0 ≤ x) (cx : x < (jfa (g 111 2).toNat : Int))
    (e : ∀ i k : Int, jwk i k ∨ (i = 111 ∧ k = 3) ∨ (114 ≤ i ∧ i ≤ 118) → g i k = h i k)
    (z : ∀ (D : Int → Prop) (hm : JH), jTq 175 (g 111 2) D g hm → ∀ i : Int, 0 ≤ i → i < g 111 2 → g1 (126 + 3 * g 175 i) 9 = jit jmPi 300 hm 198 (g 175 i) ∧ g1 (126 + 3 * g 175 i) 2 = g (36 + 3 * g 175 i) 2)
    (f1 : ∀ i k : Int, i = 111 ∨ i = 112 ∨ i = 175 → g1 i k = g i k) (et : t = jsc3 g1 (g1 111 2).toNat) (B : jsB g1)
    (u : (g 111 0 ≤ t ∧ g2 = g1) ∨ (t < g 111 0 ∧ g2 111 0 = t ∧ (∀ i : Int, 0 ≤ i → i < g 111 2 → g2 112 i = g1 175 i) ∧ g2 111 2 = g1 111 2 ∧ ∀ i : Int, g2 175 i = g1 175 i))
    (n : ∀ i : Int, g3 175 i = jnx3 (g2 111 2) (g2 175) i) (nf : ∀ i k : Int, i = 111 ∨ i = 112 → g3 i k = g2 i k) : jFX (x + 1) h g3 := fun hm S q1 q2 q3 s9 h5 => by
  obtain ⟨i1, i2, i3, i4, i5⟩ := I hm S q1 q2 q3 s9 h5
  rw [i1, Int.toNat_natCast] at cx
  have i6 := i3 cx
  obtain ⟨K, K0, K1⟩ := jFX_k S q1 q2 q3 s9 h5 (k := x.toNat) (by omega) e i6 i1 z f1 et B
  have xs : (x + 1).toNat = x.toNat + 1 := by omega
  have bq : jbq (jsk hm) (x.toNat + 1) = if (jbq (jsk hm) x.toNat).1 < 0 ∨ jsk hm x.toNat < (jbq (jsk hm) x.toNat).1 then (jsk hm x.toNat, x.toNat) else jbq (jsk hm) x.toNat := rfl
  have cnd : ((jbq (jsk hm) x.toNat).1 < 0 ∨ jsk hm x.toNat < (jbq (jsk hm) x.toNat).1) ↔ t < g 111 0 := by
    rw [← K, i4]
    by_cases x0 : x = 0
    · rw [if_pos x0]
      have w : (jbq (jsk hm) x.toNat).1 = -1 := by rw [x0]; rfl
      omega
    · rw [if_neg x0]
      have w := (jbq_b (jsk_p (hm := hm)) x.toNat (by omega)).1
      omega
  have g2s : g2 111 2 = (jUL hm).length ∧ ∀ i : Int, g2 175 i = g 175 i := by
    rcases u with ⟨_, u2⟩ | ⟨_, _, _, u4, u5⟩
    · rw [u2]; exact ⟨(f1 _ _ (by omega)).trans i1, fun i => f1 _ _ (by omega)⟩
    · exact ⟨u4.trans ((f1 _ _ (by omega)).trans i1), fun i => (u5 i).trans (f1 _ _ (by omega))⟩
  refine ⟨(nf _ _ (by omega)).trans g2s.1, by omega, fun c i hi => ?_, ?_, fun _ i hi => ?_⟩
  · rw [n, g2s.1, xs]
    exact jnx_l h5 (by omega) (fun a b p q => jull_srt _ _ _ p q) (fun j hj => (g2s.2 j).trans (i6 j hj)) i hi
  · rw [nf _ _ (by omega), if_neg (show ¬ x + 1 = 0 by omega), xs, bq]
    rcases u with ⟨u1, u2⟩ | ⟨u1, u2, u3, u4, u5⟩
    · rw [if_neg (fun q => absurd (cnd.1 q) (by omega)), u2, f1 _ _ (by omega), i4]
      by_cases x0 : x = 0
      · rw [if_pos x0] at i4; omega
      · rw [if_neg x0]
    · rw [if_pos (cnd.2 u1), u2]; exact K
  · rw [nf _ _ (by omega), xs, bq]
    rcases u with ⟨u1, u2⟩ | ⟨u1, u2, u3, u4, u5⟩
    · rw [if_neg (fun q => absurd (cnd.1 q) (by omega)), u2, f1 _ _ (by omega)]
      by_cases x0 : x = 0
      · rw [if_pos x0] at i4; omega
      · exact i5 (by omega) i hi
    · rw [if_pos (cnd.2 u1), u3 i (by omega) (by omega), f1 _ _ (by omega)]; exact i6 i hi
def jFLp (h g : JH) : Prop := ∀ hm : JH, jDR False h hm → h 111 3 = hm 176 0 → jAlF (h 111 3) h hm → jLr h → jH3 h hm → jH3 g hm
theorem jFL_e {x : Int} {h g g' : JH} (I : jFX x h g) (h0 : 0 ≤ x) (ex : (jfa (g 111 2).toNat : Int) ≤ x ∨ g 111 0 ≤ 0) (e : g' = jup g 111 11 1) : jFLp h g' := fun hm S q1 q2 q3 _ _ s9 h5 => by
  obtain ⟨i1, i2, i3, i4, i5⟩ := I hm S q1 q2 q3 s9 h5
  rw [i1, Int.toNat_natCast] at ex
  have j0 := jfa_p (jUL hm).length
  have kk : 0 < x ∧ jbq (jsk hm) (jfa (jUL hm).length) = jbq (jsk hm) x.toNat := by
    rcases ex with ex | ex
    · exact ⟨by omega, by rw [show jfa (jUL hm).length = x.toNat by omega]⟩
    · by_cases x0 : x = 0
      · rw [i4, if_pos x0] at ex; omega
      · have b := (jbq_b (jsk_p (hm := hm)) x.toNat (by omega)).1
        rw [i4, if_neg x0] at ex
        exact ⟨by omega, jbq_0 (jsk_p (hm := hm)) (by omega) _ (by omega)⟩
  refine ⟨by rw [jup_o e (by omega)]; exact i1, by rw [jup_o e (by omega), i4, if_neg (by omega), kk.2], fun i hi => by rw [jup_o e (by omega), kk.2]; exact i5 kk.1 i hi⟩
/-- the class's order is found -/
theorem jFO_ap {a : Int} {h g1 g : JH} (P : jSAp a h g1) (ea : a = h 0 0) (f1 : ∀ i k : Int, jwk i k ∨ (i = 111 ∧ (k = 0 ∨ k = 2 ∨ k = 10 ∨ k = 11)) ∨ i = 112 ∨ i = 174 → g1 i k = h i k) (F : jFLp g1 g) (f2 : ∀ i k : Int, (i = 111 ∧ (k = 3 ∨ k = 9 ∨ k = 10)) ∨ (114 ≤ i ∧ i ≤ 118) ∨ i = 174 → g i k = g1 i k) : jAP h g := fun hm S q => by
  have k1 := jSA_h P S (by rw [ea]; exact S.1.2.2.2.1) q.1
  have S1 : jDR False g1 hm := jDF_fr (fun i k w => f1 i k (Or.inl w)) (fun _ _ _ => rfl) S
  exact ⟨jH1_fr (fun i k w => f2 i k (by omega)) (fun _ => k1.2), jH2_fr ((f2 _ _ (by omega)).trans (f1 _ _ (Or.inr (Or.inl ⟨rfl, by omega⟩)))) (fun k => (f2 _ _ (by omega)).trans (f1 _ _ (Or.inr (Or.inr (Or.inr rfl))))) q.2.1, F hm S1 k1.2.1 k1.2.2.1 k1.2.2.2 (jH3_fr (fun i k w => f1 i k (by
    rcases w with w | w
    · exact Or.inr (Or.inl (by omega))
    · exact Or.inr (Or.inr (Or.inl w)))) q.2.2)⟩
/-! how many are in a state -/
def jct (S : Int → Int) (w : Int) : Nat → Int
  | 0 => 0
  | n + 1 => if S n = w then jct S w n + 1 else jct S w n
theorem jct_s {S : Int → Int} {w x : Int} (h0 : 0 ≤ x) : jct S w (x + 1).toNat = if S x = w then jct S w x.toNat + 1 else jct S w x.toNat := by
  obtain ⟨n, rfl⟩ := Int.eq_ofNat_of_zero_le h0
  rfl
theorem jct_l {S : Int → Int} : ∀ n : Nat, jct S 0 n + jct S 1 n = (jull S n).length
  | 0 => rfl
  | n + 1 => by
      have ih := jct_l (S := S) n
      have st : jull S (n + 1) = if S n = 0 ∨ S n = 1 then jull S n ++ [(n : Int)] else jull S n := rfl
      show (if S n = 0 then jct S 0 n + 1 else jct S 0 n) + (if S n = 1 then jct S 1 n + 1 else jct S 1 n) = _
      rw [st]
      by_cases y : S n = 0
      · rw [if_pos y, if_neg (by omega), if_pos (Or.inl y), List.length_append, List.length_singleton]; omega
      · by_cases w : S n = 1
        · rw [if_neg y, if_pos w, if_pos (Or.inr w), List.length_append, List.length_singleton]; omega
        · rw [if_neg y, if_neg w, if_neg (by omega)]; exact ih
theorem jnx3_i {m a o : Int} {T : Int → Int} (ha : jn1 T m.toNat (m - 2) = a) (h0 : 0 ≤ a) (ho : jn2 T a (m - 1 - a).toNat (m - 1) = o) : jnx3 m T = jn3 m.toNat (a + 1) (m - 1) (jsw a o T) := by
  unfold jnx3
  rw [ha, if_neg (by omega), ho]
theorem jnx3_n {m a : Int} {T : Int → Int} (ha : jn1 T m.toNat (m - 2) = a) (h0 : a < 0) : jnx3 m T = T := by
  unfold jnx3
  rw [ha, if_pos h0]
theorem jn1_n {T : Int → Int} {a : Int} (h : a < 0) : ∀ f : Nat, jn1 T f a = a
  | 0 => rfl
  | _ + 1 => if_neg (fun q => by omega)
theorem jSA_9 {a : Int} {h g : JH} (P : jSAp a h g) : ¬ g 111 9 = 0 := by
  rcases P with ⟨p1, p2⟩ | ⟨p1, _⟩
  · rw [p2]; exact p1
  · rw [p1]; decide
