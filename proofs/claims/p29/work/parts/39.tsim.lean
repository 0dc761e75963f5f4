/-! ===== AHEAD: what is kept ===== -/
def jma (i k : Int) : Prop := (i = 176 ∧ (k = 0 ∨ k = 6 ∨ k = 14)) ∨ (177 ≤ i ∧ i ≤ 180) ∨ ((i = 181 ∨ i = 202) ∧ 0 ≤ k ∧ k < 6) ∨ (182 ≤ i ∧ i ≤ 188) ∨ (189 ≤ i ∧ i ≤ 198 ∧ 0 ≤ k ∧ k < 16) ∨ (199 ≤ i ∧ i ≤ 200 ∧ 0 ≤ k ∧ k < 96)
theorem jDF_fr {hc hm hc' hm' : JH} (e : ∀ i k : Int, jwk i k → hc' i k = hc i k) (m : ∀ i k : Int, jma i k → hm' i k = hm i k) (S : jDR False hc hm) : jDR False hc' hm' := by
  obtain ⟨⟨n1, n2, n3, n4, n5, nd⟩, R, T, K, C, Tr⟩ := S
  have w14 : hm' 176 14 = hm 176 14 := m _ _ (by unfold jma; omega)
  have w0 : hm' 176 0 = hm 176 0 := m _ _ (by unfold jma; omega)
  refine ⟨⟨by rw [e 29 4 (by unfold jwk; omega), w14]; exact n1, by omega, by omega, by rw [e 0 0 (by unfold jwk; omega), w0]; exact n4, by omega, jNd_fr (fun i j z => m i j (by unfold jma; omega)) nd⟩, ?_, jTK_fr (fun i k _ _ => e i k (by unfold jwk; omega)) (fun i k _ _ => m i k (by unfold jma; omega)) T, fun k a b => ?_, ?_, fun f => f.elim⟩
  · exact jR2_fr jDn_16 (fun i k z z2 => e i k (by unfold jwk; omega)) (fun i k z => m i k (by unfold jma; omega)) R
  · rw [e _ 1 (by unfold jwk; omega), m 190 k (by unfold jma; omega), e _ 2 (by unfold jwk; omega), m 191 k (by unfold jma; omega)]; exact K k a b
  · exact jCF_fr (fun i k _ _ => e i k (by unfold jwk; omega)) (fun i k _ _ => e i k (by unfold jwk; omega)) (e 11 0 (by unfold jwk; omega)) (fun i k _ _ => m i k (by unfold jma; omega)) (fun i k _ _ => m i k (by unfold jma; omega)) (m 176 6 (by unfold jma; omega)) C
def jU (hm : JH) (k : Int) : Prop := 0 ≤ k ∧ k < hm 176 14 ∧ (hm 192 k = 0 ∨ hm 192 k = 1)
def jSin (hm : JH) (k : Int) : Int := jit jmPi 300 hm 198 k
/-! the orders -/
def jull (S : Int → Int) : Nat → List Int
  | 0 => []
  | n + 1 => if S n = 0 ∨ S n = 1 then jull S n ++ [(n : Int)] else jull S n
def jUL (hm : JH) : List Int := jull (hm 192) (hm 176 14).toNat
def jfa : Nat → Nat
  | 0 => 1
  | n + 1 => (n + 1) * jfa n
def jpn : Nat → List Nat → Nat → List Nat
  | 0, _, _ => []
  | f + 1, l, k => l.getD (k / jfa f) 0 :: jpn f (l.eraseIdx (k / jfa f)) (k % jfa f)
def jpos (m k i : Nat) : Nat := (jpn m (List.range m) k).getD i 0
def jodr (hm : JH) (k i : Nat) : Int := (jUL hm).getD (jpos (jUL hm).length k i) 0
def jprs (o : Nat → Int) : Nat → JH → JH
  | 0, h => h
  | n + 1, h => jup (jprs o n h) 190 (o n) (99 - n)
def jlb (r now due : Int) : Int := if 0 < (if r < 0 then now + 301 else r) - due then (if r < 0 then now + 301 else r) - due else 0
def jsl3 (o : Nat → Int) (m : Nat) (hm : JH) : Nat → Int
  | 0 => 0
  | n + 1 => jsl3 o m hm n + jlb (jSin (jprs o m hm) (o n)) (hm 176 0) (hm 191 (o n))
def jbq (s : Nat → Int) : Nat → Int × Nat
  | 0 => (-1, 0)
  | k + 1 => if (jbq s k).1 < 0 ∨ s k < (jbq s k).1 then (s k, k) else jbq s k
def jsk (hm : JH) (k : Nat) : Int := jsl3 (jodr hm k) (jUL hm).length hm (jUL hm).length
/-! since when hulls are ready -/
def jS9 (h : JH) : Prop := ∀ k : Int, 0 ≤ k → k < 16 → h 198 k = -9 ∨ (0 ≤ h 198 k ∧ h 198 k ≤ h 176 0)
/-! what the outlook holds, against a picture of the reference -/
def jH1 (h hm : JH) : Prop := ¬ h 111 9 = 0 → h 111 3 = hm 176 0 ∧ jAlF (h 111 3) h hm ∧ jLr h
def jH2 (h hm : JH) : Prop := ¬ h 111 10 = 0 → ∀ k : Int, jU hm k → h 174 k = jSin hm k
def jH3 (h hm : JH) : Prop := ¬ h 111 11 = 0 → jS9 hm → (jUL hm).length ≤ 5 → h 111 2 = (jUL hm).length ∧ h 111 0 = (jbq (jsk hm) (jfa (jUL hm).length)).1 ∧ ∀ i : Nat, i < (jUL hm).length → h 112 i = jodr hm (jbq (jsk hm) (jfa (jUL hm).length)).2 i
def jHH (h hm : JH) : Prop := jH1 h hm ∧ jH2 h hm ∧ jH3 h hm
def jwh3 (i k : Int) : Prop := (i = 111 ∧ (k = 0 ∨ k = 2 ∨ k = 3 ∨ k = 9 ∨ k = 10 ∨ k = 11)) ∨ i = 112 ∨ (114 ≤ i ∧ i ≤ 118) ∨ i = 174
theorem jLr_fr {h g : JH} (e : ∀ i k : Int, 114 ≤ i → i ≤ 118 → g i k = h i k) (q : jLr h) : jLr g := fun x c p0 p1 p2 p3 t u => by
  rw [e 115 x (by decide) (by decide)] at t
  rw [e 114 _ (by decide) (by decide)] at u
  rw [e 118 c (by decide) (by decide)]
  exact q x c p0 p1 p2 p3 t u
theorem jH1_fr {h g hm : JH} (e : ∀ i k : Int, (i = 111 ∧ (k = 3 ∨ k = 9)) ∨ (114 ≤ i ∧ i ≤ 118) → g i k = h i k) (q : jH1 h hm) : jH1 g hm := fun n => by
  rw [e 111 9 (by omega)] at n
  obtain ⟨a, b, c⟩ := q n
  refine ⟨by rw [e 111 3 (by omega)]; exact a, ?_, jLr_fr (fun i k x y => e i k (by omega)) c⟩
  rw [e 111 3 (by omega)]
  exact jAlF_fr (fun i k x y => e i k (by omega)) (fun _ _ _ _ => rfl) (fun _ _ _ _ => rfl) rfl b
theorem jH2_fr {h g hm : JH} (e0 : g 111 10 = h 111 10) (e : ∀ k : Int, g 174 k = h 174 k) (q : jH2 h hm) : jH2 g hm := fun n k u => by
  rw [e]; exact q (by rw [← e0]; exact n) k u
theorem jH3_fr {h g hm : JH} (e : ∀ i k : Int, (i = 111 ∧ (k = 0 ∨ k = 2 ∨ k = 11)) ∨ i = 112 → g i k = h i k) (q : jH3 h hm) : jH3 g hm := fun n s l => by
  rw [e 111 11 (by omega)] at n
  obtain ⟨a, b, c⟩ := q n s l
  exact ⟨by rw [e 111 2 (by omega)]; exact a, by rw [e 111 0 (by omega)]; exact b, fun i u => by rw [e 112 _ (by omega)]; exact c i u⟩
theorem jHH_fr {h g hm : JH} (e : ∀ i k : Int, jwh3 i k → g i k = h i k) (q : jHH h hm) : jHH g hm :=
  ⟨jH1_fr (fun i k x => e i k (by unfold jwh3; omega)) q.1, jH2_fr (e _ _ (by unfold jwh3; omega)) (fun k => e _ _ (by unfold jwh3; omega)) q.2.1, jH3_fr (fun i k x => e i k (by unfold jwh3; omega)) q.2.2⟩
/-- a call that keeps the outlook right -/
def jAP (h g : JH) : Prop := ∀ hm : JH, jDR False h hm → jHH h hm → jHH g hm
theorem jAP_fr {h g : JH} (e : ∀ i k : Int, jwh3 i k → g i k = h i k) : jAP h g := fun _ _ q => jHH_fr e q
/-- the outlook is right whatever lies beside what the reference reads -/
def jAh (h : JH) : Prop := ∀ hm : JH, (∀ i k : Int, jma i k → hm i k = h i k) → jHH h hm
theorem jAh_fr {h g : JH} (l : ∀ i k : Int, jma i k → g i k = h i k) (e : ∀ i k : Int, jwh3 i k → g i k = h i k) (A : jAh h) : jAh g := fun hm q => jHH_fr e (A hm (fun i k w => (q i k w).trans (l i k w)))
theorem jAh_P {h g1 g2 : JH} (S : jDR False h h) (P : jAP h g1) (l : ∀ i k : Int, jma i k → g2 i k = h i k) (e : ∀ i k : Int, jwh3 i k → g2 i k = g1 i k) (A : jAh h) : jAh g2 := fun hm q => by
  have q' : ∀ i k : Int, jma i k → hm i k = h i k := fun i k w => (q i k w).trans (l i k w)
  exact jHH_fr e (P hm (jDF_fr (fun _ _ _ => rfl) q' S) (A hm q'))
/-- what is found is thrown away, or nothing was done -/
def jFg (b : Prop) (h g : JH) : Prop := (g 111 9 = 0 ∧ g 111 10 = 0 ∧ g 111 11 = 0) ∨ (b ∧ ∀ i k : Int, ¬ i = 1 → g i k = h i k)
def jRx (b : Prop) (h g : JH) : Prop := b → ∀ i k : Int, jma i k → g i k = h i k
theorem jAh_m {B : Prop} {h g1 g2 : JH} (e : jFg B h g1) (r : B → ∀ i k : Int, jma i k → g2 i k = g1 i k) (f : ∀ k : Int, g2 111 k = g1 111 k) (f2 : ∀ i k : Int, jwh3 i k → g2 i k = g1 i k) (A : jAh h) : jAh g2 := by
  rcases e with ⟨z1, z2, z3⟩ | ⟨b, u⟩
  · intro hm _
    exact ⟨fun n => absurd ((f 9).trans z1) n, fun n => absurd ((f 10).trans z2) n, fun n => absurd ((f 11).trans z3) n⟩
  · exact jAh_fr (fun i k w => (r b i k w).trans (u i k (by unfold jma at w; omega))) (fun i k w => (f2 i k w).trans (u i k (by unfold jwh3 at w; omega))) A
/-! the almanac is written -/
def jSt1 (a x : Int) (h g : JH) : Prop := ∀ hm : JH, jDR False h hm → a = hm 176 0 → jCd g (a + x) ∧ ∀ r : Int, 0 ≤ r → r < x → jAlm 114 r (a + 1 + r) g hm
def jSt2 (x y : Int) (g : JH) : Prop := (∀ z c : Int, 0 ≤ z → z < x → 0 ≤ c → c < 4 → 0 < g 115 z → 0 < g 114 (z * 4 + c) → z ≤ g 118 c) ∧ (∀ c : Int, 0 ≤ c → c < y → 0 < g 115 x → 0 < g 114 (x * 4 + c) → x ≤ g 118 c)
theorem jSt1_0 {a : Int} {h g : JH} (rw9 : (∀ t : Int, 0 ≤ t → t ≤ 9 → g 15 t = if t = 9 then 60 else 0) ∧ g 11 5 = 0) (b0 : 0 ≤ g 11 0) : jSt1 a 0 h g := fun hm _ _ => by
  refine ⟨⟨fun t x y => ?_, by rw [rw9.2]; omega, by rw [rw9.2]; exact b0, fun i x y => ?_⟩, fun r x y => absurd y (by omega)⟩
  · rw [rw9.1 t x y, rw9.2]; rfl
  · rw [rw9.2] at y; omega
theorem jSt1_fr {a x : Int} {h g g' : JH} (e : ∀ i k : Int, (11 ≤ i ∧ i ≤ 15) ∨ (114 ≤ i ∧ i ≤ 117) → g' i k = g i k) (I : jSt1 a x h g) : jSt1 a x h g' := fun hm S q => by
  obtain ⟨⟨c1, c2, c3, c4⟩, i2⟩ := I hm S q
  refine ⟨⟨jCo_fr (fun i k u v => e i k (by omega)) c1, by rw [e 11 5 (by omega)]; exact c2, by rw [e 11 5 (by omega), e 11 0 (by omega)]; exact c3, fun i u v => ?_⟩, fun r u v => ?_⟩
  · rw [e 14 i (by omega)]; exact c4 i u (by rw [e 11 5 (by omega)] at v; exact v)
  · exact jAlm_fr (fun i k p q => e i k (by omega)) (fun _ _ _ _ => rfl) (fun _ _ _ _ => rfl) rfl (i2 r u v)
theorem jAlm_row {r d : Int} {hc hc' hm : JH} (e : ∀ c : Int, 0 ≤ c → c < 4 → hc' 114 (r * 4 + c) = hc 114 (r * 4 + c)) (e1 : hc' 115 r = hc 115 r) (e3 : hc' 117 r = hc 117 r) (q : jAlm 114 r d hc hm) : jAlm 114 r d hc' hm := by
  obtain ⟨q1, q2, q3, q4⟩ := q
  have f1 : hc (114 + 1) r = hc 115 r := rfl
  have f3 : hc (114 + 3) r = hc 117 r := rfl
  have g1 : hc' (114 + 1) r = hc' 115 r := rfl
  have g3 : hc' (114 + 3) r = hc' 117 r := rfl
  rw [f1] at q2
  rw [f3] at q4
  refine ⟨fun x a b => ?_, ?_, q3, ?_⟩
  · rw [e x a b]; exact q1 x a b
  · rw [g1, e1]; exact q2
  · rw [g3, e3]; exact q4
theorem jSt1_w {a x : Int} {h g g' : JH} (I : jSt1 a x h g) (h0 : 0 ≤ a) (hx : 0 ≤ x) (f : ∀ i k : Int, (3 ≤ i ∧ i ≤ 10) ∨ (12 ≤ i ∧ i ≤ 14) ∨ (i = 11 ∧ k = 0) → g i k = h i k) (w : jWri 114 x (a + 1 + x) g g') (e : ∀ i k : Int, 12 ≤ i → i ≤ 14 → g' i k = g i k) (e0 : g' 11 0 = g 11 0) : jSt1 a (x + 1) h g' := fun hm S q => by
  obtain ⟨cd, al⟩ := I hm S q
  have C : jCF g hm := jCF_fr (fun i k u v => f i k (by omega)) (fun i k u v => f i k (by omega)) (f 11 0 (by omega)) (fun _ _ _ _ => rfl) (fun _ _ _ _ => rfl) rfl S.2.2.2.2.1
  obtain ⟨k1, k2⟩ := jAlm_w (Or.inr rfl) C (by omega) cd (by omega) w e e0
  rw [show a + 1 + x = a + (x + 1) by omega] at k2
  refine ⟨k2, fun r u v => ?_⟩
  by_cases z : r = x
  · rw [z]; exact k1
  · obtain ⟨_, _, _, _, _, _, w7, w8⟩ := w
    exact jAlm_row (fun c p1 p2 => w7 _ (by omega)) (w8 115 r (by decide) (by decide) z) (w8 117 r (by decide) (by decide) z) (al r u (by omega))
theorem jSt2_0 {g : JH} : jSt2 0 0 g := ⟨fun z c a b => absurd b (by omega), fun c a b => absurd b (by omega)⟩
theorem jSt2_fr {x y : Int} {g g' : JH} (e : ∀ i k : Int, 114 ≤ i → i ≤ 118 → g' i k = g i k) (q : jSt2 x y g) : jSt2 x y g' := by
  unfold jSt2
  refine ⟨fun z c p1 p2 p3 p4 u v => ?_, fun c p1 p2 u v => ?_⟩
  · rw [e 115 _ (by decide) (by decide)] at u
    rw [e 114 _ (by decide) (by decide)] at v
    rw [e 118 _ (by decide) (by decide)]
    exact q.1 z c p1 p2 p3 p4 u v
  · rw [e 115 _ (by decide) (by decide)] at u
    rw [e 114 _ (by decide) (by decide)] at v
    rw [e 118 _ (by decide) (by decide)]
    exact q.2 c p1 p2 u v
theorem jSt2_w {x d : Int} {g g' : JH} (w : jWri 114 x d g g') (e : ∀ c : Int, g' 118 c = g 118 c) (q : jSt2 x 0 g) : jSt2 x 0 g' := by
  obtain ⟨_, _, _, _, _, _, w7, w8⟩ := w
  refine ⟨fun z c p1 p2 p3 p4 u v => ?_, fun c p1 p2 => absurd p2 (by omega)⟩
  rw [w8 115 z (by decide) (by decide) (by omega)] at u
  rw [w7 _ (by omega)] at v
  rw [e]
  exact q.1 z c p1 p2 p3 p4 u v
theorem jSt2_n {x y : Int} {g : JH} (no : g 115 x ≤ 0 ∨ g 114 (x * 4 + y) ≤ 0) (q : jSt2 x y g) : jSt2 x (y + 1) g := ⟨q.1, fun c p1 p2 u v => by
  by_cases z : c = y
  · rw [z] at v; omega
  · exact q.2 c p1 (by omega) u v⟩
theorem jSt2_y {x y : Int} {g g' : JH} (e : g' = jup g 118 y x) (hx : 0 ≤ x) (q : jSt2 x y g) : jSt2 x (y + 1) g' := by
  refine ⟨fun z c p1 p2 p3 p4 u v => ?_, fun c p1 p2 u v => ?_⟩
  · rw [jup_o e (by omega)] at u v
    by_cases w : c = y
    · rw [w, jup_s e]; omega
    · rw [jup_o e (by omega)]; exact q.1 z c p1 p2 p3 p4 u v
  · rw [jup_o e (by omega)] at u v
    by_cases w : c = y
    · rw [w, jup_s e]; omega
    · rw [jup_o e (by omega)]; exact q.2 c p1 (by omega) u v
theorem jSt2_e {x : Int} {g : JH} (q : jSt2 x 4 g) : jSt2 (x + 1) 0 g := ⟨fun z c p1 p2 p3 p4 u v => by
  by_cases w : z = x
  · rw [w] at u v ⊢; exact q.2 c p3 p4 u v
  · exact q.1 z c p1 (by omega) p3 p4 u v, fun c p1 p2 => absurd p2 (by omega)⟩
/-- what standAt leaves -/
def jSAp (a : Int) (h g : JH) : Prop := (¬ h 111 9 = 0 ∧ ∀ i k : Int, g i k = h i k) ∨ (g 111 9 = 1 ∧ g 111 3 = a ∧ jSt1 a 300 h g ∧ jSt2 300 0 g)
theorem jSA_h {a : Int} {h g hm : JH} (P : jSAp a h g) (S : jDR False h hm) (ea : a = hm 176 0) (q : jH1 h hm) : ¬ g 111 9 = 0 ∧ g 111 3 = hm 176 0 ∧ jAlF (g 111 3) g hm ∧ jLr g := by
  rcases P with ⟨p1, p2⟩ | ⟨p1, p2, p3, p4⟩
  · obtain ⟨a1, a2, a3⟩ := q p1
    refine ⟨by rw [p2]; exact p1, by rw [p2]; exact a1, ?_, jLr_fr (fun i k _ _ => p2 i k) a3⟩
    rw [p2 111 3]
    exact jAlF_fr (fun i k _ _ => p2 i k) (fun _ _ _ _ => rfl) (fun _ _ _ _ => rfl) rfl a2
  · refine ⟨by rw [p1]; decide, by omega, ?_, fun x c q0 q1 q2 q3 u v => p4.1 x c q0 q1 q2 q3 u v⟩
    rw [p2]
    exact (p3 hm S ea).2
/-! when a hull will be ready -/
theorem jTq_lu {h g hm : JH} (S : jDR False h hm) (e : ∀ i k : Int, ¬ (i = 29 ∧ k = 6) → ¬ i = 34 → g i k = h i k) (H : jHo h g (h 29 4) (g 29 6) (g 29 6)) (b : 0 ≤ g 29 6 ∧ g 29 6 ≤ 16) (q1 : h 111 3 = hm 176 0) (q2 : jAlF (h 111 3) h hm) (q3 : jLr h) : jTq 34 (g 29 6) (fun k => ∃ i : Int, 0 ≤ i ∧ i < g 29 6 ∧ g 34 i = k) g hm := by
  have L := jLn_lu S H b.2
  have S' : jDR False g hm := jDF_fr (fun i k w => e i k (by unfold jwk at w; omega) (by unfold jwk at w; omega)) (fun _ _ _ => rfl) S
  obtain ⟨⟨n1, n2, n3, n4, n5, nd⟩, R, T, K, C, _⟩ := S'
  have e5 : ∀ i : Int, g (29 + 5) i = g 34 i := fun i => rfl
  refine ⟨⟨R, T, nd⟩, ⟨b.1, b.2, n3⟩, fun k => Iff.rfl, ⟨fun i a c => ?_, fun i j a c d => ?_, fun k a c d => ?_⟩, ?_, ?_, jLr_fr (fun i k _ _ => e i k (by omega) (by omega)) q3⟩
  · obtain ⟨l1, l2⟩ := L.1 i a c
    rw [e5] at l1 l2
    exact ⟨l1.1, l1.2, l2⟩
  · have l := L.2.1 i j a c d
    rw [e5, e5] at l
    exact l
  · obtain ⟨i, x, y, z⟩ := L.2.2 k a c d
    exact ⟨i, x, y, z⟩
  · rw [e 111 3 (by omega) (by omega)]; exact q1
  · rw [e 111 3 (by omega) (by omega)]
    exact jAlF_fr (fun i k _ _ => e i k (by omega) (by omega)) (fun _ _ _ _ => rfl) (fun _ _ _ _ => rfl) rfl q2
/-- what stands in the way of readyDay's last loop -/
def jRdI (x : Int) (h g : JH) : Prop := ∀ hm : JH, jDR False h hm → h 111 3 = hm 176 0 → jAlF (h 111 3) h hm → jLr h →
  (∀ k : Int, jU hm k → ∃ i : Int, 0 ≤ i ∧ i < g 29 6 ∧ g 34 i = k) ∧ (∀ i : Int, 0 ≤ i → i < g 29 6 → g (126 + 3 * g 34 i) 9 = jSin hm (g 34 i) ∧ g 34 i < 16) ∧ ∀ i : Int, 0 ≤ i → i < x → g 174 (g 34 i) = jSin hm (g 34 i)
theorem jRdI_0 {h g1 g2 : JH} (e : ∀ i k : Int, ¬ (i = 29 ∧ k = 6) → ¬ i = 34 → g1 i k = h i k) (H : jHo h g1 (h 29 4) (g1 29 6) (g1 29 6)) (b : 0 ≤ g1 29 6 ∧ g1 29 6 ≤ 16) (e6 : g2 29 6 = g1 29 6) (e34 : ∀ i : Int, g2 34 i = g1 34 i)
    (t : ∀ (D : Int → Prop) (hm : JH), jTq 34 (g1 29 6) D g1 hm → ∀ i : Int, 0 ≤ i → i < g1 29 6 → g2 (126 + 3 * g1 34 i) 9 = jit jmPi 300 hm 198 (g1 34 i) ∧ g2 (126 + 3 * g1 34 i) 2 = g1 (36 + 3 * g1 34 i) 2) : jRdI 0 h g2 := fun hm S q1 q2 q3 => by
  have Q := jTq_lu S e H b q1 q2 q3
  refine ⟨fun k u => ?_, fun i a c => ?_, fun i a c => absurd c (by omega)⟩
  · obtain ⟨i, x, y, z⟩ := Q.2.2.2.1.2.2 k u.1 u.2.1 u.2.2
    exact ⟨i, x, by omega, by rw [e34]; exact z⟩
  · rw [e34]
    exact ⟨(t _ hm Q i a (by omega)).1, (Q.2.2.2.1.1 i a (by omega)).2.1⟩
theorem jRdI_s {x v : Int} {h g g' : JH} (I : jRdI x h g) (h0 : 0 ≤ x) (h1 : x < g 29 6) (e : g' = jup g 174 (g 34 x) v) (ev : v = g (126 + 3 * g 34 x) 9) (l : 0 ≤ g 34 x ∧ g 34 x < 16) : jRdI (x + 1) h g' := fun hm S q1 q2 q3 => by
  obtain ⟨i1, i2, i3⟩ := I hm S q1 q2 q3
  have e6 : g' 29 6 = g 29 6 := jup_o e (by omega)
  have e34 : ∀ i : Int, g' 34 i = g 34 i := fun i => jup_o e (by omega)
  have w := i2 x h0 h1
  refine ⟨fun k u => ?_, fun i a c => ?_, fun i a c => ?_⟩
  · obtain ⟨i, a, b, c⟩ := i1 k u
    exact ⟨i, a, by omega, by rw [e34]; exact c⟩
  · rw [e34]
    have l2 := (i2 i a (by omega)).2
    have n : ¬ (126 + 3 * g 34 i = 174 ∧ (9 : Int) = g 34 x) := fun z => by omega
    rw [jup_o e n]; exact i2 i a (by omega)
  · rw [e34]
    by_cases z : g 34 i = g 34 x
    · rw [z, jup_s e, ev]; exact w.1
    · rw [jup_o e (fun y => z y.2)]
      exact i3 i a (by
        by_cases y : i = x
        · exact absurd (by rw [y]) z
        · omega)
def jRd (a x : Int) (h g : JH) : Prop := ¬ g 111 10 = 0 ∧ x = g 174 a ∧ ∀ hm : JH, jDR False h hm → h 111 3 = hm 176 0 → jAlF (h 111 3) h hm → jLr h → jH2 h hm → ∀ k : Int, jU hm k → g 174 k = jSin hm k
theorem jRd_e {a x z : Int} {h g g' : JH} (I : jRdI z h g) (hz : g 29 6 ≤ z) (e : g' = jup g 111 10 1) (ex : x = g' 174 a) : jRd a x h g' := by
  refine ⟨by rw [jup_s e]; decide, ex, fun hm S q1 q2 q3 _ k u => ?_⟩
  obtain ⟨i1, i2, i3⟩ := I hm S q1 q2 q3
  obtain ⟨i, p, q, r⟩ := i1 k u
  rw [jup_o e (by omega), ← r]
  exact i3 i p (by omega)
/-- ahead -/
def jRA (a x : Int) (h g : JH) : Prop := (∀ hm : JH, jDR False h hm → jHH h hm → jU hm a → x = jSin hm a) ∧ jAP h g
theorem jRA_mk {a d x : Int} {h g1 g : JH} (P : jSAp d h g1) (ed : d = h 0 0) (Q : jRd a x g1 g) (f1 : ∀ i k : Int, jwk i k ∨ (i = 111 ∧ (k = 0 ∨ k = 2 ∨ k = 10 ∨ k = 11)) ∨ i = 112 ∨ i = 174 → g1 i k = h i k) (f2 : ∀ i k : Int, (i = 111 ∧ (k = 0 ∨ k = 2 ∨ k = 3 ∨ k = 9 ∨ k = 11)) ∨ i = 112 ∨ (114 ≤ i ∧ i ≤ 118) → g i k = g1 i k) : jRA a x h g := by
  have key : ∀ hm : JH, jDR False h hm → jHH h hm → (¬ g1 111 9 = 0 ∧ g1 111 3 = hm 176 0 ∧ jAlF (g1 111 3) g1 hm ∧ jLr g1) ∧ ∀ k : Int, jU hm k → g 174 k = jSin hm k := fun hm S q => by
    have k1 := jSA_h P S (by rw [ed]; exact S.1.2.2.2.1) q.1
    have S1 : jDR False g1 hm := jDF_fr (fun i k w => f1 i k (Or.inl w)) (fun _ _ _ => rfl) S
    exact ⟨k1, Q.2.2 hm S1 k1.2.1 k1.2.2.1 k1.2.2.2 (jH2_fr (f1 _ _ (Or.inr (Or.inl ⟨rfl, by omega⟩))) (fun k => f1 _ _ (Or.inr (Or.inr (Or.inr rfl)))) q.2.1)⟩
  refine ⟨fun hm S q u => ?_, fun hm S q => ?_⟩
  · rw [Q.2.1]; exact (key hm S q).2 a u
  · obtain ⟨k1, k2⟩ := key hm S q
    refine ⟨jH1_fr (fun i k w => f2 i k (by omega)) (fun _ => k1.2), fun _ => k2, jH3_fr (fun i k w => (f2 i k (by omega)).trans (f1 i k (by
      rcases w with w | w
      · exact Or.inr (Or.inl (by omega))
      · exact Or.inr (Or.inr (Or.inl w))))) q.2.2⟩
/-! late, as class and reference reckon it -/
def jlt (r due f : Int) : Int := if jw32 ((if r = -9 then jw32 (jw32 (f + 300) + 1) else r) - due) ≤ 0 then 0 else jw32 ((if r = -9 then jw32 (jw32 (f + 300) + 1) else r) - due)
def jlbw (r now due : Int) : Int := if 0 < jw32 ((if r < 0 then jw32 (now + 301) else r) - due) then jw32 ((if r < 0 then jw32 (now + 301) else r) - due) else 0
theorem jlt_b {r due f : Int} (hr : r = -9 ∨ (0 ≤ r ∧ r ≤ 2300)) (hd : 0 ≤ due ∧ due ≤ 2000) (hf : 0 ≤ f ∧ f ≤ 2000) : jlt r due f = jlb r f due := by
  unfold jlt jlb
  rw [j32e (x := f + 300) (by omega) (by omega), j32e (x := f + 300 + 1) (by omega) (by omega)]
  rcases hr with hr | hr
  · rw [if_pos hr, if_pos (show r < 0 by omega), j32e (by omega) (by omega)]
    split <;> split <;> omega
  · rw [if_neg (show ¬ r = -9 by omega), if_neg (show ¬ r < 0 by omega), j32e (by omega) (by omega)]
    split <;> split <;> omega
theorem jlbw_b {r due f : Int} (hr : r = -9 ∨ (0 ≤ r ∧ r ≤ 2300)) (hd : 0 ≤ due ∧ due ≤ 2000) (hf : 0 ≤ f ∧ f ≤ 2000) : jlbw r f due = jlb r f due := by
  unfold jlbw jlb
  rw [j32e (x := f + 301) (by omega) (by omega)]
  rcases hr with hr | hr
  · rw [if_pos (show r < 0 by omega), j32e (by omega) (by omega)]
  · rw [if_neg (show ¬ r < 0 by omega), j32e (by omega) (by omega)]
theorem jlb_b {r due f : Int} (hr : r = -9 ∨ (0 ≤ r ∧ r ≤ 2300)) (hd : 0 ≤ due ∧ due ≤ 2000) (hf : 0 ≤ f ∧ f ≤ 2000) : 0 ≤ jlb r f due ∧ jlb r f due ≤ 2301 := by
  unfold jlb
  rcases hr with hr | hr
  · rw [if_pos (show r < 0 by omega)]; split <;> omega
  · rw [if_neg (show ¬ r < 0 by omega)]; split <;> omega
/-- what a step may do to that row -/
def jq9 (h g : JH) : Prop := g 176 0 = h 176 0 ∧ ∀ k : Int, g 198 k = h 198 k ∨ g 198 k = h 176 0
theorem jq9_rf (h : JH) : jq9 h h := ⟨rfl, fun _ => Or.inl rfl⟩
theorem jq9_tr {h g g' : JH} (a : jq9 h g) (b : jq9 g g') : jq9 h g' := ⟨b.1.trans a.1, fun k => by
  rcases b.2 k with x | x
  · rw [x]; exact a.2 k
  · rw [x, a.1]; exact Or.inr rfl⟩
theorem jq9_fr {h g : JH} (e0 : g 176 0 = h 176 0) (e : ∀ k : Int, g 198 k = h 198 k) : jq9 h g := ⟨e0, fun k => Or.inl (e k)⟩
theorem jq9_it {f : Int → JH → JH} (q : ∀ (i : Int) (h : JH), jq9 h (f i h)) {h : JH} : ∀ n : Nat, jq9 h (jit f n h)
  | 0 => jq9_rf h
  | n + 1 => jq9_tr (jq9_it q n) (q n _)
theorem jq9_mv {b : Int} {h : JH} : jq9 h (jmMv b h) := by
  unfold jmMv
  by_cases c : h 202 b < 0 ∨ h 202 b = 100 ∨ h 196 (h 202 b) = 0 ∨ 0 < h 195 (h 202 b)
  · rw [if_pos c]; exact jq9_rf h
  · rw [if_neg c]
    by_cases y : b = 5
    · rw [if_pos y]
      unfold jmLv
      refine ⟨by rw [jup_ne (by omega), jup_ne (by omega), jup_ne (by omega), jup_ne (by omega)], fun k => ?_⟩
      by_cases z : k = h 202 b
      · rw [z, jup_eq, jup_ne (by omega), jup_ne (by omega), jup_ne (by omega)]; exact Or.inr rfl
      · rw [jup_ne (by omega), jup_ne (by omega), jup_ne (by omega), jup_ne (by omega)]; exact Or.inl rfl
    · rw [if_neg y]
      by_cases x : h 202 (b + 1) < 0
      · rw [if_pos x]
        exact jq9_fr ((jmEnt_r.2.2.2 176 0 (by omega) (by omega) (by omega)).trans (jup_ne (by omega))) (fun k => (jmEnt_r.2.2.2 198 k (by omega) (by omega) (by omega)).trans (jup_ne (by omega)))
      · rw [if_neg x]; exact jq9_rf h
theorem jq9_li {h : JH} : jq9 h (jmLi h) := by
  unfold jmLi
  by_cases c : h 202 0 < 0 ∧ 0 ≤ jfb h (-1) 0 (h 176 14).toNat
  · rw [if_pos c]
    exact jq9_fr (jmEnt_r.2.2.2 176 0 (by omega) (by omega) (by omega)) (fun k => jmEnt_r.2.2.2 198 k (by omega) (by omega) (by omega))
  · rw [if_neg c]; exact jq9_rf h
theorem jq9_ch {op : Int → JH → JH} {nx : Int → JH → Int} (q : ∀ (i : Int) (h : JH), jq9 h (op i h)) : ∀ (n : Nat) (x : Int) (h : JH), jq9 h (jch op nx n x h)
  | 0, _, h => jq9_rf h
  | n + 1, x, h => by
      show jq9 h (if x < 0 then h else jch op nx n (nx x (op x h)) (op x h))
      by_cases z : x < 0
      · rw [if_pos z]; exact jq9_rf h
      · rw [if_neg z]; exact jq9_tr (q x h) (jq9_ch q n _ _)
theorem jq9_ch2 {op : Int → Int × JH → Int × JH} {nx : Int → Int × JH → Int} (q : ∀ (i : Int) (s : Int × JH), jq9 s.2 (op i s).2) : ∀ (n : Nat) (x : Int) (s : Int × JH), jq9 s.2 (jch op nx n x s).2
  | 0, _, s => jq9_rf s.2
  | n + 1, x, s => by
      show jq9 s.2 (if x < 0 then s else jch op nx n (nx x (op x s)) (op x s)).2
      by_cases z : x < 0
      · rw [if_pos z]; exact jq9_rf s.2
      · rw [if_neg z]; exact jq9_tr (q x s) (jq9_ch2 q n _ _)
theorem jq9_wc {wk cr c : Int} {h : JH} : jq9 h (jmWc wk cr c h) := by
  unfold jmWc jmWe
  have k : jq9 h (jmWs wk cr c h).2 := by
    unfold jmWs
    by_cases z : wk = 0
    · rw [if_pos z]; exact jq9_rf h
    · rw [if_neg z]
      refine jq9_ch2 (fun i s => ?_) 1700 _ (jHm h c (h 176 0), h)
      unfold jmWo
      by_cases y : s.2 196 i = 0 ∨ ¬ s.2 194 i = c
      · rw [if_pos y]; exact jq9_rf s.2
      · rw [if_neg y]
        show jq9 s.2 (jup s.2 195 i (jw32 (s.2 195 i - jmSn cr i s.1 s.2)))
        exact jq9_fr (jup_ne (by omega)) (fun k => jup_ne (by omega))
  exact jq9_tr k (jq9_fr (jup_ne (by omega)) (fun k => jup_ne (by omega)))
theorem jq9_ps {h : JH} : jmPs h 176 0 = h 176 0 + 1 ∧ ∀ k : Int, jmPs h 198 k = h 198 k ∨ jmPs h 198 k = h 176 0 + 1 := by
  have d0 : jmD0 h 176 0 = h 176 0 + 1 := jup_eq
  have d1 : ∀ k : Int, jmD0 h 198 k = h 198 k := fun k => jup_ne (by omega)
  have k : jq9 (jmD0 h) (jmPs h) := by
    have e : jmPs h = jit jmPy 4 (jit (jmWc (jmWk (jmGA (jmLi (jit jmMr 6 (jmD0 h))))) (jmFv (jmGA (jmLi (jit jmMr 6 (jmD0 h)))) 3 0 (jmGA (jmLi (jit jmMr 6 (jmD0 h))) 176 0))) 4 (jmGA (jmLi (jit jmMr 6 (jmD0 h))))) := rfl
    rw [e]
    refine jq9_tr (jq9_it (f := jmMr) (fun i h => jq9_mv) 6) (jq9_tr jq9_li (jq9_tr ?_ (jq9_tr (jq9_it (fun i h => jq9_wc) 4) (jq9_it (fun i h => jq9_fr (jmPy_r.2 176 0 (by omega) (by omega)) (fun k => jmPy_r.2 198 k (by omega) (by omega))) 4))))
    unfold jmGA
    exact jq9_ch (fun i h => jq9_fr (jmGo_f 176 0 (by unfold jwG; omega)) (fun k => jmGo_f 198 k (by unfold jwG; omega))) 1700 _ _
  refine ⟨k.1.trans d0, fun x => ?_⟩
  have y := k.2 x
  rw [d0, d1] at y
  exact y
theorem jS9_ps {h : JH} (h0 : 0 ≤ h 176 0) (q : jS9 h) : jS9 (jmPs h) ∧ 0 ≤ jmPs h 176 0 := by
  obtain ⟨p1, p2⟩ := jq9_ps (h := h)
  refine ⟨fun k a b => ?_, by omega⟩
  rw [p1]
  rcases p2 k with z | z
  · rw [z]
    rcases q k a b with y | y
    · exact Or.inl y
    · exact Or.inr ⟨y.1, by omega⟩
  · rw [z]; exact Or.inr ⟨by omega, by omega⟩
theorem jS9_it {h : JH} (h0 : 0 ≤ h 176 0) (q : jS9 h) : ∀ n : Nat, jS9 (jit jmPi n h) ∧ jit jmPi n h 176 0 = h 176 0 + n
  | 0 => ⟨q, by show h 176 0 = h 176 0 + ((0 : Nat) : Int); omega⟩
  | n + 1 => by
      obtain ⟨i1, i2⟩ := jS9_it h0 q n
      have e : jit jmPi (n + 1) h = jmPs (jit jmPi n h) := rfl
      rw [e]
      exact ⟨(jS9_ps (by omega) i1).1, by rw [jq9_ps.1, i2]; omega⟩
theorem jS9_in {h : JH} (h0 : 0 ≤ h 176 0 ∧ h 176 0 ≤ 2000) (q : jS9 h) {k : Int} (hk : 0 ≤ k ∧ k < 16) : jSin h k = -9 ∨ (0 ≤ jSin h k ∧ jSin h k ≤ 2300) := by
  obtain ⟨i1, i2⟩ := jS9_it h0.1 q 300
  unfold jSin
  rcases i1 k hk.1 hk.2 with y | y
  · exact Or.inl y
  · exact Or.inr ⟨y.1, by omega⟩
theorem jS9_dy {h : JH} (h0 : 0 ≤ h 176 0) (q : jS9 h) : ∀ n : Nat, jS9 (jit jmDy n h) ∧ 0 ≤ jit jmDy n h 176 0
  | 0 => ⟨q, h0⟩
  | n + 1 => by
      obtain ⟨i1, i2⟩ := jS9_dy h0 q n
      have k := jS9_ps i2 i1
      have e : jit jmDy (n + 1) h = jmGr (jmPs (jit jmDy n h)) := rfl
      rw [e]
      generalize jmPs (jit jmDy n h) = M at k
      unfold jmGr
      by_cases z : (M 176 0).tmod 360 = 0
      · rw [if_pos z]
        have f := (jmTr_r (h := M) (M 176 34).toNat).2
        refine ⟨fun k' a b => ?_, by rw [f 176 0 (by omega)]; exact k.2⟩
        rw [f 198 k' (by omega), f 176 0 (by omega)]; exact k.1 k' a b
      · rw [if_neg z]; exact k
theorem jS9_fr {h g : JH} (e : ∀ k : Int, 0 ≤ k → k < 16 → g 198 k = h 198 k) (e0 : g 176 0 = h 176 0) (q : jS9 h) : jS9 g := fun k a b => by rw [e k a b, e0]; exact q k a b
