/-! ===== CLASS AND REFERENCE SIDE BY SIDE (by program) ===== -/
def jT6 (h : JH) : Prop := ∀ s b : Int, 0 ≤ s → s < 3 → 0 ≤ b → b < 6 → h (22 + s) b = h 187 (6 * s + b)
def jTN (h : JH) : Prop := ∀ s b : Int, 0 ≤ s → s < 3 → 0 ≤ b → b < 36 → h (26 + s) b = h 188 (36 * s + b)
theorem jT6_fr {h g : JH} (eA : ∀ i k : Int, 22 ≤ i → i ≤ 24 → g i k = h i k) (eB : ∀ k : Int, g 187 k = h 187 k) (q : jT6 h) : jT6 g := fun s b h0 h1 h2 h3 => by rw [eA _ _ (by omega) (by omega), eB]; exact q s b h0 h1 h2 h3
theorem jTN_fr {h g : JH} (eA : ∀ i k : Int, 26 ≤ i → i ≤ 28 → g i k = h i k) (eB : ∀ k : Int, g 188 k = h 188 k) (q : jTN h) : jTN g := fun s b h0 h1 h2 h3 => by rw [eA _ _ (by omega) (by omega), eB]; exact q s b h0 h1 h2 h3
def jRo (h : JH) : Prop := ∀ r k : Int, 0 ≤ r → r < 4 → 0 ≤ k → k < 30 → k < h 10 r → h (6 + r) k = h 180 (30 * r + k)
theorem jRo_fr {h g : JH} (eA : ∀ i k : Int, 6 ≤ i → i ≤ 10 → g i k = h i k) (eB : ∀ k : Int, g 180 k = h 180 k) (q : jRo h) : jRo g := fun r k h0 h1 h2 h3 h4 => by rw [eA (6 + r) k (by omega) (by omega), eB]; exact q r k h0 h1 h2 h3 (by rw [← eA 10 r (by omega) (by omega)]; exact h4)
def jDe (h : JH) : Prop := (∀ i j : Int, 0 ≤ i → i < j → j < h 11 0 → h 14 i ≤ h 14 j) ∧ 0 ≤ h 11 0 ∧ ∀ k c d : Int, 0 ≤ k → k < 4 → 0 ≤ c → c < 4 → jcv (h 12) (h 13) (h 14) (jsl k c) d (h 11 0).toNat = jmv (h 182) (h 183) (h 184) (h 185) k c d (h 176 6).toNat
theorem jDe_fr {h g : JH} (eA : ∀ i k : Int, 12 ≤ i → i ≤ 14 → g i k = h i k) (e0 : g 11 0 = h 11 0) (eB : ∀ i k : Int, 182 ≤ i → i ≤ 185 → g i k = h i k) (e6 : g 176 6 = h 176 6) (q : jDe h) : jDe g := by
  unfold jDe
  rw [jfn (fun k => eA 12 k (by decide) (by decide)), jfn (fun k => eA 13 k (by decide) (by decide)), jfn (fun k => eA 14 k (by decide) (by decide)), jfn (fun k => eB 182 k (by decide) (by decide)), jfn (fun k => eB 183 k (by decide) (by decide)), jfn (fun k => eB 184 k (by decide) (by decide)), jfn (fun k => eB 185 k (by decide) (by decide)), e0, e6]
  exact q
def jTC (h : JH) : Prop := ∀ s b : Int, 0 ≤ s → s < 3 → 0 ≤ b → b < 6 → h (18 + s) b = h 186 (6 * s + b)
theorem jTC_fr {h g : JH} (eA : ∀ i k : Int, 18 ≤ i → i ≤ 20 → g i k = h i k) (eB : ∀ k : Int, g 186 k = h 186 k) (q : jTC h) : jTC g := fun s b h0 h1 h2 h3 => by rw [eA _ _ (by omega) (by omega), eB]; exact q s b h0 h1 h2 h3
def jLe (h : JH) : Prop := h 101 0 = h 176 45 ∧ ∀ i : Int, 0 ≤ i → i < h 101 0 → h 102 i = h 215 i ∧ h 103 i = h 216 i ∧ h 104 i = h 217 i ∧ h 105 i = h 218 i
theorem jLe_fr {h g : JH} (e0 : g 101 0 = h 101 0) (eA : ∀ i k : Int, 102 ≤ i → i ≤ 105 → g i k = h i k) (e1 : g 176 45 = h 176 45) (eB : ∀ i k : Int, 215 ≤ i → i ≤ 218 → g i k = h i k) (q : jLe h) : jLe g := by
  refine ⟨by rw [e0, e1]; exact q.1, fun i a b => ?_⟩
  rw [eA 102 i (by decide) (by decide), eA 103 i (by decide) (by decide), eA 104 i (by decide) (by decide), eA 105 i (by decide) (by decide), eB 215 i (by decide) (by decide), eB 216 i (by decide) (by decide), eB 217 i (by decide) (by decide), eB 218 i (by decide) (by decide)]
  exact q.2 i a (by omega)
def jGv (h : JH) : Prop :=
  (∀ t : Int, 0 ≤ t → t < h 176 34 → (h 85 t = h 205 t ∧ h 86 t = h 206 t ∧ h 87 t = h 207 t ∧ 0 ≤ h 205 t ∧ h 205 t < 3) ∧ ((h 88 t = -9 ∧ h 208 t = -1 ∧ h 89 t = -9) ∨ (0 ≤ h 208 t ∧ h 88 t = h 208 t ∧ h 89 t = h 209 t))) ∧
  jG9 h ∧
  (∀ s i : Int, 0 ≤ s → s < 3 → 0 ≤ i → i < h 92 s → h 93 (s * 6 + i) = h 211 (6 * s + i) ∧ h 94 (s * 6 + i) = h 212 (6 * s + i) ∧ h 95 (s * 6 + i) = h 213 (6 * s + i) ∧ h 96 (s * 6 + i) = h 214 (6 * s + i)) ∧
  (∀ k : Int, 0 ≤ k → k < 16 → (h (36 + 3 * k) 10 = 0 ↔ h 201 k = 0))
theorem jGv_fr {h g : JH} (e1 : ∀ i k : Int, 85 ≤ i → i ≤ 89 → g i k = h i k) (e2 : ∀ i k : Int, 205 ≤ i → i ≤ 209 → g i k = h i k) (e3 : g 176 34 = h 176 34) (e4 : g 176 0 = h 176 0) (e5 : ∀ i k : Int, 92 ≤ i → i ≤ 96 → g i k = h i k) (e6 : ∀ i k : Int, 211 ≤ i → i ≤ 214 → g i k = h i k) (e7 : ∀ i : Int, 36 ≤ i → i ≤ 83 → g i 10 = h i 10) (e8 : ∀ k : Int, g 201 k = h 201 k) (q : jGv h) : jGv g := by
  obtain ⟨q1, q2, q3, q4⟩ := q
  refine ⟨fun t a b => ?_, jG9_fr (fun t => e2 207 t (by decide) (by decide)) e4 q2, fun s i a b c d => ?_, fun k a b => ?_⟩
  · rw [e1 85 t (by decide) (by decide), e1 86 t (by decide) (by decide), e1 87 t (by decide) (by decide), e1 88 t (by decide) (by decide), e1 89 t (by decide) (by decide), e2 205 t (by decide) (by decide), e2 206 t (by decide) (by decide), e2 207 t (by decide) (by decide), e2 208 t (by decide) (by decide), e2 209 t (by decide) (by decide)]
    exact q1 t a (by omega)
  · rw [e5 93 _ (by decide) (by decide), e5 94 _ (by decide) (by decide), e5 95 _ (by decide) (by decide), e5 96 _ (by decide) (by decide), e6 211 _ (by decide) (by decide), e6 212 _ (by decide) (by decide), e6 213 _ (by decide) (by decide), e6 214 _ (by decide) (by decide)]
    exact q3 s i a b c (by rw [← e5 92 s (by decide) (by decide)]; exact d)
  · rw [e7 _ (by omega) (by omega), e8 k]; exact q4 k a b
def jSupG (i k : Int) : Prop := (85 ≤ i ∧ i ≤ 89) ∨ (205 ≤ i ∧ i ≤ 209) ∨ (i = 176 ∧ (k = 34 ∨ k = 0)) ∨ (92 ≤ i ∧ i ≤ 96) ∨ (211 ≤ i ∧ i ≤ 214) ∨ (36 ≤ i ∧ i ≤ 83 ∧ k = 10) ∨ i = 201
def jSupA (i k : Int) : Prop := (18 ≤ i ∧ i ≤ 20) ∨ i = 186 ∨ (i = 101 ∧ k = 0) ∨ (102 ≤ i ∧ i ≤ 105) ∨ (i = 176 ∧ k = 45) ∨ (215 ≤ i ∧ i ≤ 218) ∨ (12 ≤ i ∧ i ≤ 14) ∨ (182 ≤ i ∧ i ≤ 185) ∨ i = 3 ∨ i = 4 ∨ (6 ≤ i ∧ i ≤ 10) ∨ i = 90 ∨ i = 92 ∨ (22 ≤ i ∧ i ≤ 24) ∨ (26 ≤ i ∧ i ≤ 28) ∨ (i = 29 ∧ k = 4) ∨ (i = 84 ∧ k = 0) ∨ (i = 11 ∧ k = 0) ∨ (i = 0 ∧ k = 0) ∨ (177 ≤ i ∧ i ≤ 180) ∨ i = 204 ∨ i = 210 ∨ (187 ≤ i ∧ i ≤ 188) ∨ (i = 176 ∧ (k = 14 ∨ k = 34 ∨ k = 6 ∨ k = 0))
def jSup (i k : Int) : Prop := jSupA i k ∨ jwy i k ∨ jmy i k
def jI (h : JH) : Prop := jSm 3 177 4 h ∧ jSm 4 178 4 h ∧ jSm 10 179 4 h ∧ jSm 90 204 3 h ∧ jSm 92 210 3 h ∧ jT6 h ∧ jTN h ∧ h 29 4 = h 176 14 ∧ h 84 0 = h 176 34 ∧ h 11 0 = h 176 6 ∧ h 0 0 = h 176 0 ∧ jRo h ∧ jDe h ∧ jTC h ∧ jYd2 h h ∧ jLe h ∧ jGv h ∧ jAh h ∧ jS9 h
theorem jI_fr {h g : JH} (e : ∀ i k : Int, jSup i k → g i k = h i k) (e9 : ∀ i k : Int, jSupG i k → g i k = h i k) (ea : jAh h → jAh g) (es : jS9 h → jS9 g) (s : jI h) : jI g := by
  obtain ⟨s0, s1, s2, s3, s4, s5, s6, s7, s8, s9, s10, s11, s12, s13, s14, s15, s16, s17, s18⟩ := s
  exact ⟨jSm_fr (fun t => (e 3 t (Or.inl (by unfold jSupA; omega)))) (fun t => (e 177 t (Or.inl (by unfold jSupA; omega)))) s0, jSm_fr (fun t => (e 4 t (Or.inl (by unfold jSupA; omega)))) (fun t => (e 178 t (Or.inl (by unfold jSupA; omega)))) s1, jSm_fr (fun t => (e 10 t (Or.inl (by unfold jSupA; omega)))) (fun t => (e 179 t (Or.inl (by unfold jSupA; omega)))) s2, jSm_fr (fun t => (e 90 t (Or.inl (by unfold jSupA; omega)))) (fun t => (e 204 t (Or.inl (by unfold jSupA; omega)))) s3, jSm_fr (fun t => (e 92 t (Or.inl (by unfold jSupA; omega)))) (fun t => (e 210 t (Or.inl (by unfold jSupA; omega)))) s4, jT6_fr (fun i k p1 p2 => (e i k (Or.inl (by unfold jSupA; omega)))) (fun k => (e 187 k (Or.inl (by unfold jSupA; omega)))) s5, jTN_fr (fun i k p1 p2 => (e i k (Or.inl (by unfold jSupA; omega)))) (fun k => (e 188 k (Or.inl (by unfold jSupA; omega)))) s6, ((e 29 4 (Or.inl (by unfold jSupA; omega))).trans s7).trans (e 176 14 (Or.inl (by unfold jSupA; omega))).symm, ((e 84 0 (Or.inl (by unfold jSupA; omega))).trans s8).trans (e 176 34 (Or.inl (by unfold jSupA; omega))).symm, ((e 11 0 (Or.inl (by unfold jSupA; omega))).trans s9).trans (e 176 6 (Or.inl (by unfold jSupA; omega))).symm, ((e 0 0 (Or.inl (by unfold jSupA; omega))).trans s10).trans (e 176 0 (Or.inl (by unfold jSupA; omega))).symm, jRo_fr (fun i k p1 p2 => (e i k (Or.inl (by unfold jSupA; omega)))) (fun k => (e 180 k (Or.inl (by unfold jSupA; omega)))) s11, jDe_fr (fun i k p1 p2 => (e i k (Or.inl (by unfold jSupA; omega)))) (e 11 0 (Or.inl (by unfold jSupA; omega))) (fun i k p1 p2 => (e i k (Or.inl (by unfold jSupA; omega)))) (e 176 6 (Or.inl (by unfold jSupA; omega))) s12, jTC_fr (fun i k p1 p2 => (e i k (Or.inl (by unfold jSupA; omega)))) (fun k => (e 186 k (Or.inl (by unfold jSupA; omega)))) s13, jYd2_fr (fun i k q => e i k (Or.inr (Or.inl q))) (fun i k q => e i k (Or.inr (Or.inr q))) s14, jLe_fr (e 101 0 (Or.inl (by unfold jSupA; omega))) (fun i k p1 p2 => (e i k (Or.inl (by unfold jSupA; omega)))) (e 176 45 (Or.inl (by unfold jSupA; omega))) (fun i k p1 p2 => (e i k (Or.inl (by unfold jSupA; omega)))) s15, jGv_fr (fun i k p1 p2 => (e9 i k (by unfold jSupG; omega))) (fun i k p1 p2 => (e9 i k (by unfold jSupG; omega))) (e9 176 34 (by unfold jSupG; omega)) (e9 176 0 (by unfold jSupG; omega)) (fun i k p1 p2 => (e9 i k (by unfold jSupG; omega))) (fun i k p1 p2 => (e9 i k (by unfold jSupG; omega))) (fun i p1 p2 => (e9 i 10 (by unfold jSupG; omega))) (fun k => (e9 201 k (by unfold jSupG; omega))) s16, ea s17, es s18⟩
set_option maxHeartbeats 4000000 in
theorem pr_hands {h g1 g2 : JH} {a1 a2 x y : Int} (f1 : jfr w_X11_hands h g1) (f2 : jfr w_X12_hands g1 g2) (p : P_X11_hands a1 a2 x h g1) (q : P_X12_hands a1 a2 y g1 g2) (s : jI h) (A7 : x = y → jAh g2) : x = y ∧ jI g2 := by
  obtain ⟨s0, s1, s2, s3, s4, s5, s6, s7, s8, s9, s10, s11, s12, s13, s14, s15, s16, s17, s18⟩ := s
  unfold P_X11_hands at p
  unfold P_X12_hands at q
  have fA : ∀ t : Int, g2 3 t = g1 3 t := fun t => (f2 3 t (by unfold w_X12_hands; omega))
  have fB : ∀ t : Int, g1 177 t = h 177 t := fun t => (f1 177 t (by unfold w_X11_hands; omega))
  have A4 := fB a1; have A3 := fA a1
  have A5 : ¬ (0 ≤ a1 ∧ a1 < 4) ∨ h 3 a1 = h 177 a1 := by
    by_cases z : 0 ≤ a1 ∧ a1 < 4
    · exact Or.inr (s0 a1 z.1 z.2)
    · exact Or.inl z
  have key : x = y ∧ jSm 3 177 4 g2 := by
    rcases p with ⟨c, e⟩ | ⟨c, e⟩ | ⟨c, e⟩ | ⟨c, e, ee⟩ <;> rcases q with ⟨d, r⟩ | ⟨d, r⟩ | ⟨d, r⟩ | ⟨d, r, rr⟩
    · refine ⟨by omega, fun t h0 h1 => ?_⟩
      have E3 := fA t; have E4 := fB t; have E5 := s0 t h0 h1
      have E1 := e 3 t (by omega) (by omega); have E2 := r 177 t (by omega) (by omega)
      omega
    · exfalso; omega
    · exfalso; omega
    · exfalso; omega
    · exfalso; omega
    · refine ⟨by omega, fun t h0 h1 => ?_⟩
      have E3 := fA t; have E4 := fB t; have E5 := s0 t h0 h1
      have E1 := e 3 t (by omega) (by omega); have E2 := r 177 t (by omega) (by omega)
      omega
    · exfalso; omega
    · exfalso; omega
    · exfalso; omega
    · exfalso; omega
    · refine ⟨by omega, fun t h0 h1 => ?_⟩
      have E3 := fA t; have E4 := fB t; have E5 := s0 t h0 h1
      have E1 := e 3 t (by omega) (by omega); have E2 := r 177 t (by omega) (by omega)
      omega
    · exfalso; omega
    · exfalso; omega
    · exfalso; omega
    · exfalso; omega
    · refine ⟨by omega, fun t h0 h1 => ?_⟩
      have E3 := fA t; have E4 := fB t; have E5 := s0 t h0 h1
      by_cases z : t = a1
      · rw [z] at E3 E4 E5 ⊢; omega
      · have E1 := ee 3 t (by omega) (by omega) (by omega); have E2 := rr 177 t (by omega) (by omega) (by omega); omega
  try clear p
  try clear q
  exact ⟨key.1, key.2, jSm_fr (fun t => ((f2 4 t (by unfold w_X12_hands; omega)).trans (f1 4 t (by unfold w_X11_hands; omega)))) (fun t => ((f2 178 t (by unfold w_X12_hands; omega)).trans (f1 178 t (by unfold w_X11_hands; omega)))) s1, jSm_fr (fun t => ((f2 10 t (by unfold w_X12_hands; omega)).trans (f1 10 t (by unfold w_X11_hands; omega)))) (fun t => ((f2 179 t (by unfold w_X12_hands; omega)).trans (f1 179 t (by unfold w_X11_hands; omega)))) s2, jSm_fr (fun t => ((f2 90 t (by unfold w_X12_hands; omega)).trans (f1 90 t (by unfold w_X11_hands; omega)))) (fun t => ((f2 204 t (by unfold w_X12_hands; omega)).trans (f1 204 t (by unfold w_X11_hands; omega)))) s3, jSm_fr (fun t => ((f2 92 t (by unfold w_X12_hands; omega)).trans (f1 92 t (by unfold w_X11_hands; omega)))) (fun t => ((f2 210 t (by unfold w_X12_hands; omega)).trans (f1 210 t (by unfold w_X11_hands; omega)))) s4, jT6_fr (fun i k p1 p2 => ((f2 i k (by unfold w_X12_hands; omega)).trans (f1 i k (by unfold w_X11_hands; omega)))) (fun k => ((f2 187 k (by unfold w_X12_hands; omega)).trans (f1 187 k (by unfold w_X11_hands; omega)))) s5, jTN_fr (fun i k p1 p2 => ((f2 i k (by unfold w_X12_hands; omega)).trans (f1 i k (by unfold w_X11_hands; omega)))) (fun k => ((f2 188 k (by unfold w_X12_hands; omega)).trans (f1 188 k (by unfold w_X11_hands; omega)))) s6, (((f2 29 4 (by unfold w_X12_hands; omega)).trans (f1 29 4 (by unfold w_X11_hands; omega))).trans s7).trans ((f2 176 14 (by unfold w_X12_hands; omega)).trans (f1 176 14 (by unfold w_X11_hands; omega))).symm, (((f2 84 0 (by unfold w_X12_hands; omega)).trans (f1 84 0 (by unfold w_X11_hands; omega))).trans s8).trans ((f2 176 34 (by unfold w_X12_hands; omega)).trans (f1 176 34 (by unfold w_X11_hands; omega))).symm, (((f2 11 0 (by unfold w_X12_hands; omega)).trans (f1 11 0 (by unfold w_X11_hands; omega))).trans s9).trans ((f2 176 6 (by unfold w_X12_hands; omega)).trans (f1 176 6 (by unfold w_X11_hands; omega))).symm, (((f2 0 0 (by unfold w_X12_hands; omega)).trans (f1 0 0 (by unfold w_X11_hands; omega))).trans s10).trans ((f2 176 0 (by unfold w_X12_hands; omega)).trans (f1 176 0 (by unfold w_X11_hands; omega))).symm, jRo_fr (fun i k p1 p2 => ((f2 i k (by unfold w_X12_hands; omega)).trans (f1 i k (by unfold w_X11_hands; omega)))) (fun k => ((f2 180 k (by unfold w_X12_hands; omega)).trans (f1 180 k (by unfold w_X11_hands; omega)))) s11, jDe_fr (fun i k p1 p2 => ((f2 i k (by unfold w_X12_hands; omega)).trans (f1 i k (by unfold w_X11_hands; omega)))) ((f2 11 0 (by unfold w_X12_hands; omega)).trans (f1 11 0 (by unfold w_X11_hands; omega))) (fun i k p1 p2 => ((f2 i k (by unfold w_X12_hands; omega)).trans (f1 i k (by unfold w_X11_hands; omega)))) ((f2 176 6 (by unfold w_X12_hands; omega)).trans (f1 176 6 (by unfold w_X11_hands; omega))) s12, jTC_fr (fun i k p1 p2 => ((f2 i k (by unfold w_X12_hands; omega)).trans (f1 i k (by unfold w_X11_hands; omega)))) (fun k => ((f2 186 k (by unfold w_X12_hands; omega)).trans (f1 186 k (by unfold w_X11_hands; omega)))) s13, jYd2_fr (fun i k q => by unfold jwy at q; exact ((f2 i k (by unfold w_X12_hands; omega)).trans (f1 i k (by unfold w_X11_hands; omega)))) (fun i k q => by unfold jmy at q; exact ((f2 i k (by unfold w_X12_hands; omega)).trans (f1 i k (by unfold w_X11_hands; omega)))) s14, jLe_fr ((f2 101 0 (by unfold w_X12_hands; omega)).trans (f1 101 0 (by unfold w_X11_hands; omega))) (fun i k p1 p2 => ((f2 i k (by unfold w_X12_hands; omega)).trans (f1 i k (by unfold w_X11_hands; omega)))) ((f2 176 45 (by unfold w_X12_hands; omega)).trans (f1 176 45 (by unfold w_X11_hands; omega))) (fun i k p1 p2 => ((f2 i k (by unfold w_X12_hands; omega)).trans (f1 i k (by unfold w_X11_hands; omega)))) s15, jGv_fr (fun i k p1 p2 => ((f2 i k (by unfold w_X12_hands; omega)).trans (f1 i k (by unfold w_X11_hands; omega)))) (fun i k p1 p2 => ((f2 i k (by unfold w_X12_hands; omega)).trans (f1 i k (by unfold w_X11_hands; omega)))) ((f2 176 34 (by unfold w_X12_hands; omega)).trans (f1 176 34 (by unfold w_X11_hands; omega))) ((f2 176 0 (by unfold w_X12_hands; omega)).trans (f1 176 0 (by unfold w_X11_hands; omega))) (fun i k p1 p2 => ((f2 i k (by unfold w_X12_hands; omega)).trans (f1 i k (by unfold w_X11_hands; omega)))) (fun i k p1 p2 => ((f2 i k (by unfold w_X12_hands; omega)).trans (f1 i k (by unfold w_X11_hands; omega)))) (fun i p1 p2 => ((f2 i 10 (by unfold w_X12_hands; omega)).trans (f1 i 10 (by unfold w_X11_hands; omega)))) (fun k => ((f2 201 k (by unfold w_X12_hands; omega)).trans (f1 201 k (by unfold w_X11_hands; omega)))) s16, (A7 key.1), jS9_fr (fun k p1 p2 => ((f2 198 k (by unfold w_X12_hands; omega)).trans (f1 198 k (by unfold w_X11_hands; omega)))) ((f2 176 0 (by unfold w_X12_hands; omega)).trans (f1 176 0 (by unfold w_X11_hands; omega))) s18⟩
set_option maxHeartbeats 4000000 in
theorem pr_row {h g1 g2 : JH} {a1 a2 x y : Int} (f1 : jfr w_X11_row h g1) (f2 : jfr w_X12_row g1 g2) (p : P_X11_row a1 a2 x h g1) (q : P_X12_row a1 a2 y g1 g2) (s : jI h) (A7 : x = y → jAh g2) : x = y ∧ jI g2 := by
  obtain ⟨s0, s1, s2, s3, s4, s5, s6, s7, s8, s9, s10, s11, s12, s13, s14, s15, s16, s17, s18⟩ := s
  unfold P_X11_row at p
  unfold P_X12_row at q
  have fA : ∀ i k : Int, 6 ≤ i → i ≤ 10 → g2 i k = g1 i k := fun i k p1 p2 => (f2 i k (by unfold w_X12_row; omega))
  have fB : ∀ i k : Int, 179 ≤ i → i ≤ 180 → g1 i k = h i k := fun i k p1 p2 => (f1 i k (by unfold w_X11_row; omega))
  have Ba1 : ¬ (0 ≤ a1 ∧ a1 < 4) ∨ h 10 a1 = h 179 a1 := by
    by_cases z : 0 ≤ a1 ∧ a1 < 4
    · exact Or.inr (s2 a1 z.1 z.2)
    · exact Or.inl z
  have Ca1 := fB 179 a1 (by decide) (by decide)
  have key : x = y ∧ jSm 10 179 4 g2 ∧ jRo g2 := by
    rcases p with ⟨c, e, u⟩ | ⟨c, e, u⟩ | ⟨c, e, u⟩ | ⟨c, ⟨e, ee⟩, u, uu⟩ <;> rcases q with ⟨d, r, w⟩ | ⟨d, r, w⟩ | ⟨d, r, w⟩ | ⟨d, ⟨r, rr⟩, w, ww⟩
    · have L1 : ∀ t : Int, 0 ≤ t → t < 4 → g2 10 t = g2 179 t := fun t h0 h1 => by
        have E3 := fA 10 t (by decide) (by decide); have E4 := fB 179 t (by decide) (by decide); have E5 := s2 t h0 h1
        have E1 := e 10 t (by omega) (by omega); have E2 := r 179 t (by omega) (by omega); omega
      refine ⟨by omega, L1, fun t k h0 h1 h2 h3 h4 => ?_⟩
      have E3 := fA (6 + t) k (by omega) (by omega); have E4 := fB 180 (30 * t + k) (by decide) (by decide); have F3 := fA 10 t (by decide) (by decide)
      have E1 := u (6 + t) k (by omega) (by omega); have E2 := w 180 (30 * t + k) (by omega) (by omega); have F1 := e 10 t (by omega) (by omega); have E5 := s11 t k h0 h1 h2 h3 (by omega); omega
    · exfalso; omega
    · exfalso; omega
    · exfalso; omega
    · exfalso; omega
    · have L1 : ∀ t : Int, 0 ≤ t → t < 4 → g2 10 t = g2 179 t := fun t h0 h1 => by
        have E3 := fA 10 t (by decide) (by decide); have E4 := fB 179 t (by decide) (by decide); have E5 := s2 t h0 h1
        have E1 := e 10 t (by omega) (by omega); have E2 := r 179 t (by omega) (by omega); omega
      refine ⟨by omega, L1, fun t k h0 h1 h2 h3 h4 => ?_⟩
      have E3 := fA (6 + t) k (by omega) (by omega); have E4 := fB 180 (30 * t + k) (by decide) (by decide); have F3 := fA 10 t (by decide) (by decide)
      have E1 := u (6 + t) k (by omega) (by omega); have E2 := w 180 (30 * t + k) (by omega) (by omega); have F1 := e 10 t (by omega) (by omega); have E5 := s11 t k h0 h1 h2 h3 (by omega); omega
    · exfalso; omega
    · exfalso; omega
    · exfalso; omega
    · exfalso; omega
    · have L1 : ∀ t : Int, 0 ≤ t → t < 4 → g2 10 t = g2 179 t := fun t h0 h1 => by
        have E3 := fA 10 t (by decide) (by decide); have E4 := fB 179 t (by decide) (by decide); have E5 := s2 t h0 h1
        have E1 := e 10 t (by omega) (by omega); have E2 := r 179 t (by omega) (by omega); omega
      refine ⟨by omega, L1, fun t k h0 h1 h2 h3 h4 => ?_⟩
      have E3 := fA (6 + t) k (by omega) (by omega); have E4 := fB 180 (30 * t + k) (by decide) (by decide); have F3 := fA 10 t (by decide) (by decide)
      have E1 := u (6 + t) k (by omega) (by omega); have E2 := w 180 (30 * t + k) (by omega) (by omega); have F1 := e 10 t (by omega) (by omega); have E5 := s11 t k h0 h1 h2 h3 (by omega); omega
    · exfalso; omega
    · exfalso; omega
    · exfalso; omega
    · exfalso; omega
    · have L1 : ∀ t : Int, 0 ≤ t → t < 4 → g2 10 t = g2 179 t := fun t h0 h1 => by
        have E3 := fA 10 t (by decide) (by decide); have E4 := fB 179 t (by decide) (by decide); have E5 := s2 t h0 h1
        by_cases z : t = a1
        · rw [z] at E3 E4 E5 ⊢; omega
        · have E1 := ee 10 t (by omega) (by omega) (by omega); have E2 := rr 179 t (by omega) (by omega) (by omega); omega
      refine ⟨by omega, L1, fun t k h0 h1 h2 h3 h4 => ?_⟩
      have E3 := fA (6 + t) k (by omega) (by omega); have E4 := fB 180 (30 * t + k) (by decide) (by decide); have F3 := fA 10 t (by decide) (by decide)
      by_cases z : t = a1
      · subst z; have E1 := u k h2 h3; have E2 := w (30 * t + k) (by omega) (by omega); omega
      · have E1 := uu (6 + t) k (by omega) (by omega) (by omega); have E2 := ww 180 (30 * t + k) (by omega) (by omega) (by omega); have F1 := ee 10 t (by omega) (by omega) (by omega); have E5 := s11 t k h0 h1 h2 h3 (by omega); omega
  try clear p
  try clear q
  exact ⟨key.1, jSm_fr (fun t => ((f2 3 t (by unfold w_X12_row; omega)).trans (f1 3 t (by unfold w_X11_row; omega)))) (fun t => ((f2 177 t (by unfold w_X12_row; omega)).trans (f1 177 t (by unfold w_X11_row; omega)))) s0, jSm_fr (fun t => ((f2 4 t (by unfold w_X12_row; omega)).trans (f1 4 t (by unfold w_X11_row; omega)))) (fun t => ((f2 178 t (by unfold w_X12_row; omega)).trans (f1 178 t (by unfold w_X11_row; omega)))) s1, key.2.1, jSm_fr (fun t => ((f2 90 t (by unfold w_X12_row; omega)).trans (f1 90 t (by unfold w_X11_row; omega)))) (fun t => ((f2 204 t (by unfold w_X12_row; omega)).trans (f1 204 t (by unfold w_X11_row; omega)))) s3, jSm_fr (fun t => ((f2 92 t (by unfold w_X12_row; omega)).trans (f1 92 t (by unfold w_X11_row; omega)))) (fun t => ((f2 210 t (by unfold w_X12_row; omega)).trans (f1 210 t (by unfold w_X11_row; omega)))) s4, jT6_fr (fun i k p1 p2 => ((f2 i k (by unfold w_X12_row; omega)).trans (f1 i k (by unfold w_X11_row; omega)))) (fun k => ((f2 187 k (by unfold w_X12_row; omega)).trans (f1 187 k (by unfold w_X11_row; omega)))) s5, jTN_fr (fun i k p1 p2 => ((f2 i k (by unfold w_X12_row; omega)).trans (f1 i k (by unfold w_X11_row; omega)))) (fun k => ((f2 188 k (by unfold w_X12_row; omega)).trans (f1 188 k (by unfold w_X11_row; omega)))) s6, (((f2 29 4 (by unfold w_X12_row; omega)).trans (f1 29 4 (by unfold w_X11_row; omega))).trans s7).trans ((f2 176 14 (by unfold w_X12_row; omega)).trans (f1 176 14 (by unfold w_X11_row; omega))).symm, (((f2 84 0 (by unfold w_X12_row; omega)).trans (f1 84 0 (by unfold w_X11_row; omega))).trans s8).trans ((f2 176 34 (by unfold w_X12_row; omega)).trans (f1 176 34 (by unfold w_X11_row; omega))).symm, (((f2 11 0 (by unfold w_X12_row; omega)).trans (f1 11 0 (by unfold w_X11_row; omega))).trans s9).trans ((f2 176 6 (by unfold w_X12_row; omega)).trans (f1 176 6 (by unfold w_X11_row; omega))).symm, (((f2 0 0 (by unfold w_X12_row; omega)).trans (f1 0 0 (by unfold w_X11_row; omega))).trans s10).trans ((f2 176 0 (by unfold w_X12_row; omega)).trans (f1 176 0 (by unfold w_X11_row; omega))).symm, key.2.2, jDe_fr (fun i k p1 p2 => ((f2 i k (by unfold w_X12_row; omega)).trans (f1 i k (by unfold w_X11_row; omega)))) ((f2 11 0 (by unfold w_X12_row; omega)).trans (f1 11 0 (by unfold w_X11_row; omega))) (fun i k p1 p2 => ((f2 i k (by unfold w_X12_row; omega)).trans (f1 i k (by unfold w_X11_row; omega)))) ((f2 176 6 (by unfold w_X12_row; omega)).trans (f1 176 6 (by unfold w_X11_row; omega))) s12, jTC_fr (fun i k p1 p2 => ((f2 i k (by unfold w_X12_row; omega)).trans (f1 i k (by unfold w_X11_row; omega)))) (fun k => ((f2 186 k (by unfold w_X12_row; omega)).trans (f1 186 k (by unfold w_X11_row; omega)))) s13, jYd2_fr (fun i k q => by unfold jwy at q; exact ((f2 i k (by unfold w_X12_row; omega)).trans (f1 i k (by unfold w_X11_row; omega)))) (fun i k q => by unfold jmy at q; exact ((f2 i k (by unfold w_X12_row; omega)).trans (f1 i k (by unfold w_X11_row; omega)))) s14, jLe_fr ((f2 101 0 (by unfold w_X12_row; omega)).trans (f1 101 0 (by unfold w_X11_row; omega))) (fun i k p1 p2 => ((f2 i k (by unfold w_X12_row; omega)).trans (f1 i k (by unfold w_X11_row; omega)))) ((f2 176 45 (by unfold w_X12_row; omega)).trans (f1 176 45 (by unfold w_X11_row; omega))) (fun i k p1 p2 => ((f2 i k (by unfold w_X12_row; omega)).trans (f1 i k (by unfold w_X11_row; omega)))) s15, jGv_fr (fun i k p1 p2 => ((f2 i k (by unfold w_X12_row; omega)).trans (f1 i k (by unfold w_X11_row; omega)))) (fun i k p1 p2 => ((f2 i k (by unfold w_X12_row; omega)).trans (f1 i k (by unfold w_X11_row; omega)))) ((f2 176 34 (by unfold w_X12_row; omega)).trans (f1 176 34 (by unfold w_X11_row; omega))) ((f2 176 0 (by unfold w_X12_row; omega)).trans (f1 176 0 (by unfold w_X11_row; omega))) (fun i k p1 p2 => ((f2 i k (by unfold w_X12_row; omega)).trans (f1 i k (by unfold w_X11_row; omega)))) (fun i k p1 p2 => ((f2 i k (by unfold w_X12_row; omega)).trans (f1 i k (by unfold w_X11_row; omega)))) (fun i p1 p2 => ((f2 i 10 (by unfold w_X12_row; omega)).trans (f1 i 10 (by unfold w_X11_row; omega)))) (fun k => ((f2 201 k (by unfold w_X12_row; omega)).trans (f1 201 k (by unfold w_X11_row; omega)))) s16, (A7 key.1), jS9_fr (fun k p1 p2 => ((f2 198 k (by unfold w_X12_row; omega)).trans (f1 198 k (by unfold w_X11_row; omega)))) ((f2 176 0 (by unfold w_X12_row; omega)).trans (f1 176 0 (by unfold w_X11_row; omega))) s18⟩
set_option maxHeartbeats 4000000 in
theorem pr_lose {h g1 g2 : JH} {a1 x y : Int} (f1 : jfr w_X11_lose h g1) (f2 : jfr w_X12_lose g1 g2) (p : P_X11_lose a1 x h g1) (q : P_X12_lose a1 y g1 g2) (s : jI h) (A7 : x = y → jAh g2) : x = y ∧ jI g2 := by
  obtain ⟨s0, s1, s2, s3, s4, s5, s6, s7, s8, s9, s10, s11, s12, s13, s14, s15, s16, s17, s18⟩ := s
  unfold P_X11_lose at p
  unfold P_X12_lose at q
  have fA : ∀ i k : Int, 6 ≤ i → i ≤ 10 → g2 i k = g1 i k := fun i k p1 p2 => (f2 i k (by unfold w_X12_lose; omega))
  have fB : ∀ i k : Int, 179 ≤ i → i ≤ 180 → g1 i k = h i k := fun i k p1 p2 => (f1 i k (by unfold w_X11_lose; omega))
  have Ba1 : ¬ (0 ≤ a1 ∧ a1 < 4) ∨ h 10 a1 = h 179 a1 := by
    by_cases z : 0 ≤ a1 ∧ a1 < 4
    · exact Or.inr (s2 a1 z.1 z.2)
    · exact Or.inl z
  have Ca1 := fB 179 a1 (by decide) (by decide)
  have key : x = y ∧ jSm 10 179 4 g2 ∧ jRo g2 := by
    rcases p with ⟨c, e⟩ | ⟨c, e⟩ | ⟨c, e, ee⟩ <;> rcases q with ⟨d, r⟩ | ⟨d, r, rr⟩
    · have L1 : ∀ t : Int, 0 ≤ t → t < 4 → g2 10 t = g2 179 t := fun t h0 h1 => by
        have E3 := fA 10 t (by decide) (by decide); have E4 := fB 179 t (by decide) (by decide); have E5 := s2 t h0 h1
        have E1 := e 10 t (by omega) (by omega); have E2 := r 179 t (by omega) (by omega); omega
      refine ⟨by omega, L1, fun t k h0 h1 h2 h3 h4 => ?_⟩
      have E3 := fA (6 + t) k (by omega) (by omega); have E4 := fB 180 (30 * t + k) (by decide) (by decide); have F3 := fA 10 t (by decide) (by decide)
      have E1 : g1 (6 + t) k = h (6 + t) k := f1 (6 + t) k (by unfold w_X11_lose; omega)
      have E2 : g2 180 (30 * t + k) = g1 180 (30 * t + k) := f2 180 (30 * t + k) (by unfold w_X12_lose; omega)
      have F1 := e 10 t (by omega) (by omega); have E5 := s11 t k h0 h1 h2 h3 (by omega); omega
    · exfalso; omega
    · exfalso; omega
    · have L1 : ∀ t : Int, 0 ≤ t → t < 4 → g2 10 t = g2 179 t := fun t h0 h1 => by
        have E3 := fA 10 t (by decide) (by decide); have E4 := fB 179 t (by decide) (by decide); have E5 := s2 t h0 h1
        by_cases z : t = a1
        · have E1 := e 10 t (by omega) (by omega); rw [z] at E1 E3 E4 E5 ⊢; omega
        · have E1 := e 10 t (by omega) (by omega); have E2 := rr 179 t (by omega) (by omega) (by omega); omega
      refine ⟨by omega, L1, fun t k h0 h1 h2 h3 h4 => ?_⟩
      have E3 := fA (6 + t) k (by omega) (by omega); have E4 := fB 180 (30 * t + k) (by decide) (by decide); have F3 := fA 10 t (by decide) (by decide)
      have E1 : g1 (6 + t) k = h (6 + t) k := f1 (6 + t) k (by unfold w_X11_lose; omega)
      have E2 : g2 180 (30 * t + k) = g1 180 (30 * t + k) := f2 180 (30 * t + k) (by unfold w_X12_lose; omega)
      have F1 := e 10 t (by omega) (by omega); have E5 := s11 t k h0 h1 h2 h3 (by omega); omega
    · exfalso; omega
    · have L1 : ∀ t : Int, 0 ≤ t → t < 4 → g2 10 t = g2 179 t := fun t h0 h1 => by
        have E3 := fA 10 t (by decide) (by decide); have E4 := fB 179 t (by decide) (by decide); have E5 := s2 t h0 h1
        by_cases z : t = a1
        · rw [z] at E3 E4 E5 ⊢; omega
        · have E1 := ee 10 t (by omega) (by omega) (by omega); have E2 := rr 179 t (by omega) (by omega) (by omega); omega
      refine ⟨by omega, L1, fun t k h0 h1 h2 h3 h4 => ?_⟩
      have E3 := fA (6 + t) k (by omega) (by omega); have E4 := fB 180 (30 * t + k) (by decide) (by decide); have F3 := fA 10 t (by decide) (by decide)
      have E1 : g1 (6 + t) k = h (6 + t) k := f1 (6 + t) k (by unfold w_X11_lose; omega)
      have E2 : g2 180 (30 * t + k) = g1 180 (30 * t + k) := f2 180 (30 * t + k) (by unfold w_X12_lose; omega)
      by_cases z : t = a1
      · exfalso; subst z; omega
      · have F1 := ee 10 t (by omega) (by omega) (by omega); have E5 := s11 t k h0 h1 h2 h3 (by omega); omega
  try clear p
  try clear q
  exact ⟨key.1, jSm_fr (fun t => ((f2 3 t (by unfold w_X12_lose; omega)).trans (f1 3 t (by unfold w_X11_lose; omega)))) (fun t => ((f2 177 t (by unfold w_X12_lose; omega)).trans (f1 177 t (by unfold w_X11_lose; omega)))) s0, jSm_fr (fun t => ((f2 4 t (by unfold w_X12_lose; omega)).trans (f1 4 t (by unfold w_X11_lose; omega)))) (fun t => ((f2 178 t (by unfold w_X12_lose; omega)).trans (f1 178 t (by unfold w_X11_lose; omega)))) s1, key.2.1, jSm_fr (fun t => ((f2 90 t (by unfold w_X12_lose; omega)).trans (f1 90 t (by unfold w_X11_lose; omega)))) (fun t => ((f2 204 t (by unfold w_X12_lose; omega)).trans (f1 204 t (by unfold w_X11_lose; omega)))) s3, jSm_fr (fun t => ((f2 92 t (by unfold w_X12_lose; omega)).trans (f1 92 t (by unfold w_X11_lose; omega)))) (fun t => ((f2 210 t (by unfold w_X12_lose; omega)).trans (f1 210 t (by unfold w_X11_lose; omega)))) s4, jT6_fr (fun i k p1 p2 => ((f2 i k (by unfold w_X12_lose; omega)).trans (f1 i k (by unfold w_X11_lose; omega)))) (fun k => ((f2 187 k (by unfold w_X12_lose; omega)).trans (f1 187 k (by unfold w_X11_lose; omega)))) s5, jTN_fr (fun i k p1 p2 => ((f2 i k (by unfold w_X12_lose; omega)).trans (f1 i k (by unfold w_X11_lose; omega)))) (fun k => ((f2 188 k (by unfold w_X12_lose; omega)).trans (f1 188 k (by unfold w_X11_lose; omega)))) s6, (((f2 29 4 (by unfold w_X12_lose; omega)).trans (f1 29 4 (by unfold w_X11_lose; omega))).trans s7).trans ((f2 176 14 (by unfold w_X12_lose; omega)).trans (f1 176 14 (by unfold w_X11_lose; omega))).symm, (((f2 84 0 (by unfold w_X12_lose; omega)).trans (f1 84 0 (by unfold w_X11_lose; omega))).trans s8).trans ((f2 176 34 (by unfold w_X12_lose; omega)).trans (f1 176 34 (by unfold w_X11_lose; omega))).symm, (((f2 11 0 (by unfold w_X12_lose; omega)).trans (f1 11 0 (by unfold w_X11_lose; omega))).trans s9).trans ((f2 176 6 (by unfold w_X12_lose; omega)).trans (f1 176 6 (by unfold w_X11_lose; omega))).symm, (((f2 0 0 (by unfold w_X12_lose; omega)).trans (f1 0 0 (by unfold w_X11_lose; omega))).trans s10).trans ((f2 176 0 (by unfold w_X12_lose; omega)).trans (f1 176 0 (by unfold w_X11_lose; omega))).symm, key.2.2, jDe_fr (fun i k p1 p2 => ((f2 i k (by unfold w_X12_lose; omega)).trans (f1 i k (by unfold w_X11_lose; omega)))) ((f2 11 0 (by unfold w_X12_lose; omega)).trans (f1 11 0 (by unfold w_X11_lose; omega))) (fun i k p1 p2 => ((f2 i k (by unfold w_X12_lose; omega)).trans (f1 i k (by unfold w_X11_lose; omega)))) ((f2 176 6 (by unfold w_X12_lose; omega)).trans (f1 176 6 (by unfold w_X11_lose; omega))) s12, jTC_fr (fun i k p1 p2 => ((f2 i k (by unfold w_X12_lose; omega)).trans (f1 i k (by unfold w_X11_lose; omega)))) (fun k => ((f2 186 k (by unfold w_X12_lose; omega)).trans (f1 186 k (by unfold w_X11_lose; omega)))) s13, jYd2_fr (fun i k q => by unfold jwy at q; exact ((f2 i k (by unfold w_X12_lose; omega)).trans (f1 i k (by unfold w_X11_lose; omega)))) (fun i k q => by unfold jmy at q; exact ((f2 i k (by unfold w_X12_lose; omega)).trans (f1 i k (by unfold w_X11_lose; omega)))) s14, jLe_fr ((f2 101 0 (by unfold w_X12_lose; omega)).trans (f1 101 0 (by unfold w_X11_lose; omega))) (fun i k p1 p2 => ((f2 i k (by unfold w_X12_lose; omega)).trans (f1 i k (by unfold w_X11_lose; omega)))) ((f2 176 45 (by unfold w_X12_lose; omega)).trans (f1 176 45 (by unfold w_X11_lose; omega))) (fun i k p1 p2 => ((f2 i k (by unfold w_X12_lose; omega)).trans (f1 i k (by unfold w_X11_lose; omega)))) s15, jGv_fr (fun i k p1 p2 => ((f2 i k (by unfold w_X12_lose; omega)).trans (f1 i k (by unfold w_X11_lose; omega)))) (fun i k p1 p2 => ((f2 i k (by unfold w_X12_lose; omega)).trans (f1 i k (by unfold w_X11_lose; omega)))) ((f2 176 34 (by unfold w_X12_lose; omega)).trans (f1 176 34 (by unfold w_X11_lose; omega))) ((f2 176 0 (by unfold w_X12_lose; omega)).trans (f1 176 0 (by unfold w_X11_lose; omega))) (fun i k p1 p2 => ((f2 i k (by unfold w_X12_lose; omega)).trans (f1 i k (by unfold w_X11_lose; omega)))) (fun i k p1 p2 => ((f2 i k (by unfold w_X12_lose; omega)).trans (f1 i k (by unfold w_X11_lose; omega)))) (fun i p1 p2 => ((f2 i 10 (by unfold w_X12_lose; omega)).trans (f1 i 10 (by unfold w_X11_lose; omega)))) (fun k => ((f2 201 k (by unfold w_X12_lose; omega)).trans (f1 201 k (by unfold w_X11_lose; omega)))) s16, (A7 key.1), jS9_fr (fun k p1 p2 => ((f2 198 k (by unfold w_X12_lose; omega)).trans (f1 198 k (by unfold w_X11_lose; omega)))) ((f2 176 0 (by unfold w_X12_lose; omega)).trans (f1 176 0 (by unfold w_X11_lose; omega))) s18⟩
set_option maxHeartbeats 4000000 in
theorem pr_put {h g1 g2 : JH} {a1 a2 a3 x y : Int} (f1 : jfr w_X11_put h g1) (f2 : jfr w_X12_put g1 g2) (p : P_X11_put a1 a2 a3 x h g1) (q : P_X12_put a1 a2 a3 y g1 g2) (s : jI h) (A7 : x = y → jAh g2) : x = y ∧ jI g2 := by
  obtain ⟨s0, s1, s2, s3, s4, s5, s6, s7, s8, s9, s10, s11, s12, s13, s14, s15, s16, s17, s18⟩ := s
  unfold P_X11_put at p
  unfold P_X12_put at q
  have fA : ∀ i k : Int, 6 ≤ i → i ≤ 10 → g2 i k = g1 i k := fun i k p1 p2 => (f2 i k (by unfold w_X12_put; omega))
  have fB : ∀ i k : Int, 179 ≤ i → i ≤ 180 → g1 i k = h i k := fun i k p1 p2 => (f1 i k (by unfold w_X11_put; omega))
  have Ba1 : ¬ (0 ≤ a1 ∧ a1 < 4) ∨ h 10 a1 = h 179 a1 := by
    by_cases z : 0 ≤ a1 ∧ a1 < 4
    · exact Or.inr (s2 a1 z.1 z.2)
    · exact Or.inl z
  have Ca1 := fB 179 a1 (by decide) (by decide)
  have F10 : ∀ t : Int, g2 10 t = h 10 t := fun t => (fA 10 t (by decide) (by decide)).trans (f1 10 t (by unfold w_X11_put; omega))
  have K4 := fB 180 (30 * a1 + a2) (by decide) (by decide)
  have K5 : ¬ (0 ≤ a1 ∧ a1 < 4 ∧ 0 ≤ a2 ∧ a2 < 30 ∧ a2 < h 10 a1) ∨ h (6 + a1) a2 = h 180 (30 * a1 + a2) := by
    by_cases z : 0 ≤ a1 ∧ a1 < 4 ∧ 0 ≤ a2 ∧ a2 < 30 ∧ a2 < h 10 a1
    · exact Or.inr (s11 a1 a2 z.1 z.2.1 z.2.2.1 z.2.2.2.1 z.2.2.2.2)
    · exact Or.inl z
  have key : x = y ∧ jRo g2 := by
    rcases p with ⟨c, e⟩ | ⟨c, e⟩ | ⟨c, e⟩ | ⟨c, e⟩ | ⟨c, e⟩ | ⟨c, e, ee⟩ <;> rcases q with ⟨d, r⟩ | ⟨d, r⟩ | ⟨d, r⟩ | ⟨d, r⟩ | ⟨d, r⟩ | ⟨d, r, rr⟩
    · refine ⟨by omega, fun t k h0 h1 h2 h3 h4 => ?_⟩
      have E3 := fA (6 + t) k (by omega) (by omega); have E4 := fB 180 (30 * t + k) (by decide) (by decide); have F3 := F10 t
      have E1 := e (6 + t) k (by omega) (by omega); have E2 := r 180 (30 * t + k) (by omega) (by omega); have E5 := s11 t k h0 h1 h2 h3 (by omega); omega
    · exfalso; omega
    · exfalso; omega
    · exfalso; omega
    · exfalso; omega
    · exfalso; omega
    · exfalso; omega
    · refine ⟨by omega, fun t k h0 h1 h2 h3 h4 => ?_⟩
      have E3 := fA (6 + t) k (by omega) (by omega); have E4 := fB 180 (30 * t + k) (by decide) (by decide); have F3 := F10 t
      have E1 := e (6 + t) k (by omega) (by omega); have E2 := r 180 (30 * t + k) (by omega) (by omega); have E5 := s11 t k h0 h1 h2 h3 (by omega); omega
    · exfalso; omega
    · exfalso; omega
    · exfalso; omega
    · exfalso; omega
    · exfalso; omega
    · exfalso; omega
    · refine ⟨by omega, fun t k h0 h1 h2 h3 h4 => ?_⟩
      have E3 := fA (6 + t) k (by omega) (by omega); have E4 := fB 180 (30 * t + k) (by decide) (by decide); have F3 := F10 t
      have E1 := e (6 + t) k (by omega) (by omega); have E2 := r 180 (30 * t + k) (by omega) (by omega); have E5 := s11 t k h0 h1 h2 h3 (by omega); omega
    · exfalso; omega
    · exfalso; omega
    · exfalso; omega
    · exfalso; omega
    · exfalso; omega
    · exfalso; omega
    · refine ⟨by omega, fun t k h0 h1 h2 h3 h4 => ?_⟩
      have E3 := fA (6 + t) k (by omega) (by omega); have E4 := fB 180 (30 * t + k) (by decide) (by decide); have F3 := F10 t
      have E1 := e (6 + t) k (by omega) (by omega); have E2 := r 180 (30 * t + k) (by omega) (by omega); have E5 := s11 t k h0 h1 h2 h3 (by omega); omega
    · exfalso; omega
    · exfalso; omega
    · exfalso; omega
    · exfalso; omega
    · exfalso; omega
    · exfalso; omega
    · refine ⟨by omega, fun t k h0 h1 h2 h3 h4 => ?_⟩
      have E3 := fA (6 + t) k (by omega) (by omega); have E4 := fB 180 (30 * t + k) (by decide) (by decide); have F3 := F10 t
      have E1 := e (6 + t) k (by omega) (by omega); have E2 := r 180 (30 * t + k) (by omega) (by omega); have E5 := s11 t k h0 h1 h2 h3 (by omega); omega
    · exfalso; omega
    · exfalso; omega
    · exfalso; omega
    · exfalso; omega
    · exfalso; omega
    · exfalso; omega
    · refine ⟨by omega, fun t k h0 h1 h2 h3 h4 => ?_⟩
      have E3 := fA (6 + t) k (by omega) (by omega); have E4 := fB 180 (30 * t + k) (by decide) (by decide); have F3 := F10 t
      by_cases z : t = a1 ∧ k = a2
      · rw [z.1, z.2] at E3; rw [z.1, z.2]; omega
      · have E1 := ee (6 + t) k (by omega) (by omega) (by omega); have E2 := rr 180 (30 * t + k) (by omega) (by omega) (by omega); have E5 := s11 t k h0 h1 h2 h3 (by omega); omega
  try clear p
  try clear q
  exact ⟨key.1, jSm_fr (fun t => ((f2 3 t (by unfold w_X12_put; omega)).trans (f1 3 t (by unfold w_X11_put; omega)))) (fun t => ((f2 177 t (by unfold w_X12_put; omega)).trans (f1 177 t (by unfold w_X11_put; omega)))) s0, jSm_fr (fun t => ((f2 4 t (by unfold w_X12_put; omega)).trans (f1 4 t (by unfold w_X11_put; omega)))) (fun t => ((f2 178 t (by unfold w_X12_put; omega)).trans (f1 178 t (by unfold w_X11_put; omega)))) s1, jSm_fr (fun t => ((f2 10 t (by unfold w_X12_put; omega)).trans (f1 10 t (by unfold w_X11_put; omega)))) (fun t => ((f2 179 t (by unfold w_X12_put; omega)).trans (f1 179 t (by unfold w_X11_put; omega)))) s2, jSm_fr (fun t => ((f2 90 t (by unfold w_X12_put; omega)).trans (f1 90 t (by unfold w_X11_put; omega)))) (fun t => ((f2 204 t (by unfold w_X12_put; omega)).trans (f1 204 t (by unfold w_X11_put; omega)))) s3, jSm_fr (fun t => ((f2 92 t (by unfold w_X12_put; omega)).trans (f1 92 t (by unfold w_X11_put; omega)))) (fun t => ((f2 210 t (by unfold w_X12_put; omega)).trans (f1 210 t (by unfold w_X11_put; omega)))) s4, jT6_fr (fun i k p1 p2 => ((f2 i k (by unfold w_X12_put; omega)).trans (f1 i k (by unfold w_X11_put; omega)))) (fun k => ((f2 187 k (by unfold w_X12_put; omega)).trans (f1 187 k (by unfold w_X11_put; omega)))) s5, jTN_fr (fun i k p1 p2 => ((f2 i k (by unfold w_X12_put; omega)).trans (f1 i k (by unfold w_X11_put; omega)))) (fun k => ((f2 188 k (by unfold w_X12_put; omega)).trans (f1 188 k (by unfold w_X11_put; omega)))) s6, (((f2 29 4 (by unfold w_X12_put; omega)).trans (f1 29 4 (by unfold w_X11_put; omega))).trans s7).trans ((f2 176 14 (by unfold w_X12_put; omega)).trans (f1 176 14 (by unfold w_X11_put; omega))).symm, (((f2 84 0 (by unfold w_X12_put; omega)).trans (f1 84 0 (by unfold w_X11_put; omega))).trans s8).trans ((f2 176 34 (by unfold w_X12_put; omega)).trans (f1 176 34 (by unfold w_X11_put; omega))).symm, (((f2 11 0 (by unfold w_X12_put; omega)).trans (f1 11 0 (by unfold w_X11_put; omega))).trans s9).trans ((f2 176 6 (by unfold w_X12_put; omega)).trans (f1 176 6 (by unfold w_X11_put; omega))).symm, (((f2 0 0 (by unfold w_X12_put; omega)).trans (f1 0 0 (by unfold w_X11_put; omega))).trans s10).trans ((f2 176 0 (by unfold w_X12_put; omega)).trans (f1 176 0 (by unfold w_X11_put; omega))).symm, key.2, jDe_fr (fun i k p1 p2 => ((f2 i k (by unfold w_X12_put; omega)).trans (f1 i k (by unfold w_X11_put; omega)))) ((f2 11 0 (by unfold w_X12_put; omega)).trans (f1 11 0 (by unfold w_X11_put; omega))) (fun i k p1 p2 => ((f2 i k (by unfold w_X12_put; omega)).trans (f1 i k (by unfold w_X11_put; omega)))) ((f2 176 6 (by unfold w_X12_put; omega)).trans (f1 176 6 (by unfold w_X11_put; omega))) s12, jTC_fr (fun i k p1 p2 => ((f2 i k (by unfold w_X12_put; omega)).trans (f1 i k (by unfold w_X11_put; omega)))) (fun k => ((f2 186 k (by unfold w_X12_put; omega)).trans (f1 186 k (by unfold w_X11_put; omega)))) s13, jYd2_fr (fun i k q => by unfold jwy at q; exact ((f2 i k (by unfold w_X12_put; omega)).trans (f1 i k (by unfold w_X11_put; omega)))) (fun i k q => by unfold jmy at q; exact ((f2 i k (by unfold w_X12_put; omega)).trans (f1 i k (by unfold w_X11_put; omega)))) s14, jLe_fr ((f2 101 0 (by unfold w_X12_put; omega)).trans (f1 101 0 (by unfold w_X11_put; omega))) (fun i k p1 p2 => ((f2 i k (by unfold w_X12_put; omega)).trans (f1 i k (by unfold w_X11_put; omega)))) ((f2 176 45 (by unfold w_X12_put; omega)).trans (f1 176 45 (by unfold w_X11_put; omega))) (fun i k p1 p2 => ((f2 i k (by unfold w_X12_put; omega)).trans (f1 i k (by unfold w_X11_put; omega)))) s15, jGv_fr (fun i k p1 p2 => ((f2 i k (by unfold w_X12_put; omega)).trans (f1 i k (by unfold w_X11_put; omega)))) (fun i k p1 p2 => ((f2 i k (by unfold w_X12_put; omega)).trans (f1 i k (by unfold w_X11_put; omega)))) ((f2 176 34 (by unfold w_X12_put; omega)).trans (f1 176 34 (by unfold w_X11_put; omega))) ((f2 176 0 (by unfold w_X12_put; omega)).trans (f1 176 0 (by unfold w_X11_put; omega))) (fun i k p1 p2 => ((f2 i k (by unfold w_X12_put; omega)).trans (f1 i k (by unfold w_X11_put; omega)))) (fun i k p1 p2 => ((f2 i k (by unfold w_X12_put; omega)).trans (f1 i k (by unfold w_X11_put; omega)))) (fun i p1 p2 => ((f2 i 10 (by unfold w_X12_put; omega)).trans (f1 i 10 (by unfold w_X11_put; omega)))) (fun k => ((f2 201 k (by unfold w_X12_put; omega)).trans (f1 201 k (by unfold w_X11_put; omega)))) s16, (A7 key.1), jS9_fr (fun k p1 p2 => ((f2 198 k (by unfold w_X12_put; omega)).trans (f1 198 k (by unfold w_X11_put; omega)))) ((f2 176 0 (by unfold w_X12_put; omega)).trans (f1 176 0 (by unfold w_X11_put; omega))) s18⟩
set_option maxHeartbeats 4000000 in
theorem pr_copy {h g1 g2 : JH} {a1 a2 a3 a4 a5 x y : Int} (f1 : jfr w_X11_copy h g1) (f2 : jfr w_X12_copy g1 g2) (p : P_X11_copy a1 a2 a3 a4 a5 x h g1) (q : P_X12_copy a1 a2 a3 a4 a5 y g1 g2) (s : jI h) (A7 : x = y → jAh g2) : x = y ∧ jI g2 := by
  obtain ⟨s0, s1, s2, s3, s4, s5, s6, s7, s8, s9, s10, s11, s12, s13, s14, s15, s16, s17, s18⟩ := s
  unfold P_X11_copy at p
  unfold P_X12_copy at q
  have fA : ∀ i k : Int, 6 ≤ i → i ≤ 10 → g2 i k = g1 i k := fun i k p1 p2 => (f2 i k (by unfold w_X12_copy; omega))
  have fB : ∀ i k : Int, 179 ≤ i → i ≤ 180 → g1 i k = h i k := fun i k p1 p2 => (f1 i k (by unfold w_X11_copy; omega))
  have Ba1 : ¬ (0 ≤ a1 ∧ a1 < 4) ∨ h 10 a1 = h 179 a1 := by
    by_cases z : 0 ≤ a1 ∧ a1 < 4
    · exact Or.inr (s2 a1 z.1 z.2)
    · exact Or.inl z
  have Ca1 := fB 179 a1 (by decide) (by decide)
  have Ba3 : ¬ (0 ≤ a3 ∧ a3 < 4) ∨ h 10 a3 = h 179 a3 := by
    by_cases z : 0 ≤ a3 ∧ a3 < 4
    · exact Or.inr (s2 a3 z.1 z.2)
    · exact Or.inl z
  have Ca3 := fB 179 a3 (by decide) (by decide)
  have F10 : ∀ t : Int, g2 10 t = h 10 t := fun t => (fA 10 t (by decide) (by decide)).trans (f1 10 t (by unfold w_X11_copy; omega))
  have key : x = y ∧ jRo g2 := by
    rcases p with ⟨c, e⟩ | ⟨c, e⟩ | ⟨c, e⟩ | ⟨c, e, ee⟩ <;> rcases q with ⟨d, r⟩ | ⟨d, r⟩ | ⟨d, r⟩ | ⟨d, r, rr⟩
    · refine ⟨by omega, fun t k h0 h1 h2 h3 h4 => ?_⟩
      have E3 := fA (6 + t) k (by omega) (by omega); have E4 := fB 180 (30 * t + k) (by decide) (by decide); have F3 := F10 t
      have E1 := e (6 + t) k (by omega) (by omega); have E2 := r 180 (30 * t + k) (by omega) (by omega); have E5 := s11 t k h0 h1 h2 h3 (by omega); omega
    · exfalso; omega
    · exfalso; omega
    · exfalso; omega
    · exfalso; omega
    · refine ⟨by omega, fun t k h0 h1 h2 h3 h4 => ?_⟩
      have E3 := fA (6 + t) k (by omega) (by omega); have E4 := fB 180 (30 * t + k) (by decide) (by decide); have F3 := F10 t
      have E1 := e (6 + t) k (by omega) (by omega); have E2 := r 180 (30 * t + k) (by omega) (by omega); have E5 := s11 t k h0 h1 h2 h3 (by omega); omega
    · exfalso; omega
    · exfalso; omega
    · exfalso; omega
    · exfalso; omega
    · refine ⟨by omega, fun t k h0 h1 h2 h3 h4 => ?_⟩
      have E3 := fA (6 + t) k (by omega) (by omega); have E4 := fB 180 (30 * t + k) (by decide) (by decide); have F3 := F10 t
      have E1 := e (6 + t) k (by omega) (by omega); have E2 := r 180 (30 * t + k) (by omega) (by omega); have E5 := s11 t k h0 h1 h2 h3 (by omega); omega
    · exfalso; omega
    · exfalso; omega
    · exfalso; omega
    · exfalso; omega
    · refine ⟨by omega, fun t k h0 h1 h2 h3 h4 => ?_⟩
      have E3 := fA (6 + t) k (by omega) (by omega); have E4 := fB 180 (30 * t + k) (by decide) (by decide); have F3 := F10 t
      by_cases z : t = a3 ∧ a4 ≤ k ∧ k < a4 + a5
      · have E1 := e k z.2.1 z.2.2; have E2 := r (30 * a3 + k) (by omega) (by omega)
        have G1 := fB 180 (30 * a1 + a2 + (30 * a3 + k - (30 * a3 + a4))) (by decide) (by decide)
        have E5 := s11 a1 (a2 + (k - a4)) (by omega) (by omega) (by omega) (by omega) (by omega)
        rw [show 30 * a1 + a2 + (30 * a3 + k - (30 * a3 + a4)) = 30 * a1 + (a2 + (k - a4)) by omega] at G1 E2
        rw [z.1] at E3; rw [z.1]; omega
      · have E1 := ee (6 + t) k (by omega) (by omega) (by omega); have E2 := rr (30 * t + k) (by omega); have E5 := s11 t k h0 h1 h2 h3 (by omega); omega
  try clear p
  try clear q
  exact ⟨key.1, jSm_fr (fun t => ((f2 3 t (by unfold w_X12_copy; omega)).trans (f1 3 t (by unfold w_X11_copy; omega)))) (fun t => ((f2 177 t (by unfold w_X12_copy; omega)).trans (f1 177 t (by unfold w_X11_copy; omega)))) s0, jSm_fr (fun t => ((f2 4 t (by unfold w_X12_copy; omega)).trans (f1 4 t (by unfold w_X11_copy; omega)))) (fun t => ((f2 178 t (by unfold w_X12_copy; omega)).trans (f1 178 t (by unfold w_X11_copy; omega)))) s1, jSm_fr (fun t => ((f2 10 t (by unfold w_X12_copy; omega)).trans (f1 10 t (by unfold w_X11_copy; omega)))) (fun t => ((f2 179 t (by unfold w_X12_copy; omega)).trans (f1 179 t (by unfold w_X11_copy; omega)))) s2, jSm_fr (fun t => ((f2 90 t (by unfold w_X12_copy; omega)).trans (f1 90 t (by unfold w_X11_copy; omega)))) (fun t => ((f2 204 t (by unfold w_X12_copy; omega)).trans (f1 204 t (by unfold w_X11_copy; omega)))) s3, jSm_fr (fun t => ((f2 92 t (by unfold w_X12_copy; omega)).trans (f1 92 t (by unfold w_X11_copy; omega)))) (fun t => ((f2 210 t (by unfold w_X12_copy; omega)).trans (f1 210 t (by unfold w_X11_copy; omega)))) s4, jT6_fr (fun i k p1 p2 => ((f2 i k (by unfold w_X12_copy; omega)).trans (f1 i k (by unfold w_X11_copy; omega)))) (fun k => ((f2 187 k (by unfold w_X12_copy; omega)).trans (f1 187 k (by unfold w_X11_copy; omega)))) s5, jTN_fr (fun i k p1 p2 => ((f2 i k (by unfold w_X12_copy; omega)).trans (f1 i k (by unfold w_X11_copy; omega)))) (fun k => ((f2 188 k (by unfold w_X12_copy; omega)).trans (f1 188 k (by unfold w_X11_copy; omega)))) s6, (((f2 29 4 (by unfold w_X12_copy; omega)).trans (f1 29 4 (by unfold w_X11_copy; omega))).trans s7).trans ((f2 176 14 (by unfold w_X12_copy; omega)).trans (f1 176 14 (by unfold w_X11_copy; omega))).symm, (((f2 84 0 (by unfold w_X12_copy; omega)).trans (f1 84 0 (by unfold w_X11_copy; omega))).trans s8).trans ((f2 176 34 (by unfold w_X12_copy; omega)).trans (f1 176 34 (by unfold w_X11_copy; omega))).symm, (((f2 11 0 (by unfold w_X12_copy; omega)).trans (f1 11 0 (by unfold w_X11_copy; omega))).trans s9).trans ((f2 176 6 (by unfold w_X12_copy; omega)).trans (f1 176 6 (by unfold w_X11_copy; omega))).symm, (((f2 0 0 (by unfold w_X12_copy; omega)).trans (f1 0 0 (by unfold w_X11_copy; omega))).trans s10).trans ((f2 176 0 (by unfold w_X12_copy; omega)).trans (f1 176 0 (by unfold w_X11_copy; omega))).symm, key.2, jDe_fr (fun i k p1 p2 => ((f2 i k (by unfold w_X12_copy; omega)).trans (f1 i k (by unfold w_X11_copy; omega)))) ((f2 11 0 (by unfold w_X12_copy; omega)).trans (f1 11 0 (by unfold w_X11_copy; omega))) (fun i k p1 p2 => ((f2 i k (by unfold w_X12_copy; omega)).trans (f1 i k (by unfold w_X11_copy; omega)))) ((f2 176 6 (by unfold w_X12_copy; omega)).trans (f1 176 6 (by unfold w_X11_copy; omega))) s12, jTC_fr (fun i k p1 p2 => ((f2 i k (by unfold w_X12_copy; omega)).trans (f1 i k (by unfold w_X11_copy; omega)))) (fun k => ((f2 186 k (by unfold w_X12_copy; omega)).trans (f1 186 k (by unfold w_X11_copy; omega)))) s13, jYd2_fr (fun i k q => by unfold jwy at q; exact ((f2 i k (by unfold w_X12_copy; omega)).trans (f1 i k (by unfold w_X11_copy; omega)))) (fun i k q => by unfold jmy at q; exact ((f2 i k (by unfold w_X12_copy; omega)).trans (f1 i k (by unfold w_X11_copy; omega)))) s14, jLe_fr ((f2 101 0 (by unfold w_X12_copy; omega)).trans (f1 101 0 (by unfold w_X11_copy; omega))) (fun i k p1 p2 => ((f2 i k (by unfold w_X12_copy; omega)).trans (f1 i k (by unfold w_X11_copy; omega)))) ((f2 176 45 (by unfold w_X12_copy; omega)).trans (f1 176 45 (by unfold w_X11_copy; omega))) (fun i k p1 p2 => ((f2 i k (by unfold w_X12_copy; omega)).trans (f1 i k (by unfold w_X11_copy; omega)))) s15, jGv_fr (fun i k p1 p2 => ((f2 i k (by unfold w_X12_copy; omega)).trans (f1 i k (by unfold w_X11_copy; omega)))) (fun i k p1 p2 => ((f2 i k (by unfold w_X12_copy; omega)).trans (f1 i k (by unfold w_X11_copy; omega)))) ((f2 176 34 (by unfold w_X12_copy; omega)).trans (f1 176 34 (by unfold w_X11_copy; omega))) ((f2 176 0 (by unfold w_X12_copy; omega)).trans (f1 176 0 (by unfold w_X11_copy; omega))) (fun i k p1 p2 => ((f2 i k (by unfold w_X12_copy; omega)).trans (f1 i k (by unfold w_X11_copy; omega)))) (fun i k p1 p2 => ((f2 i k (by unfold w_X12_copy; omega)).trans (f1 i k (by unfold w_X11_copy; omega)))) (fun i p1 p2 => ((f2 i 10 (by unfold w_X12_copy; omega)).trans (f1 i 10 (by unfold w_X11_copy; omega)))) (fun k => ((f2 201 k (by unfold w_X12_copy; omega)).trans (f1 201 k (by unfold w_X11_copy; omega)))) s16, (A7 key.1), jS9_fr (fun k p1 p2 => ((f2 198 k (by unfold w_X12_copy; omega)).trans (f1 198 k (by unfold w_X11_copy; omega)))) ((f2 176 0 (by unfold w_X12_copy; omega)).trans (f1 176 0 (by unfold w_X11_copy; omega))) s18⟩
