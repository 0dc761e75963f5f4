/-! ===== CLASS AND REFERENCE SIDE BY SIDE (by program) ===== -/
def jT6 (h : JH) : Prop := ∀ s b : Int, 0 ≤ s → s < 3 → 0 ≤ b → b < 6 → h (22 + s) b = h 187 (6 * s + b)
def jTN (h : JH) : Prop := ∀ s b : Int, 0 ≤ s → s < 3 → 0 ≤ b → b < 36 → h (26 + s) b = h 188 (36 * s + b)
theorem jT6_fr {h g : JH} (eA : ∀ i k : Int, 22 ≤ i → i ≤ 24 → g i k = h i k) (eB : ∀ k : Int, g 187 k = h 187 k) (q : jT6 h) : jT6 g := fun s b h0 h1 h2 h3 => by rw [eA _ _ (by omega) (by omega), eB]; exact q s b h0 h1 h2 h3
theorem jTN_fr {h g : JH} (eA : ∀ i k : Int, 26 ≤ i → i ≤ 28 → g i k = h i k) (eB : ∀ k : Int, g 188 k = h 188 k) (q : jTN h) : jTN g := fun s b h0 h1 h2 h3 => by rw [eA _ _ (by omega) (by omega), eB]; exact q s b h0 h1 h2 h3
def jSup (i k : Int) : Prop := i = 3 ∨ i = 4 ∨ i = 10 ∨ i = 90 ∨ i = 92 ∨ (22 ≤ i ∧ i ≤ 24) ∨ (26 ≤ i ∧ i ≤ 28) ∨ (i = 29 ∧ k = 4) ∨ (i = 84 ∧ k = 0) ∨ (i = 11 ∧ k = 0) ∨ (i = 0 ∧ k = 0) ∨ (177 ≤ i ∧ i ≤ 179) ∨ i = 204 ∨ i = 210 ∨ (187 ≤ i ∧ i ≤ 188) ∨ (i = 176 ∧ (k = 14 ∨ k = 34 ∨ k = 6 ∨ k = 0))
def jI (h : JH) : Prop := jSm 3 177 4 h ∧ jSm 4 178 4 h ∧ jSm 10 179 4 h ∧ jSm 90 204 3 h ∧ jSm 92 210 3 h ∧ jT6 h ∧ jTN h ∧ h 29 4 = h 176 14 ∧ h 84 0 = h 176 34 ∧ h 11 0 = h 176 6 ∧ h 0 0 = h 176 0
theorem jI_fr {h g : JH} (e : ∀ i k : Int, jSup i k → g i k = h i k) (s : jI h) : jI g := by
  obtain ⟨s0, s1, s2, s3, s4, s5, s6, s7, s8, s9, s10⟩ := s
  exact ⟨jSm_fr (fun t => (e 3 t (by unfold jSup; omega))) (fun t => (e 177 t (by unfold jSup; omega))) s0, jSm_fr (fun t => (e 4 t (by unfold jSup; omega))) (fun t => (e 178 t (by unfold jSup; omega))) s1, jSm_fr (fun t => (e 10 t (by unfold jSup; omega))) (fun t => (e 179 t (by unfold jSup; omega))) s2, jSm_fr (fun t => (e 90 t (by unfold jSup; omega))) (fun t => (e 204 t (by unfold jSup; omega))) s3, jSm_fr (fun t => (e 92 t (by unfold jSup; omega))) (fun t => (e 210 t (by unfold jSup; omega))) s4, jT6_fr (fun i k p1 p2 => (e i k (by unfold jSup; omega))) (fun k => (e 187 k (by unfold jSup; omega))) s5, jTN_fr (fun i k p1 p2 => (e i k (by unfold jSup; omega))) (fun k => (e 188 k (by unfold jSup; omega))) s6, ((e 29 4 (by unfold jSup; omega)).trans s7).trans (e 176 14 (by unfold jSup; omega)).symm, ((e 84 0 (by unfold jSup; omega)).trans s8).trans (e 176 34 (by unfold jSup; omega)).symm, ((e 11 0 (by unfold jSup; omega)).trans s9).trans (e 176 6 (by unfold jSup; omega)).symm, ((e 0 0 (by unfold jSup; omega)).trans s10).trans (e 176 0 (by unfold jSup; omega)).symm⟩
set_option maxHeartbeats 4000000 in
theorem pr_hands {h g1 g2 : JH} {a1 a2 x y : Int} (f1 : jfr w_X11_hands h g1) (f2 : jfr w_X12_hands g1 g2) (p : P_X11_hands a1 a2 x h g1) (q : P_X12_hands a1 a2 y g1 g2) (s : jI h) : x = y ∧ jI g2 := by
  obtain ⟨s0, s1, s2, s3, s4, s5, s6, s7, s8, s9, s10⟩ := s
  unfold P_X11_hands at p
  unfold P_X12_hands at q
  have fA : ∀ t : Int, g2 3 t = g1 3 t := fun t => (f2 3 t (by unfold w_X12_hands; omega))
  have fB : ∀ t : Int, g1 177 t = h 177 t := fun t => (f1 177 t (by unfold w_X11_hands; omega))
  have A4 := fB a1; have A3 := fA a1
  have A5 : ¬ (0 ≤ a1 ∧ a1 < 4) ∨ h 3 a1 = h 177 a1 := by
    by_cases z : 0 ≤ a1 ∧ a1 < 4
    · exact Or.inr (s0 a1 z.1 z.2)
    · exact Or.inl z
  have key : x = y ∧ jSm 3 177 4 g2 := by
    rcases p with ⟨c, e⟩ | ⟨c, e⟩ | ⟨c, e⟩ | ⟨c, e, ee⟩ <;> rcases q with ⟨d, r⟩ | ⟨d, r⟩ | ⟨d, r⟩ | ⟨d, r, rr⟩
    · refine ⟨by omega, fun t h0 h1 => ?_⟩
      have E3 := fA t; have E4 := fB t; have E5 := s0 t h0 h1
      have E1 := e 3 t (by omega) (by omega); have E2 := r 177 t (by omega) (by omega)
      omega
    · exfalso; omega
    · exfalso; omega
    · exfalso; omega
    · exfalso; omega
    · refine ⟨by omega, fun t h0 h1 => ?_⟩
      have E3 := fA t; have E4 := fB t; have E5 := s0 t h0 h1
      have E1 := e 3 t (by omega) (by omega); have E2 := r 177 t (by omega) (by omega)
      omega
    · exfalso; omega
    · exfalso; omega
    · exfalso; omega
    · exfalso; omega
    · refine ⟨by omega, fun t h0 h1 => ?_⟩
      have E3 := fA t; have E4 := fB t; have E5 := s0 t h0 h1
      have E1 := e 3 t (by omega) (by omega); have E2 := r 177 t (by omega) (by omega)
      omega
    · exfalso; omega
    · exfalso; omega
    · exfalso; omega
    · exfalso; omega
    · refine ⟨by omega, fun t h0 h1 => ?_⟩
      have E3 := fA t; have E4 := fB t; have E5 := s0 t h0 h1
      by_cases z : t = a1
      · rw [z] at E3 E4 E5 ⊢; omega
      · have E1 := ee 3 t (by omega) (by omega) (by omega); have E2 := rr 177 t (by omega) (by omega) (by omega); omega
  exact ⟨key.1, key.2, jSm_fr (fun t => ((f2 4 t (by unfold w_X12_hands; omega)).trans (f1 4 t (by unfold w_X11_hands; omega)))) (fun t => ((f2 178 t (by unfold w_X12_hands; omega)).trans (f1 178 t (by unfold w_X11_hands; omega)))) s1, jSm_fr (fun t => ((f2 10 t (by unfold w_X12_hands; omega)).trans (f1 10 t (by unfold w_X11_hands; omega)))) (fun t => ((f2 179 t (by unfold w_X12_hands; omega)).trans (f1 179 t (by unfold w_X11_hands; omega)))) s2, jSm_fr (fun t => ((f2 90 t (by unfold w_X12_hands; omega)).trans (f1 90 t (by unfold w_X11_hands; omega)))) (fun t => ((f2 204 t (by unfold w_X12_hands; omega)).trans (f1 204 t (by unfold w_X11_hands; omega)))) s3, jSm_fr (fun t => ((f2 92 t (by unfold w_X12_hands; omega)).trans (f1 92 t (by unfold w_X11_hands; omega)))) (fun t => ((f2 210 t (by unfold w_X12_hands; omega)).trans (f1 210 t (by unfold w_X11_hands; omega)))) s4, jT6_fr (fun i k p1 p2 => ((f2 i k (by unfold w_X12_hands; omega)).trans (f1 i k (by unfold w_X11_hands; omega)))) (fun k => ((f2 187 k (by unfold w_X12_hands; omega)).trans (f1 187 k (by unfold w_X11_hands; omega)))) s5, jTN_fr (fun i k p1 p2 => ((f2 i k (by unfold w_X12_hands; omega)).trans (f1 i k (by unfold w_X11_hands; omega)))) (fun k => ((f2 188 k (by unfold w_X12_hands; omega)).trans (f1 188 k (by unfold w_X11_hands; omega)))) s6, (((f2 29 4 (by unfold w_X12_hands; omega)).trans (f1 29 4 (by unfold w_X11_hands; omega))).trans s7).trans ((f2 176 14 (by unfold w_X12_hands; omega)).trans (f1 176 14 (by unfold w_X11_hands; omega))).symm, (((f2 84 0 (by unfold w_X12_hands; omega)).trans (f1 84 0 (by unfold w_X11_hands; omega))).trans s8).trans ((f2 176 34 (by unfold w_X12_hands; omega)).trans (f1 176 34 (by unfold w_X11_hands; omega))).symm, (((f2 11 0 (by unfold w_X12_hands; omega)).trans (f1 11 0 (by unfold w_X11_hands; omega))).trans s9).trans ((f2 176 6 (by unfold w_X12_hands; omega)).trans (f1 176 6 (by unfold w_X11_hands; omega))).symm, (((f2 0 0 (by unfold w_X12_hands; omega)).trans (f1 0 0 (by unfold w_X11_hands; omega))).trans s10).trans ((f2 176 0 (by unfold w_X12_hands; omega)).trans (f1 176 0 (by unfold w_X11_hands; omega))).symm⟩
theorem pf_bring {h g1 g2 : JH} (f1 : jfr w_X11_bring h g1) (f2 : jfr w_X12_bring g1 g2) (s : jI h) : jI g2 := jI_fr (fun i k hs => (f2 i k (by unfold jSup at hs; unfold w_X12_bring; omega)).trans (f1 i k (by unfold jSup at hs; unfold w_X11_bring; omega))) s
set_option maxHeartbeats 4000000 in
theorem pr_row {h g1 g2 : JH} {a1 a2 x y : Int} (f1 : jfr w_X11_row h g1) (f2 : jfr w_X12_row g1 g2) (p : P_X11_row a1 a2 x h g1) (q : P_X12_row a1 a2 y g1 g2) (s : jI h) : x = y ∧ jI g2 := by
  obtain ⟨s0, s1, s2, s3, s4, s5, s6, s7, s8, s9, s10⟩ := s
  unfold P_X11_row at p
  unfold P_X12_row at q
  have fA : ∀ t : Int, g2 10 t = g1 10 t := fun t => (f2 10 t (by unfold w_X12_row; omega))
  have fB : ∀ t : Int, g1 179 t = h 179 t := fun t => (f1 179 t (by unfold w_X11_row; omega))
  have A4 := fB a1; have A3 := fA a1
  have A5 : ¬ (0 ≤ a1 ∧ a1 < 4) ∨ h 10 a1 = h 179 a1 := by
    by_cases z : 0 ≤ a1 ∧ a1 < 4
    · exact Or.inr (s2 a1 z.1 z.2)
    · exact Or.inl z
  have key : x = y ∧ jSm 10 179 4 g2 := by
    rcases p with ⟨c, e⟩ | ⟨c, e⟩ | ⟨c, e⟩ | ⟨c, e, ee⟩ <;> rcases q with ⟨d, r⟩ | ⟨d, r⟩ | ⟨d, r⟩ | ⟨d, r, rr⟩
    · refine ⟨by omega, fun t h0 h1 => ?_⟩
      have E3 := fA t; have E4 := fB t; have E5 := s2 t h0 h1
      have E1 := e 10 t (by omega) (by omega); have E2 := r 179 t (by omega) (by omega)
      omega
    · exfalso; omega
    · exfalso; omega
    · exfalso; omega
    · exfalso; omega
    · refine ⟨by omega, fun t h0 h1 => ?_⟩
      have E3 := fA t; have E4 := fB t; have E5 := s2 t h0 h1
      have E1 := e 10 t (by omega) (by omega); have E2 := r 179 t (by omega) (by omega)
      omega
    · exfalso; omega
    · exfalso; omega
    · exfalso; omega
    · exfalso; omega
    · refine ⟨by omega, fun t h0 h1 => ?_⟩
      have E3 := fA t; have E4 := fB t; have E5 := s2 t h0 h1
      have E1 := e 10 t (by omega) (by omega); have E2 := r 179 t (by omega) (by omega)
      omega
    · exfalso; omega
    · exfalso; omega
    · exfalso; omega
    · exfalso; omega
    · refine ⟨by omega, fun t h0 h1 => ?_⟩
      have E3 := fA t; have E4 := fB t; have E5 := s2 t h0 h1
      by_cases z : t = a1
      · rw [z] at E3 E4 E5 ⊢; omega
      · have E1 := ee 10 t (by omega) (by omega) (by omega); have E2 := rr 179 t (by omega) (by omega) (by omega); omega
  exact ⟨key.1, jSm_fr (fun t => ((f2 3 t (by unfold w_X12_row; omega)).trans (f1 3 t (by unfold w_X11_row; omega)))) (fun t => ((f2 177 t (by unfold w_X12_row; omega)).trans (f1 177 t (by unfold w_X11_row; omega)))) s0, jSm_fr (fun t => ((f2 4 t (by unfold w_X12_row; omega)).trans (f1 4 t (by unfold w_X11_row; omega)))) (fun t => ((f2 178 t (by unfold w_X12_row; omega)).trans (f1 178 t (by unfold w_X11_row; omega)))) s1, key.2, jSm_fr (fun t => ((f2 90 t (by unfold w_X12_row; omega)).trans (f1 90 t (by unfold w_X11_row; omega)))) (fun t => ((f2 204 t (by unfold w_X12_row; omega)).trans (f1 204 t (by unfold w_X11_row; omega)))) s3, jSm_fr (fun t => ((f2 92 t (by unfold w_X12_row; omega)).trans (f1 92 t (by unfold w_X11_row; omega)))) (fun t => ((f2 210 t (by unfold w_X12_row; omega)).trans (f1 210 t (by unfold w_X11_row; omega)))) s4, jT6_fr (fun i k p1 p2 => ((f2 i k (by unfold w_X12_row; omega)).trans (f1 i k (by unfold w_X11_row; omega)))) (fun k => ((f2 187 k (by unfold w_X12_row; omega)).trans (f1 187 k (by unfold w_X11_row; omega)))) s5, jTN_fr (fun i k p1 p2 => ((f2 i k (by unfold w_X12_row; omega)).trans (f1 i k (by unfold w_X11_row; omega)))) (fun k => ((f2 188 k (by unfold w_X12_row; omega)).trans (f1 188 k (by unfold w_X11_row; omega)))) s6, (((f2 29 4 (by unfold w_X12_row; omega)).trans (f1 29 4 (by unfold w_X11_row; omega))).trans s7).trans ((f2 176 14 (by unfold w_X12_row; omega)).trans (f1 176 14 (by unfold w_X11_row; omega))).symm, (((f2 84 0 (by unfold w_X12_row; omega)).trans (f1 84 0 (by unfold w_X11_row; omega))).trans s8).trans ((f2 176 34 (by unfold w_X12_row; omega)).trans (f1 176 34 (by unfold w_X11_row; omega))).symm, (((f2 11 0 (by unfold w_X12_row; omega)).trans (f1 11 0 (by unfold w_X11_row; omega))).trans s9).trans ((f2 176 6 (by unfold w_X12_row; omega)).trans (f1 176 6 (by unfold w_X11_row; omega))).symm, (((f2 0 0 (by unfold w_X12_row; omega)).trans (f1 0 0 (by unfold w_X11_row; omega))).trans s10).trans ((f2 176 0 (by unfold w_X12_row; omega)).trans (f1 176 0 (by unfold w_X11_row; omega))).symm⟩
set_option maxHeartbeats 4000000 in
theorem pr_lose {h g1 g2 : JH} {a1 x y : Int} (f1 : jfr w_X11_lose h g1) (f2 : jfr w_X12_lose g1 g2) (p : P_X11_lose a1 x h g1) (q : P_X12_lose a1 y g1 g2) (s : jI h) : x = y ∧ jI g2 := by
  obtain ⟨s0, s1, s2, s3, s4, s5, s6, s7, s8, s9, s10⟩ := s
  unfold P_X11_lose at p
  unfold P_X12_lose at q
  have fA : ∀ t : Int, g2 10 t = g1 10 t := fun t => (f2 10 t (by unfold w_X12_lose; omega))
  have fB : ∀ t : Int, g1 179 t = h 179 t := fun t => (f1 179 t (by unfold w_X11_lose; omega))
  have A4 := fB a1; have A3 := fA a1
  have A5 : ¬ (0 ≤ a1 ∧ a1 < 4) ∨ h 10 a1 = h 179 a1 := by
    by_cases z : 0 ≤ a1 ∧ a1 < 4
    · exact Or.inr (s2 a1 z.1 z.2)
    · exact Or.inl z
  have key : x = y ∧ jSm 10 179 4 g2 := by
    rcases p with ⟨c, e⟩ | ⟨c, e⟩ | ⟨c, e, ee⟩ <;> rcases q with ⟨d, r⟩ | ⟨d, r, rr⟩
    · refine ⟨by omega, fun t h0 h1 => ?_⟩
      have E3 := fA t; have E4 := fB t; have E5 := s2 t h0 h1
      have E1 := e 10 t (by omega) (by omega); have E2 := r 179 t (by omega) (by omega)
      omega
    · exfalso; omega
    · exfalso; omega
    · refine ⟨by omega, fun t h0 h1 => ?_⟩
      have E3 := fA t; have E4 := fB t; have E5 := s2 t h0 h1
      by_cases z : t = a1
      · have E1 := e 10 t (by omega) (by omega); rw [z] at E1 E3 E4 E5 ⊢; omega
      · have E1 := e 10 t (by omega) (by omega); have E2 := rr 179 t (by omega) (by omega) (by omega); omega
    · exfalso; omega
    · refine ⟨by omega, fun t h0 h1 => ?_⟩
      have E3 := fA t; have E4 := fB t; have E5 := s2 t h0 h1
      by_cases z : t = a1
      · rw [z] at E3 E4 E5 ⊢; omega
      · have E1 := ee 10 t (by omega) (by omega) (by omega); have E2 := rr 179 t (by omega) (by omega) (by omega); omega
  exact ⟨key.1, jSm_fr (fun t => ((f2 3 t (by unfold w_X12_lose; omega)).trans (f1 3 t (by unfold w_X11_lose; omega)))) (fun t => ((f2 177 t (by unfold w_X12_lose; omega)).trans (f1 177 t (by unfold w_X11_lose; omega)))) s0, jSm_fr (fun t => ((f2 4 t (by unfold w_X12_lose; omega)).trans (f1 4 t (by unfold w_X11_lose; omega)))) (fun t => ((f2 178 t (by unfold w_X12_lose; omega)).trans (f1 178 t (by unfold w_X11_lose; omega)))) s1, key.2, jSm_fr (fun t => ((f2 90 t (by unfold w_X12_lose; omega)).trans (f1 90 t (by unfold w_X11_lose; omega)))) (fun t => ((f2 204 t (by unfold w_X12_lose; omega)).trans (f1 204 t (by unfold w_X11_lose; omega)))) s3, jSm_fr (fun t => ((f2 92 t (by unfold w_X12_lose; omega)).trans (f1 92 t (by unfold w_X11_lose; omega)))) (fun t => ((f2 210 t (by unfold w_X12_lose; omega)).trans (f1 210 t (by unfold w_X11_lose; omega)))) s4, jT6_fr (fun i k p1 p2 => ((f2 i k (by unfold w_X12_lose; omega)).trans (f1 i k (by unfold w_X11_lose; omega)))) (fun k => ((f2 187 k (by unfold w_X12_lose; omega)).trans (f1 187 k (by unfold w_X11_lose; omega)))) s5, jTN_fr (fun i k p1 p2 => ((f2 i k (by unfold w_X12_lose; omega)).trans (f1 i k (by unfold w_X11_lose; omega)))) (fun k => ((f2 188 k (by unfold w_X12_lose; omega)).trans (f1 188 k (by unfold w_X11_lose; omega)))) s6, (((f2 29 4 (by unfold w_X12_lose; omega)).trans (f1 29 4 (by unfold w_X11_lose; omega))).trans s7).trans ((f2 176 14 (by unfold w_X12_lose; omega)).trans (f1 176 14 (by unfold w_X11_lose; omega))).symm, (((f2 84 0 (by unfold w_X12_lose; omega)).trans (f1 84 0 (by unfold w_X11_lose; omega))).trans s8).trans ((f2 176 34 (by unfold w_X12_lose; omega)).trans (f1 176 34 (by unfold w_X11_lose; omega))).symm, (((f2 11 0 (by unfold w_X12_lose; omega)).trans (f1 11 0 (by unfold w_X11_lose; omega))).trans s9).trans ((f2 176 6 (by unfold w_X12_lose; omega)).trans (f1 176 6 (by unfold w_X11_lose; omega))).symm, (((f2 0 0 (by unfold w_X12_lose; omega)).trans (f1 0 0 (by unfold w_X11_lose; omega))).trans s10).trans ((f2 176 0 (by unfold w_X12_lose; omega)).trans (f1 176 0 (by unfold w_X11_lose; omega))).symm⟩
theorem pf_put {h g1 g2 : JH} (f1 : jfr w_X11_put h g1) (f2 : jfr w_X12_put g1 g2) (s : jI h) : jI g2 := jI_fr (fun i k hs => (f2 i k (by unfold jSup at hs; unfold w_X12_put; omega)).trans (f1 i k (by unfold jSup at hs; unfold w_X11_put; omega))) s
theorem pf_copy {h g1 g2 : JH} (f1 : jfr w_X11_copy h g1) (f2 : jfr w_X12_copy g1 g2) (s : jI h) : jI g2 := jI_fr (fun i k hs => (f2 i k (by unfold jSup at hs; unfold w_X12_copy; omega)).trans (f1 i k (by unfold jSup at hs; unfold w_X11_copy; omega))) s
set_option maxHeartbeats 4000000 in
theorem pr_lead {h g1 g2 : JH} {a1 a2 x y : Int} (f1 : jfr w_X11_lead h g1) (f2 : jfr w_X12_lead g1 g2) (p : P_X11_lead a1 a2 x h g1) (q : P_X12_lead a1 a2 y g1 g2) (s : jI h) : x = y ∧ jI g2 := by
  obtain ⟨s0, s1, s2, s3, s4, s5, s6, s7, s8, s9, s10⟩ := s
  unfold P_X11_lead at p
  unfold P_X12_lead at q
  have fA : ∀ t : Int, g2 4 t = g1 4 t := fun t => (f2 4 t (by unfold w_X12_lead; omega))
  have fB : ∀ t : Int, g1 178 t = h 178 t := fun t => (f1 178 t (by unfold w_X11_lead; omega))
  have A4 := fB a1; have A3 := fA a1
  have A5 : ¬ (0 ≤ a1 ∧ a1 < 4) ∨ h 4 a1 = h 178 a1 := by
    by_cases z : 0 ≤ a1 ∧ a1 < 4
    · exact Or.inr (s1 a1 z.1 z.2)
    · exact Or.inl z
  have key : x = y ∧ jSm 4 178 4 g2 := by
    rcases p with ⟨c, e⟩ | ⟨c, e, ee⟩ <;> rcases q with ⟨d, r⟩ | ⟨d, r, rr⟩
    · refine ⟨by omega, fun t h0 h1 => ?_⟩
      have E3 := fA t; have E4 := fB t; have E5 := s1 t h0 h1
      have E1 := e 4 t (by omega) (by omega); have E2 := r 178 t (by omega) (by omega)
      omega
    · exfalso; omega
    · exfalso; omega
    · refine ⟨by omega, fun t h0 h1 => ?_⟩
      have E3 := fA t; have E4 := fB t; have E5 := s1 t h0 h1
      by_cases z : t = a1
      · rw [z] at E3 E4 E5 ⊢; omega
      · have E1 := ee 4 t (by omega) (by omega) (by omega); have E2 := rr 178 t (by omega) (by omega) (by omega); omega
  exact ⟨key.1, jSm_fr (fun t => ((f2 3 t (by unfold w_X12_lead; omega)).trans (f1 3 t (by unfold w_X11_lead; omega)))) (fun t => ((f2 177 t (by unfold w_X12_lead; omega)).trans (f1 177 t (by unfold w_X11_lead; omega)))) s0, key.2, jSm_fr (fun t => ((f2 10 t (by unfold w_X12_lead; omega)).trans (f1 10 t (by unfold w_X11_lead; omega)))) (fun t => ((f2 179 t (by unfold w_X12_lead; omega)).trans (f1 179 t (by unfold w_X11_lead; omega)))) s2, jSm_fr (fun t => ((f2 90 t (by unfold w_X12_lead; omega)).trans (f1 90 t (by unfold w_X11_lead; omega)))) (fun t => ((f2 204 t (by unfold w_X12_lead; omega)).trans (f1 204 t (by unfold w_X11_lead; omega)))) s3, jSm_fr (fun t => ((f2 92 t (by unfold w_X12_lead; omega)).trans (f1 92 t (by unfold w_X11_lead; omega)))) (fun t => ((f2 210 t (by unfold w_X12_lead; omega)).trans (f1 210 t (by unfold w_X11_lead; omega)))) s4, jT6_fr (fun i k p1 p2 => ((f2 i k (by unfold w_X12_lead; omega)).trans (f1 i k (by unfold w_X11_lead; omega)))) (fun k => ((f2 187 k (by unfold w_X12_lead; omega)).trans (f1 187 k (by unfold w_X11_lead; omega)))) s5, jTN_fr (fun i k p1 p2 => ((f2 i k (by unfold w_X12_lead; omega)).trans (f1 i k (by unfold w_X11_lead; omega)))) (fun k => ((f2 188 k (by unfold w_X12_lead; omega)).trans (f1 188 k (by unfold w_X11_lead; omega)))) s6, (((f2 29 4 (by unfold w_X12_lead; omega)).trans (f1 29 4 (by unfold w_X11_lead; omega))).trans s7).trans ((f2 176 14 (by unfold w_X12_lead; omega)).trans (f1 176 14 (by unfold w_X11_lead; omega))).symm, (((f2 84 0 (by unfold w_X12_lead; omega)).trans (f1 84 0 (by unfold w_X11_lead; omega))).trans s8).trans ((f2 176 34 (by unfold w_X12_lead; omega)).trans (f1 176 34 (by unfold w_X11_lead; omega))).symm, (((f2 11 0 (by unfold w_X12_lead; omega)).trans (f1 11 0 (by unfold w_X11_lead; omega))).trans s9).trans ((f2 176 6 (by unfold w_X12_lead; omega)).trans (f1 176 6 (by unfold w_X11_lead; omega))).symm, (((f2 0 0 (by unfold w_X12_lead; omega)).trans (f1 0 0 (by unfold w_X11_lead; omega))).trans s10).trans ((f2 176 0 (by unfold w_X12_lead; omega)).trans (f1 176 0 (by unfold w_X11_lead; omega))).symm⟩
theorem pf_handsOn {h g1 g2 : JH} (f1 : jfr w_X11_handsOn h g1) (f2 : jfr w_X12_handsOn g1 g2) (s : jI h) : jI g2 := jI_fr (fun i k hs => (f2 i k (by unfold jSup at hs; unfold w_X12_handsOn; omega)).trans (f1 i k (by unfold jSup at hs; unfold w_X11_handsOn; omega))) s
set_option maxHeartbeats 4000000 in
theorem pr_decree {h g1 g2 : JH} {a1 a2 a3 a4 x y : Int} (f1 : jfr w_X11_decree h g1) (f2 : jfr w_X12_decree g1 g2) (p : P_X11_decree a1 a2 a3 a4 x h g1) (q : P_X12_decree a1 a2 a3 a4 y g1 g2) (s : jI h) : x = y ∧ jI g2 := by
  obtain ⟨s0, s1, s2, s3, s4, s5, s6, s7, s8, s9, s10⟩ := s
  unfold P_X11_decree at p
  unfold P_X12_decree at q
  have A3 : g2 11 0 = g1 11 0 := (f2 11 0 (by unfold w_X12_decree; omega))
  have A4 : g1 176 6 = h 176 6 := (f1 176 6 (by unfold w_X11_decree; omega))
  have A6 : g1 176 0 = h 176 0 := (f1 176 0 (by unfold w_X11_decree; omega))
  have key : x = y ∧ g2 11 0 = g2 176 6 := by
    rcases p with ⟨c, e⟩ | ⟨c, e⟩ | ⟨c, e⟩ | ⟨c, e⟩ <;> rcases q with ⟨d, r⟩ | ⟨d, r⟩ | ⟨d, r⟩ | ⟨d, r⟩ <;> first | (exfalso; omega) | exact ⟨by omega, by omega⟩
  exact ⟨key.1, jSm_fr (fun t => ((f2 3 t (by unfold w_X12_decree; omega)).trans (f1 3 t (by unfold w_X11_decree; omega)))) (fun t => ((f2 177 t (by unfold w_X12_decree; omega)).trans (f1 177 t (by unfold w_X11_decree; omega)))) s0, jSm_fr (fun t => ((f2 4 t (by unfold w_X12_decree; omega)).trans (f1 4 t (by unfold w_X11_decree; omega)))) (fun t => ((f2 178 t (by unfold w_X12_decree; omega)).trans (f1 178 t (by unfold w_X11_decree; omega)))) s1, jSm_fr (fun t => ((f2 10 t (by unfold w_X12_decree; omega)).trans (f1 10 t (by unfold w_X11_decree; omega)))) (fun t => ((f2 179 t (by unfold w_X12_decree; omega)).trans (f1 179 t (by unfold w_X11_decree; omega)))) s2, jSm_fr (fun t => ((f2 90 t (by unfold w_X12_decree; omega)).trans (f1 90 t (by unfold w_X11_decree; omega)))) (fun t => ((f2 204 t (by unfold w_X12_decree; omega)).trans (f1 204 t (by unfold w_X11_decree; omega)))) s3, jSm_fr (fun t => ((f2 92 t (by unfold w_X12_decree; omega)).trans (f1 92 t (by unfold w_X11_decree; omega)))) (fun t => ((f2 210 t (by unfold w_X12_decree; omega)).trans (f1 210 t (by unfold w_X11_decree; omega)))) s4, jT6_fr (fun i k p1 p2 => ((f2 i k (by unfold w_X12_decree; omega)).trans (f1 i k (by unfold w_X11_decree; omega)))) (fun k => ((f2 187 k (by unfold w_X12_decree; omega)).trans (f1 187 k (by unfold w_X11_decree; omega)))) s5, jTN_fr (fun i k p1 p2 => ((f2 i k (by unfold w_X12_decree; omega)).trans (f1 i k (by unfold w_X11_decree; omega)))) (fun k => ((f2 188 k (by unfold w_X12_decree; omega)).trans (f1 188 k (by unfold w_X11_decree; omega)))) s6, (((f2 29 4 (by unfold w_X12_decree; omega)).trans (f1 29 4 (by unfold w_X11_decree; omega))).trans s7).trans ((f2 176 14 (by unfold w_X12_decree; omega)).trans (f1 176 14 (by unfold w_X11_decree; omega))).symm, (((f2 84 0 (by unfold w_X12_decree; omega)).trans (f1 84 0 (by unfold w_X11_decree; omega))).trans s8).trans ((f2 176 34 (by unfold w_X12_decree; omega)).trans (f1 176 34 (by unfold w_X11_decree; omega))).symm, key.2, (((f2 0 0 (by unfold w_X12_decree; omega)).trans (f1 0 0 (by unfold w_X11_decree; omega))).trans s10).trans ((f2 176 0 (by unfold w_X12_decree; omega)).trans (f1 176 0 (by unfold w_X11_decree; omega))).symm⟩
theorem pf_force {h g1 g2 : JH} (f1 : jfr w_X11_force h g1) (f2 : jfr w_X12_force g1 g2) (s : jI h) : jI g2 := jI_fr (fun i k hs => (f2 i k (by unfold jSup at hs; unfold w_X12_force; omega)).trans (f1 i k (by unfold jSup at hs; unfold w_X11_force; omega))) s
set_option maxHeartbeats 4000000 in
theorem pr_task {h g1 g2 : JH} {a1 a2 a3 a4 x y : Int} (f1 : jfr w_X11_task h g1) (f2 : jfr w_X12_task g1 g2) (p : P_X11_task a1 a2 a3 a4 x h g1) (q : P_X12_task a1 a2 a3 a4 y g1 g2) (s : jI h) : x = y ∧ jI g2 := by
  obtain ⟨s0, s1, s2, s3, s4, s5, s6, s7, s8, s9, s10⟩ := s
  unfold P_X11_task at p
  unfold P_X12_task at q
  have fA : ∀ i k : Int, 22 ≤ i → i ≤ 24 → g2 i k = g1 i k := fun i k p1 p2 => (f2 i k (by unfold w_X12_task; omega))
  have fB : ∀ t : Int, g1 187 t = h 187 t := fun t => (f1 187 t (by unfold w_X11_task; omega))
  have A4 := fB (6 * a1 + a2)
  have A5 : ¬ (0 ≤ a1 ∧ a1 < 3 ∧ 0 ≤ a2 ∧ a2 < 6) ∨ h (22 + a1) (a2) = h 187 (6 * a1 + a2) := by
    by_cases z : 0 ≤ a1 ∧ a1 < 3 ∧ 0 ≤ a2 ∧ a2 < 6
    · have z2 := s5 a1 (a2) z.1 z.2.1 z.2.2.1 z.2.2.2; rw [show 6 * a1 + (a2) = 6 * a1 + a2 by omega] at z2; exact Or.inr z2
    · exact Or.inl z
  have key : x = y ∧ jT6 g2 := by
    rcases p with ⟨c, e, _⟩ | ⟨c, e, _⟩ | ⟨c, e, _⟩ | ⟨c, ⟨e, ee⟩, _⟩ <;> rcases q with ⟨d, r, _⟩ | ⟨d, r, _⟩ | ⟨d, r, _⟩ | ⟨d, ⟨r, rr⟩, _⟩
    · refine ⟨by omega, fun s b h0 h1 h2 h3 => ?_⟩
      have E3 := fA (22 + s) b (by omega) (by omega); have E4 := fB (6 * s + b); have E5 := s5 s b h0 h1 h2 h3
      have E1 := e (22 + s) b (by omega) (by omega); have E2 := r 187 (6 * s + b) (by omega) (by omega)
      omega
    · exfalso; omega
    · exfalso; omega
    · exfalso; omega
    · exfalso; omega
    · refine ⟨by omega, fun s b h0 h1 h2 h3 => ?_⟩
      have E3 := fA (22 + s) b (by omega) (by omega); have E4 := fB (6 * s + b); have E5 := s5 s b h0 h1 h2 h3
      have E1 := e (22 + s) b (by omega) (by omega); have E2 := r 187 (6 * s + b) (by omega) (by omega)
      omega
    · exfalso; omega
    · exfalso; omega
    · exfalso; omega
    · exfalso; omega
    · refine ⟨by omega, fun s b h0 h1 h2 h3 => ?_⟩
      have E3 := fA (22 + s) b (by omega) (by omega); have E4 := fB (6 * s + b); have E5 := s5 s b h0 h1 h2 h3
      have E1 := e (22 + s) b (by omega) (by omega); have E2 := r 187 (6 * s + b) (by omega) (by omega)
      omega
    · exfalso; omega
    · exfalso; omega
    · exfalso; omega
    · exfalso; omega
    · refine ⟨by omega, fun s b h0 h1 h2 h3 => ?_⟩
      have E3 := fA (22 + s) b (by omega) (by omega); have E4 := fB (6 * s + b); have E5 := s5 s b h0 h1 h2 h3
      by_cases z : s = a1 ∧ b = a2
      · rw [show 22 + s = 22 + a1 by omega, show b = a2 by omega] at E3; rw [show 22 + s = 22 + a1 by omega, show 6 * s + b = 6 * a1 + a2 by omega, show b = a2 by omega]; omega
      · have E1 := ee (22 + s) b (by omega) (by omega) (by omega); have E2 := rr 187 (6 * s + b) (by omega) (by omega) (by omega); omega
  exact ⟨key.1, jSm_fr (fun t => ((f2 3 t (by unfold w_X12_task; omega)).trans (f1 3 t (by unfold w_X11_task; omega)))) (fun t => ((f2 177 t (by unfold w_X12_task; omega)).trans (f1 177 t (by unfold w_X11_task; omega)))) s0, jSm_fr (fun t => ((f2 4 t (by unfold w_X12_task; omega)).trans (f1 4 t (by unfold w_X11_task; omega)))) (fun t => ((f2 178 t (by unfold w_X12_task; omega)).trans (f1 178 t (by unfold w_X11_task; omega)))) s1, jSm_fr (fun t => ((f2 10 t (by unfold w_X12_task; omega)).trans (f1 10 t (by unfold w_X11_task; omega)))) (fun t => ((f2 179 t (by unfold w_X12_task; omega)).trans (f1 179 t (by unfold w_X11_task; omega)))) s2, jSm_fr (fun t => ((f2 90 t (by unfold w_X12_task; omega)).trans (f1 90 t (by unfold w_X11_task; omega)))) (fun t => ((f2 204 t (by unfold w_X12_task; omega)).trans (f1 204 t (by unfold w_X11_task; omega)))) s3, jSm_fr (fun t => ((f2 92 t (by unfold w_X12_task; omega)).trans (f1 92 t (by unfold w_X11_task; omega)))) (fun t => ((f2 210 t (by unfold w_X12_task; omega)).trans (f1 210 t (by unfold w_X11_task; omega)))) s4, key.2, jTN_fr (fun i k p1 p2 => ((f2 i k (by unfold w_X12_task; omega)).trans (f1 i k (by unfold w_X11_task; omega)))) (fun k => ((f2 188 k (by unfold w_X12_task; omega)).trans (f1 188 k (by unfold w_X11_task; omega)))) s6, (((f2 29 4 (by unfold w_X12_task; omega)).trans (f1 29 4 (by unfold w_X11_task; omega))).trans s7).trans ((f2 176 14 (by unfold w_X12_task; omega)).trans (f1 176 14 (by unfold w_X11_task; omega))).symm, (((f2 84 0 (by unfold w_X12_task; omega)).trans (f1 84 0 (by unfold w_X11_task; omega))).trans s8).trans ((f2 176 34 (by unfold w_X12_task; omega)).trans (f1 176 34 (by unfold w_X11_task; omega))).symm, (((f2 11 0 (by unfold w_X12_task; omega)).trans (f1 11 0 (by unfold w_X11_task; omega))).trans s9).trans ((f2 176 6 (by unfold w_X12_task; omega)).trans (f1 176 6 (by unfold w_X11_task; omega))).symm, (((f2 0 0 (by unfold w_X12_task; omega)).trans (f1 0 0 (by unfold w_X11_task; omega))).trans s10).trans ((f2 176 0 (by unfold w_X12_task; omega)).trans (f1 176 0 (by unfold w_X11_task; omega))).symm⟩
set_option maxHeartbeats 4000000 in
theorem pr_needs {h g1 g2 : JH} {a1 a2 a3 a4 x y : Int} (f1 : jfr w_X11_needs h g1) (f2 : jfr w_X12_needs g1 g2) (p : P_X11_needs a1 a2 a3 a4 x h g1) (q : P_X12_needs a1 a2 a3 a4 y g1 g2) (s : jI h) : x = y ∧ jI g2 := by
  obtain ⟨s0, s1, s2, s3, s4, s5, s6, s7, s8, s9, s10⟩ := s
  unfold P_X11_needs at p
  unfold P_X12_needs at q
  have fA : ∀ i k : Int, 26 ≤ i → i ≤ 28 → g2 i k = g1 i k := fun i k p1 p2 => (f2 i k (by unfold w_X12_needs; omega))
  have fB : ∀ t : Int, g1 188 t = h 188 t := fun t => (f1 188 t (by unfold w_X11_needs; omega))
  have A4 := fB (6 * (6 * a1 + a2) + a3)
  have A5 : ¬ (0 ≤ a1 ∧ a1 < 3 ∧ 0 ≤ a2 * 6 + a3 ∧ a2 * 6 + a3 < 36) ∨ h (26 + a1) (a2 * 6 + a3) = h 188 (6 * (6 * a1 + a2) + a3) := by
    by_cases z : 0 ≤ a1 ∧ a1 < 3 ∧ 0 ≤ a2 * 6 + a3 ∧ a2 * 6 + a3 < 36
    · have z2 := s6 a1 (a2 * 6 + a3) z.1 z.2.1 z.2.2.1 z.2.2.2; rw [show 36 * a1 + (a2 * 6 + a3) = 6 * (6 * a1 + a2) + a3 by omega] at z2; exact Or.inr z2
    · exact Or.inl z
  have key : x = y ∧ jTN g2 := by
    rcases p with ⟨c, e⟩ | ⟨c, e⟩ | ⟨c, e⟩ | ⟨c, ⟨e, ee⟩⟩ <;> rcases q with ⟨d, r⟩ | ⟨d, r⟩ | ⟨d, r⟩ | ⟨d, ⟨r, rr⟩⟩
    · refine ⟨by omega, fun s b h0 h1 h2 h3 => ?_⟩
      have E3 := fA (26 + s) b (by omega) (by omega); have E4 := fB (36 * s + b); have E5 := s6 s b h0 h1 h2 h3
      have E1 := e (26 + s) b (by omega) (by omega); have E2 := r 188 (36 * s + b) (by omega) (by omega)
      omega
    · exfalso; omega
    · exfalso; omega
    · exfalso; omega
    · exfalso; omega
    · refine ⟨by omega, fun s b h0 h1 h2 h3 => ?_⟩
      have E3 := fA (26 + s) b (by omega) (by omega); have E4 := fB (36 * s + b); have E5 := s6 s b h0 h1 h2 h3
      have E1 := e (26 + s) b (by omega) (by omega); have E2 := r 188 (36 * s + b) (by omega) (by omega)
      omega
    · exfalso; omega
    · exfalso; omega
    · exfalso; omega
    · exfalso; omega
    · refine ⟨by omega, fun s b h0 h1 h2 h3 => ?_⟩
      have E3 := fA (26 + s) b (by omega) (by omega); have E4 := fB (36 * s + b); have E5 := s6 s b h0 h1 h2 h3
      have E1 := e (26 + s) b (by omega) (by omega); have E2 := r 188 (36 * s + b) (by omega) (by omega)
      omega
    · exfalso; omega
    · exfalso; omega
    · exfalso; omega
    · exfalso; omega
    · refine ⟨by omega, fun s b h0 h1 h2 h3 => ?_⟩
      have E3 := fA (26 + s) b (by omega) (by omega); have E4 := fB (36 * s + b); have E5 := s6 s b h0 h1 h2 h3
      by_cases z : s = a1 ∧ b = a2 * 6 + a3
      · rw [show 26 + s = 26 + a1 by omega, show b = a2 * 6 + a3 by omega] at E3; rw [show 26 + s = 26 + a1 by omega, show 36 * s + b = 6 * (6 * a1 + a2) + a3 by omega, show b = a2 * 6 + a3 by omega]; omega
      · have E1 := ee (26 + s) b (by omega) (by omega) (by omega); have E2 := rr 188 (36 * s + b) (by omega) (by omega) (by omega); omega
  exact ⟨key.1, jSm_fr (fun t => ((f2 3 t (by unfold w_X12_needs; omega)).trans (f1 3 t (by unfold w_X11_needs; omega)))) (fun t => ((f2 177 t (by unfold w_X12_needs; omega)).trans (f1 177 t (by unfold w_X11_needs; omega)))) s0, jSm_fr (fun t => ((f2 4 t (by unfold w_X12_needs; omega)).trans (f1 4 t (by unfold w_X11_needs; omega)))) (fun t => ((f2 178 t (by unfold w_X12_needs; omega)).trans (f1 178 t (by unfold w_X11_needs; omega)))) s1, jSm_fr (fun t => ((f2 10 t (by unfold w_X12_needs; omega)).trans (f1 10 t (by unfold w_X11_needs; omega)))) (fun t => ((f2 179 t (by unfold w_X12_needs; omega)).trans (f1 179 t (by unfold w_X11_needs; omega)))) s2, jSm_fr (fun t => ((f2 90 t (by unfold w_X12_needs; omega)).trans (f1 90 t (by unfold w_X11_needs; omega)))) (fun t => ((f2 204 t (by unfold w_X12_needs; omega)).trans (f1 204 t (by unfold w_X11_needs; omega)))) s3, jSm_fr (fun t => ((f2 92 t (by unfold w_X12_needs; omega)).trans (f1 92 t (by unfold w_X11_needs; omega)))) (fun t => ((f2 210 t (by unfold w_X12_needs; omega)).trans (f1 210 t (by unfold w_X11_needs; omega)))) s4, jT6_fr (fun i k p1 p2 => ((f2 i k (by unfold w_X12_needs; omega)).trans (f1 i k (by unfold w_X11_needs; omega)))) (fun k => ((f2 187 k (by unfold w_X12_needs; omega)).trans (f1 187 k (by unfold w_X11_needs; omega)))) s5, key.2, (((f2 29 4 (by unfold w_X12_needs; omega)).trans (f1 29 4 (by unfold w_X11_needs; omega))).trans s7).trans ((f2 176 14 (by unfold w_X12_needs; omega)).trans (f1 176 14 (by unfold w_X11_needs; omega))).symm, (((f2 84 0 (by unfold w_X12_needs; omega)).trans (f1 84 0 (by unfold w_X11_needs; omega))).trans s8).trans ((f2 176 34 (by unfold w_X12_needs; omega)).trans (f1 176 34 (by unfold w_X11_needs; omega))).symm, (((f2 11 0 (by unfold w_X12_needs; omega)).trans (f1 11 0 (by unfold w_X11_needs; omega))).trans s9).trans ((f2 176 6 (by unfold w_X12_needs; omega)).trans (f1 176 6 (by unfold w_X11_needs; omega))).symm, (((f2 0 0 (by unfold w_X12_needs; omega)).trans (f1 0 0 (by unfold w_X11_needs; omega))).trans s10).trans ((f2 176 0 (by unfold w_X12_needs; omega)).trans (f1 176 0 (by unfold w_X11_needs; omega))).symm⟩
set_option maxHeartbeats 4000000 in
theorem pr_hull {h g1 g2 : JH} {a1 a2 a3 x y : Int} (f1 : jfr w_X11_hull h g1) (f2 : jfr w_X12_hull g1 g2) (p : P_X11_hull a1 a2 a3 x h g1) (q : P_X12_hull a1 a2 a3 y g1 g2) (s : jI h) : x = y ∧ jI g2 := by
  obtain ⟨s0, s1, s2, s3, s4, s5, s6, s7, s8, s9, s10⟩ := s
  unfold P_X11_hull at p
  unfold P_X12_hull at q
  have A3 : g2 29 4 = g1 29 4 := (f2 29 4 (by unfold w_X12_hull; omega))
  have A4 : g1 176 14 = h 176 14 := (f1 176 14 (by unfold w_X11_hull; omega))
  have key : x = y ∧ g2 29 4 = g2 176 14 := by
    rcases p with ⟨c, e⟩ | ⟨c, e⟩ | ⟨c, e⟩ | ⟨c, e⟩ <;> rcases q with ⟨d, r⟩ | ⟨d, r⟩ | ⟨d, r⟩ | ⟨d, r⟩ <;> first | (exfalso; omega) | exact ⟨by omega, by omega⟩
  exact ⟨key.1, jSm_fr (fun t => ((f2 3 t (by unfold w_X12_hull; omega)).trans (f1 3 t (by unfold w_X11_hull; omega)))) (fun t => ((f2 177 t (by unfold w_X12_hull; omega)).trans (f1 177 t (by unfold w_X11_hull; omega)))) s0, jSm_fr (fun t => ((f2 4 t (by unfold w_X12_hull; omega)).trans (f1 4 t (by unfold w_X11_hull; omega)))) (fun t => ((f2 178 t (by unfold w_X12_hull; omega)).trans (f1 178 t (by unfold w_X11_hull; omega)))) s1, jSm_fr (fun t => ((f2 10 t (by unfold w_X12_hull; omega)).trans (f1 10 t (by unfold w_X11_hull; omega)))) (fun t => ((f2 179 t (by unfold w_X12_hull; omega)).trans (f1 179 t (by unfold w_X11_hull; omega)))) s2, jSm_fr (fun t => ((f2 90 t (by unfold w_X12_hull; omega)).trans (f1 90 t (by unfold w_X11_hull; omega)))) (fun t => ((f2 204 t (by unfold w_X12_hull; omega)).trans (f1 204 t (by unfold w_X11_hull; omega)))) s3, jSm_fr (fun t => ((f2 92 t (by unfold w_X12_hull; omega)).trans (f1 92 t (by unfold w_X11_hull; omega)))) (fun t => ((f2 210 t (by unfold w_X12_hull; omega)).trans (f1 210 t (by unfold w_X11_hull; omega)))) s4, jT6_fr (fun i k p1 p2 => ((f2 i k (by unfold w_X12_hull; omega)).trans (f1 i k (by unfold w_X11_hull; omega)))) (fun k => ((f2 187 k (by unfold w_X12_hull; omega)).trans (f1 187 k (by unfold w_X11_hull; omega)))) s5, jTN_fr (fun i k p1 p2 => ((f2 i k (by unfold w_X12_hull; omega)).trans (f1 i k (by unfold w_X11_hull; omega)))) (fun k => ((f2 188 k (by unfold w_X12_hull; omega)).trans (f1 188 k (by unfold w_X11_hull; omega)))) s6, key.2, (((f2 84 0 (by unfold w_X12_hull; omega)).trans (f1 84 0 (by unfold w_X11_hull; omega))).trans s8).trans ((f2 176 34 (by unfold w_X12_hull; omega)).trans (f1 176 34 (by unfold w_X11_hull; omega))).symm, (((f2 11 0 (by unfold w_X12_hull; omega)).trans (f1 11 0 (by unfold w_X11_hull; omega))).trans s9).trans ((f2 176 6 (by unfold w_X12_hull; omega)).trans (f1 176 6 (by unfold w_X11_hull; omega))).symm, (((f2 0 0 (by unfold w_X12_hull; omega)).trans (f1 0 0 (by unfold w_X11_hull; omega))).trans s10).trans ((f2 176 0 (by unfold w_X12_hull; omega)).trans (f1 176 0 (by unfold w_X11_hull; omega))).symm⟩
theorem pf_priority {h g1 g2 : JH} (f1 : jfr w_X11_priority h g1) (f2 : jfr w_X12_priority g1 g2) (s : jI h) : jI g2 := jI_fr (fun i k hs => (f2 i k (by unfold jSup at hs; unfold w_X12_priority; omega)).trans (f1 i k (by unfold jSup at hs; unfold w_X11_priority; omega))) s
theorem pf_raft {h g1 g2 : JH} (f1 : jfr w_X11_raft h g1) (f2 : jfr w_X12_raft g1 g2) (s : jI h) : jI g2 := jI_fr (fun i k hs => (f2 i k (by unfold jSup at hs; unfold w_X12_raft; omega)).trans (f1 i k (by unfold jSup at hs; unfold w_X11_raft; omega))) s
theorem pf_unraft {h g1 g2 : JH} (f1 : jfr w_X11_unraft h g1) (f2 : jfr w_X12_unraft g1 g2) (s : jI h) : jI g2 := jI_fr (fun i k hs => (f2 i k (by unfold jSup at hs; unfold w_X12_unraft; omega)).trans (f1 i k (by unfold jSup at hs; unfold w_X11_unraft; omega))) s
set_option maxHeartbeats 4000000 in
theorem pr_days {h g1 g2 : JH} {a1 : Int} (f1 : jfr w_X11_days h g1) (f2 : jfr w_X12_days g1 g2) (p : P_X11_days a1 h g1) (q : P_X12_days a1 g1 g2) (s : jI h) : jI g2 := by
  obtain ⟨s0, s1, s2, s3, s4, s5, s6, s7, s8, s9, s10⟩ := s
  unfold P_X11_days at p
  unfold P_X12_days at q
  have A3 : g2 0 0 = g1 0 0 := (f2 0 0 (by unfold w_X12_days; omega))
  have A4 : g1 176 0 = h 176 0 := (f1 176 0 (by unfold w_X11_days; omega))
  have key : g2 0 0 = g2 176 0 := by
    rcases p with p | p | p <;> rcases q with q | q | q <;> omega
  exact ⟨jSm_fr (fun t => ((f2 3 t (by unfold w_X12_days; omega)).trans (f1 3 t (by unfold w_X11_days; omega)))) (fun t => ((f2 177 t (by unfold w_X12_days; omega)).trans (f1 177 t (by unfold w_X11_days; omega)))) s0, jSm_fr (fun t => ((f2 4 t (by unfold w_X12_days; omega)).trans (f1 4 t (by unfold w_X11_days; omega)))) (fun t => ((f2 178 t (by unfold w_X12_days; omega)).trans (f1 178 t (by unfold w_X11_days; omega)))) s1, jSm_fr (fun t => ((f2 10 t (by unfold w_X12_days; omega)).trans (f1 10 t (by unfold w_X11_days; omega)))) (fun t => ((f2 179 t (by unfold w_X12_days; omega)).trans (f1 179 t (by unfold w_X11_days; omega)))) s2, jSm_fr (fun t => ((f2 90 t (by unfold w_X12_days; omega)).trans (f1 90 t (by unfold w_X11_days; omega)))) (fun t => ((f2 204 t (by unfold w_X12_days; omega)).trans (f1 204 t (by unfold w_X11_days; omega)))) s3, jSm_fr (fun t => ((f2 92 t (by unfold w_X12_days; omega)).trans (f1 92 t (by unfold w_X11_days; omega)))) (fun t => ((f2 210 t (by unfold w_X12_days; omega)).trans (f1 210 t (by unfold w_X11_days; omega)))) s4, jT6_fr (fun i k p1 p2 => ((f2 i k (by unfold w_X12_days; omega)).trans (f1 i k (by unfold w_X11_days; omega)))) (fun k => ((f2 187 k (by unfold w_X12_days; omega)).trans (f1 187 k (by unfold w_X11_days; omega)))) s5, jTN_fr (fun i k p1 p2 => ((f2 i k (by unfold w_X12_days; omega)).trans (f1 i k (by unfold w_X11_days; omega)))) (fun k => ((f2 188 k (by unfold w_X12_days; omega)).trans (f1 188 k (by unfold w_X11_days; omega)))) s6, (((f2 29 4 (by unfold w_X12_days; omega)).trans (f1 29 4 (by unfold w_X11_days; omega))).trans s7).trans ((f2 176 14 (by unfold w_X12_days; omega)).trans (f1 176 14 (by unfold w_X11_days; omega))).symm, (((f2 84 0 (by unfold w_X12_days; omega)).trans (f1 84 0 (by unfold w_X11_days; omega))).trans s8).trans ((f2 176 34 (by unfold w_X12_days; omega)).trans (f1 176 34 (by unfold w_X11_days; omega))).symm, (((f2 11 0 (by unfold w_X12_days; omega)).trans (f1 11 0 (by unfold w_X11_days; omega))).trans s9).trans ((f2 176 6 (by unfold w_X12_days; omega)).trans (f1 176 6 (by unfold w_X11_days; omega))).symm, key⟩
theorem pf_breakUp {h g1 g2 : JH} (f1 : jfr w_X11_breakUp h g1) (f2 : jfr w_X12_breakUp g1 g2) (s : jI h) : jI g2 := jI_fr (fun i k hs => (f2 i k (by unfold jSup at hs; unfold w_X12_breakUp; omega)).trans (f1 i k (by unfold jSup at hs; unfold w_X11_breakUp; omega))) s
set_option maxHeartbeats 4000000 in
theorem pr_growth {h g1 g2 : JH} {a1 a2 x y : Int} (f1 : jfr w_X11_growth h g1) (f2 : jfr w_X12_growth g1 g2) (p : P_X11_growth a1 a2 x h g1) (q : P_X12_growth a1 a2 y g1 g2) (s : jI h) : x = y ∧ jI g2 := by
  obtain ⟨s0, s1, s2, s3, s4, s5, s6, s7, s8, s9, s10⟩ := s
  unfold P_X11_growth at p
  unfold P_X12_growth at q
  have fA : ∀ t : Int, g2 90 t = g1 90 t := fun t => (f2 90 t (by unfold w_X12_growth; omega))
  have fB : ∀ t : Int, g1 204 t = h 204 t := fun t => (f1 204 t (by unfold w_X11_growth; omega))
  have A4 := fB a1; have A3 := fA a1
  have A5 : ¬ (0 ≤ a1 ∧ a1 < 3) ∨ h 90 a1 = h 204 a1 := by
    by_cases z : 0 ≤ a1 ∧ a1 < 3
    · exact Or.inr (s3 a1 z.1 z.2)
    · exact Or.inl z
  have key : x = y ∧ jSm 90 204 3 g2 := by
    rcases p with ⟨c, e⟩ | ⟨c, e⟩ | ⟨c, e⟩ | ⟨c, e, ee⟩ <;> rcases q with ⟨d, r⟩ | ⟨d, r⟩ | ⟨d, r⟩ | ⟨d, r, rr⟩
    · refine ⟨by omega, fun t h0 h1 => ?_⟩
      have E3 := fA t; have E4 := fB t; have E5 := s3 t h0 h1
      have E1 := e 90 t (by omega) (by omega); have E2 := r 204 t (by omega) (by omega)
      omega
    · exfalso; omega
    · exfalso; omega
    · exfalso; omega
    · exfalso; omega
    · refine ⟨by omega, fun t h0 h1 => ?_⟩
      have E3 := fA t; have E4 := fB t; have E5 := s3 t h0 h1
      have E1 := e 90 t (by omega) (by omega); have E2 := r 204 t (by omega) (by omega)
      omega
    · exfalso; omega
    · exfalso; omega
    · exfalso; omega
    · exfalso; omega
    · refine ⟨by omega, fun t h0 h1 => ?_⟩
      have E3 := fA t; have E4 := fB t; have E5 := s3 t h0 h1
      have E1 := e 90 t (by omega) (by omega); have E2 := r 204 t (by omega) (by omega)
      omega
    · exfalso; omega
    · exfalso; omega
    · exfalso; omega
    · exfalso; omega
    · refine ⟨by omega, fun t h0 h1 => ?_⟩
      have E3 := fA t; have E4 := fB t; have E5 := s3 t h0 h1
      by_cases z : t = a1
      · rw [z] at E3 E4 E5 ⊢; omega
      · have E1 := ee 90 t (by omega) (by omega) (by omega); have E2 := rr 204 t (by omega) (by omega) (by omega); omega
  exact ⟨key.1, jSm_fr (fun t => ((f2 3 t (by unfold w_X12_growth; omega)).trans (f1 3 t (by unfold w_X11_growth; omega)))) (fun t => ((f2 177 t (by unfold w_X12_growth; omega)).trans (f1 177 t (by unfold w_X11_growth; omega)))) s0, jSm_fr (fun t => ((f2 4 t (by unfold w_X12_growth; omega)).trans (f1 4 t (by unfold w_X11_growth; omega)))) (fun t => ((f2 178 t (by unfold w_X12_growth; omega)).trans (f1 178 t (by unfold w_X11_growth; omega)))) s1, jSm_fr (fun t => ((f2 10 t (by unfold w_X12_growth; omega)).trans (f1 10 t (by unfold w_X11_growth; omega)))) (fun t => ((f2 179 t (by unfold w_X12_growth; omega)).trans (f1 179 t (by unfold w_X11_growth; omega)))) s2, key.2, jSm_fr (fun t => ((f2 92 t (by unfold w_X12_growth; omega)).trans (f1 92 t (by unfold w_X11_growth; omega)))) (fun t => ((f2 210 t (by unfold w_X12_growth; omega)).trans (f1 210 t (by unfold w_X11_growth; omega)))) s4, jT6_fr (fun i k p1 p2 => ((f2 i k (by unfold w_X12_growth; omega)).trans (f1 i k (by unfold w_X11_growth; omega)))) (fun k => ((f2 187 k (by unfold w_X12_growth; omega)).trans (f1 187 k (by unfold w_X11_growth; omega)))) s5, jTN_fr (fun i k p1 p2 => ((f2 i k (by unfold w_X12_growth; omega)).trans (f1 i k (by unfold w_X11_growth; omega)))) (fun k => ((f2 188 k (by unfold w_X12_growth; omega)).trans (f1 188 k (by unfold w_X11_growth; omega)))) s6, (((f2 29 4 (by unfold w_X12_growth; omega)).trans (f1 29 4 (by unfold w_X11_growth; omega))).trans s7).trans ((f2 176 14 (by unfold w_X12_growth; omega)).trans (f1 176 14 (by unfold w_X11_growth; omega))).symm, (((f2 84 0 (by unfold w_X12_growth; omega)).trans (f1 84 0 (by unfold w_X11_growth; omega))).trans s8).trans ((f2 176 34 (by unfold w_X12_growth; omega)).trans (f1 176 34 (by unfold w_X11_growth; omega))).symm, (((f2 11 0 (by unfold w_X12_growth; omega)).trans (f1 11 0 (by unfold w_X11_growth; omega))).trans s9).trans ((f2 176 6 (by unfold w_X12_growth; omega)).trans (f1 176 6 (by unfold w_X11_growth; omega))).symm, (((f2 0 0 (by unfold w_X12_growth; omega)).trans (f1 0 0 (by unfold w_X11_growth; omega))).trans s10).trans ((f2 176 0 (by unfold w_X12_growth; omega)).trans (f1 176 0 (by unfold w_X11_growth; omega))).symm⟩
set_option maxHeartbeats 4000000 in
theorem pr_tree {h g1 g2 : JH} {a1 a2 a3 x y : Int} (f1 : jfr w_X11_tree h g1) (f2 : jfr w_X12_tree g1 g2) (p : P_X11_tree a1 a2 a3 x h g1) (q : P_X12_tree a1 a2 a3 y g1 g2) (s : jI h) : x = y ∧ jI g2 := by
  obtain ⟨s0, s1, s2, s3, s4, s5, s6, s7, s8, s9, s10⟩ := s
  unfold P_X11_tree at p
  unfold P_X12_tree at q
  have A3 : g2 84 0 = g1 84 0 := (f2 84 0 (by unfold w_X12_tree; omega))
  have A4 : g1 176 34 = h 176 34 := (f1 176 34 (by unfold w_X11_tree; omega))
  have key : x = y ∧ g2 84 0 = g2 176 34 := by
    rcases p with ⟨c, e⟩ | ⟨c, e⟩ | ⟨c, e⟩ | ⟨c, e⟩ <;> rcases q with ⟨d, r⟩ | ⟨d, r⟩ | ⟨d, r⟩ | ⟨d, r⟩ <;> first | (exfalso; omega) | exact ⟨by omega, by omega⟩
  exact ⟨key.1, jSm_fr (fun t => ((f2 3 t (by unfold w_X12_tree; omega)).trans (f1 3 t (by unfold w_X11_tree; omega)))) (fun t => ((f2 177 t (by unfold w_X12_tree; omega)).trans (f1 177 t (by unfold w_X11_tree; omega)))) s0, jSm_fr (fun t => ((f2 4 t (by unfold w_X12_tree; omega)).trans (f1 4 t (by unfold w_X11_tree; omega)))) (fun t => ((f2 178 t (by unfold w_X12_tree; omega)).trans (f1 178 t (by unfold w_X11_tree; omega)))) s1, jSm_fr (fun t => ((f2 10 t (by unfold w_X12_tree; omega)).trans (f1 10 t (by unfold w_X11_tree; omega)))) (fun t => ((f2 179 t (by unfold w_X12_tree; omega)).trans (f1 179 t (by unfold w_X11_tree; omega)))) s2, jSm_fr (fun t => ((f2 90 t (by unfold w_X12_tree; omega)).trans (f1 90 t (by unfold w_X11_tree; omega)))) (fun t => ((f2 204 t (by unfold w_X12_tree; omega)).trans (f1 204 t (by unfold w_X11_tree; omega)))) s3, jSm_fr (fun t => ((f2 92 t (by unfold w_X12_tree; omega)).trans (f1 92 t (by unfold w_X11_tree; omega)))) (fun t => ((f2 210 t (by unfold w_X12_tree; omega)).trans (f1 210 t (by unfold w_X11_tree; omega)))) s4, jT6_fr (fun i k p1 p2 => ((f2 i k (by unfold w_X12_tree; omega)).trans (f1 i k (by unfold w_X11_tree; omega)))) (fun k => ((f2 187 k (by unfold w_X12_tree; omega)).trans (f1 187 k (by unfold w_X11_tree; omega)))) s5, jTN_fr (fun i k p1 p2 => ((f2 i k (by unfold w_X12_tree; omega)).trans (f1 i k (by unfold w_X11_tree; omega)))) (fun k => ((f2 188 k (by unfold w_X12_tree; omega)).trans (f1 188 k (by unfold w_X11_tree; omega)))) s6, (((f2 29 4 (by unfold w_X12_tree; omega)).trans (f1 29 4 (by unfold w_X11_tree; omega))).trans s7).trans ((f2 176 14 (by unfold w_X12_tree; omega)).trans (f1 176 14 (by unfold w_X11_tree; omega))).symm, key.2, (((f2 11 0 (by unfold w_X12_tree; omega)).trans (f1 11 0 (by unfold w_X11_tree; omega))).trans s9).trans ((f2 176 6 (by unfold w_X12_tree; omega)).trans (f1 176 6 (by unfold w_X11_tree; omega))).symm, (((f2 0 0 (by unfold w_X12_tree; omega)).trans (f1 0 0 (by unfold w_X11_tree; omega))).trans s10).trans ((f2 176 0 (by unfold w_X12_tree; omega)).trans (f1 176 0 (by unfold w_X11_tree; omega))).symm⟩
set_option maxHeartbeats 4000000 in
theorem pr_part {h g1 g2 : JH} {a1 a2 a3 a4 a5 x y : Int} (f1 : jfr w_X11_part h g1) (f2 : jfr w_X12_part g1 g2) (p : P_X11_part a1 a2 a3 a4 a5 x h g1) (q : P_X12_part a1 a2 a3 a4 a5 y g1 g2) (s : jI h) : x = y ∧ jI g2 := by
  obtain ⟨s0, s1, s2, s3, s4, s5, s6, s7, s8, s9, s10⟩ := s
  unfold P_X11_part at p
  unfold P_X12_part at q
  have fA : ∀ t : Int, g2 92 t = g1 92 t := fun t => (f2 92 t (by unfold w_X12_part; omega))
  have fB : ∀ t : Int, g1 210 t = h 210 t := fun t => (f1 210 t (by unfold w_X11_part; omega))
  have A4 := fB a1; have A3 := fA a1
  have A5 : ¬ (0 ≤ a1 ∧ a1 < 3) ∨ h 92 a1 = h 210 a1 := by
    by_cases z : 0 ≤ a1 ∧ a1 < 3
    · exact Or.inr (s4 a1 z.1 z.2)
    · exact Or.inl z
  have key : x = y ∧ jSm 92 210 3 g2 := by
    rcases p with ⟨c, e⟩ | ⟨c, e⟩ | ⟨c, e⟩ | ⟨c, e, ee⟩ <;> rcases q with ⟨d, r⟩ | ⟨d, r⟩ | ⟨d, r⟩ | ⟨d, r, rr⟩
    · refine ⟨by omega, fun t h0 h1 => ?_⟩
      have E3 := fA t; have E4 := fB t; have E5 := s4 t h0 h1
      have E1 := e 92 t (by omega) (by omega); have E2 := r 210 t (by omega) (by omega)
      omega
    · exfalso; omega
    · exfalso; omega
    · exfalso; omega
    · exfalso; omega
    · refine ⟨by omega, fun t h0 h1 => ?_⟩
      have E3 := fA t; have E4 := fB t; have E5 := s4 t h0 h1
      have E1 := e 92 t (by omega) (by omega); have E2 := r 210 t (by omega) (by omega)
      omega
    · exfalso; omega
    · exfalso; omega
    · exfalso; omega
    · exfalso; omega
    · refine ⟨by omega, fun t h0 h1 => ?_⟩
      have E3 := fA t; have E4 := fB t; have E5 := s4 t h0 h1
      have E1 := e 92 t (by omega) (by omega); have E2 := r 210 t (by omega) (by omega)
      omega
    · exfalso; omega
    · exfalso; omega
    · exfalso; omega
    · exfalso; omega
    · refine ⟨by omega, fun t h0 h1 => ?_⟩
      have E3 := fA t; have E4 := fB t; have E5 := s4 t h0 h1
      by_cases z : t = a1
      · rw [z] at E3 E4 E5 ⊢; omega
      · have E1 := ee 92 t (by omega) (by omega) (by omega); have E2 := rr 210 t (by omega) (by omega) (by omega); omega
  exact ⟨key.1, jSm_fr (fun t => ((f2 3 t (by unfold w_X12_part; omega)).trans (f1 3 t (by unfold w_X11_part; omega)))) (fun t => ((f2 177 t (by unfold w_X12_part; omega)).trans (f1 177 t (by unfold w_X11_part; omega)))) s0, jSm_fr (fun t => ((f2 4 t (by unfold w_X12_part; omega)).trans (f1 4 t (by unfold w_X11_part; omega)))) (fun t => ((f2 178 t (by unfold w_X12_part; omega)).trans (f1 178 t (by unfold w_X11_part; omega)))) s1, jSm_fr (fun t => ((f2 10 t (by unfold w_X12_part; omega)).trans (f1 10 t (by unfold w_X11_part; omega)))) (fun t => ((f2 179 t (by unfold w_X12_part; omega)).trans (f1 179 t (by unfold w_X11_part; omega)))) s2, jSm_fr (fun t => ((f2 90 t (by unfold w_X12_part; omega)).trans (f1 90 t (by unfold w_X11_part; omega)))) (fun t => ((f2 204 t (by unfold w_X12_part; omega)).trans (f1 204 t (by unfold w_X11_part; omega)))) s3, key.2, jT6_fr (fun i k p1 p2 => ((f2 i k (by unfold w_X12_part; omega)).trans (f1 i k (by unfold w_X11_part; omega)))) (fun k => ((f2 187 k (by unfold w_X12_part; omega)).trans (f1 187 k (by unfold w_X11_part; omega)))) s5, jTN_fr (fun i k p1 p2 => ((f2 i k (by unfold w_X12_part; omega)).trans (f1 i k (by unfold w_X11_part; omega)))) (fun k => ((f2 188 k (by unfold w_X12_part; omega)).trans (f1 188 k (by unfold w_X11_part; omega)))) s6, (((f2 29 4 (by unfold w_X12_part; omega)).trans (f1 29 4 (by unfold w_X11_part; omega))).trans s7).trans ((f2 176 14 (by unfold w_X12_part; omega)).trans (f1 176 14 (by unfold w_X11_part; omega))).symm, (((f2 84 0 (by unfold w_X12_part; omega)).trans (f1 84 0 (by unfold w_X11_part; omega))).trans s8).trans ((f2 176 34 (by unfold w_X12_part; omega)).trans (f1 176 34 (by unfold w_X11_part; omega))).symm, (((f2 11 0 (by unfold w_X12_part; omega)).trans (f1 11 0 (by unfold w_X11_part; omega))).trans s9).trans ((f2 176 6 (by unfold w_X12_part; omega)).trans (f1 176 6 (by unfold w_X11_part; omega))).symm, (((f2 0 0 (by unfold w_X12_part; omega)).trans (f1 0 0 (by unfold w_X11_part; omega))).trans s10).trans ((f2 176 0 (by unfold w_X12_part; omega)).trans (f1 176 0 (by unfold w_X11_part; omega))).symm⟩
theorem pf_match {h g1 g2 : JH} (f1 : jfr w_X11_match h g1) (f2 : jfr w_X12_match g1 g2) (s : jI h) : jI g2 := jI_fr (fun i k hs => (f2 i k (by unfold jSup at hs; unfold w_X12_match; omega)).trans (f1 i k (by unfold jSup at hs; unfold w_X11_match; omega))) s
theorem pf_fell {h g1 g2 : JH} (f1 : jfr w_X11_fell h g1) (f2 : jfr w_X12_fell g1 g2) (s : jI h) : jI g2 := jI_fr (fun i k hs => (f2 i k (by unfold jSup at hs; unfold w_X12_fell; omega)).trans (f1 i k (by unfold jSup at hs; unfold w_X11_fell; omega))) s
theorem pf_treeFor {h g1 g2 : JH} (f1 : jfr w_X11_treeFor h g1) (f2 : jfr w_X12_treeFor g1 g2) (s : jI h) : jI g2 := jI_fr (fun i k hs => (f2 i k (by unfold jSup at hs; unfold w_X12_treeFor; omega)).trans (f1 i k (by unfold jSup at hs; unfold w_X11_treeFor; omega))) s
theorem pf_treeOf {h g1 g2 : JH} (f1 : jfr w_X11_treeOf h g1) (f2 : jfr w_X12_treeOf g1 g2) (s : jI h) : jI g2 := jI_fr (fun i k hs => (f2 i k (by unfold jSup at hs; unfold w_X12_treeOf; omega)).trans (f1 i k (by unfold jSup at hs; unfold w_X11_treeOf; omega))) s
theorem pf_count {h g1 g2 : JH} (f1 : jfr w_X11_count h g1) (f2 : jfr w_X12_count g1 g2) (s : jI h) : jI g2 := jI_fr (fun i k hs => (f2 i k (by unfold jSup at hs; unfold w_X12_count; omega)).trans (f1 i k (by unfold jSup at hs; unfold w_X11_count; omega))) s
theorem pf_gap {h g1 g2 : JH} (f1 : jfr w_X11_gap h g1) (f2 : jfr w_X12_gap g1 g2) (s : jI h) : jI g2 := jI_fr (fun i k hs => (f2 i k (by unfold jSup at hs; unfold w_X12_gap; omega)).trans (f1 i k (by unfold jSup at hs; unfold w_X11_gap; omega))) s
theorem pf_worst {h g1 g2 : JH} (f1 : jfr w_X11_worst h g1) (f2 : jfr w_X12_worst g1 g2) (s : jI h) : jI g2 := jI_fr (fun i k hs => (f2 i k (by unfold jSup at hs; unfold w_X12_worst; omega)).trans (f1 i k (by unfold jSup at hs; unfold w_X11_worst; omega))) s
theorem pf_ready {h g1 g2 : JH} (f1 : jfr w_X11_ready h g1) (f2 : jfr w_X12_ready g1 g2) (q : g2 176 0 = g1 176 0) (s : jI h) : jI g2 := by
  have f3 : g1 176 0 = h 176 0 := f1 176 0 (by unfold w_X11_ready; omega)
  refine jI_fr (fun i k hs => ?_) s
  by_cases z : i = 176 ∧ k = 0
  · rw [z.1, z.2]; exact q.trans f3
  · exact (f2 i k (by unfold jSup at hs; unfold w_X12_ready; omega)).trans (f1 i k (by unfold jSup at hs; unfold w_X11_ready; omega))
theorem pf_late {h g1 g2 : JH} (f1 : jfr w_X11_late h g1) (f2 : jfr w_X12_late g1 g2) (q : g2 176 0 = g1 176 0) (s : jI h) : jI g2 := by
  have f3 : g1 176 0 = h 176 0 := f1 176 0 (by unfold w_X11_late; omega)
  refine jI_fr (fun i k hs => ?_) s
  by_cases z : i = 176 ∧ k = 0
  · rw [z.1, z.2]; exact q.trans f3
  · exact (f2 i k (by unfold jSup at hs; unfold w_X12_late; omega)).trans (f1 i k (by unfold jSup at hs; unfold w_X11_late; omega))
theorem pf_least {h g1 g2 : JH} (f1 : jfr w_X11_least h g1) (f2 : jfr w_X12_least g1 g2) (q : g2 176 0 = g1 176 0) (s : jI h) : jI g2 := by
  have f3 : g1 176 0 = h 176 0 := f1 176 0 (by unfold w_X11_least; omega)
  refine jI_fr (fun i k hs => ?_) s
  by_cases z : i = 176 ∧ k = 0
  · rw [z.1, z.2]; exact q.trans f3
  · exact (f2 i k (by unfold jSup at hs; unfold w_X12_least; omega)).trans (f1 i k (by unfold jSup at hs; unfold w_X11_least; omega))
theorem pf_order {h g1 g2 : JH} (f1 : jfr w_X11_order h g1) (f2 : jfr w_X12_order g1 g2) (q : g2 176 0 = g1 176 0) (s : jI h) : jI g2 := by
  have f3 : g1 176 0 = h 176 0 := f1 176 0 (by unfold w_X11_order; omega)
  refine jI_fr (fun i k hs => ?_) s
  by_cases z : i = 176 ∧ k = 0
  · rw [z.1, z.2]; exact q.trans f3
  · exact (f2 i k (by unfold jSup at hs; unfold w_X12_order; omega)).trans (f1 i k (by unfold jSup at hs; unfold w_X11_order; omega))
theorem pf_hullOf {h g1 g2 : JH} (f1 : jfr w_X11_hullOf h g1) (f2 : jfr w_X12_hullOf g1 g2) (s : jI h) : jI g2 := jI_fr (fun i k hs => (f2 i k (by unfold jSup at hs; unfold w_X12_hullOf; omega)).trans (f1 i k (by unfold jSup at hs; unfold w_X11_hullOf; omega))) s
theorem pf_basinOf {h g1 g2 : JH} (f1 : jfr w_X11_basinOf h g1) (f2 : jfr w_X12_basinOf g1 g2) (s : jI h) : jI g2 := jI_fr (fun i k hs => (f2 i k (by unfold jSup at hs; unfold w_X12_basinOf; omega)).trans (f1 i k (by unfold jSup at hs; unfold w_X11_basinOf; omega))) s
theorem pf_stock {h g1 g2 : JH} (f1 : jfr w_X11_stock h g1) (f2 : jfr w_X12_stock g1 g2) (s : jI h) : jI g2 := jI_fr (fun i k hs => (f2 i k (by unfold jSup at hs; unfold w_X12_stock; omega)).trans (f1 i k (by unfold jSup at hs; unfold w_X11_stock; omega))) s
