theorem pf_match {h g1 g2 : JH} (f1 : jfr w_X11_match h g1) (f2 : jfr w_X12_match g1 g2) (s : jI h) : jI g2 := jI_fr (fun i k hs => (f2 i k (by unfold jSup jSupA jwy jmy at hs; unfold w_X12_match; omega)).trans (f1 i k (by unfold jSup jSupA jwy jmy at hs; unfold w_X11_match; omega))) (fun i k hs => (f2 i k (by unfold jSupG at hs; unfold w_X12_match; omega)).trans (f1 i k (by unfold jSupG at hs; unfold w_X11_match; omega))) (jAh_fr (fun i k q => by unfold jma at q; exact (f2 i k (by unfold w_X12_match; omega)).trans (f1 i k (by unfold w_X11_match; omega))) (fun i k q => by unfold jwh3 at q; exact (f2 i k (by unfold w_X12_match; omega)).trans (f1 i k (by unfold w_X11_match; omega)))) (jS9_fr (fun k _ _ => (f2 198 k (by unfold w_X12_match; omega)).trans (f1 198 k (by unfold w_X11_match; omega))) ((f2 176 0 (by unfold w_X12_match; omega)).trans (f1 176 0 (by unfold w_X11_match; omega)))) s
theorem pf_treeFor {h g1 g2 : JH} (f1 : jfr w_X11_treeFor h g1) (f2 : jfr w_X12_treeFor g1 g2) (s : jI h) : jI g2 := jI_fr (fun i k hs => (f2 i k (by unfold jSup jSupA jwy jmy at hs; unfold w_X12_treeFor; omega)).trans (f1 i k (by unfold jSup jSupA jwy jmy at hs; unfold w_X11_treeFor; omega))) (fun i k hs => (f2 i k (by unfold jSupG at hs; unfold w_X12_treeFor; omega)).trans (f1 i k (by unfold jSupG at hs; unfold w_X11_treeFor; omega))) (jAh_fr (fun i k q => by unfold jma at q; exact (f2 i k (by unfold w_X12_treeFor; omega)).trans (f1 i k (by unfold w_X11_treeFor; omega))) (fun i k q => by unfold jwh3 at q; exact (f2 i k (by unfold w_X12_treeFor; omega)).trans (f1 i k (by unfold w_X11_treeFor; omega)))) (jS9_fr (fun k _ _ => (f2 198 k (by unfold w_X12_treeFor; omega)).trans (f1 198 k (by unfold w_X11_treeFor; omega))) ((f2 176 0 (by unfold w_X12_treeFor; omega)).trans (f1 176 0 (by unfold w_X11_treeFor; omega)))) s
theorem pf_treeOf {h g1 g2 : JH} (f1 : jfr w_X11_treeOf h g1) (f2 : jfr w_X12_treeOf g1 g2) (s : jI h) : jI g2 := jI_fr (fun i k hs => (f2 i k (by unfold jSup jSupA jwy jmy at hs; unfold w_X12_treeOf; omega)).trans (f1 i k (by unfold jSup jSupA jwy jmy at hs; unfold w_X11_treeOf; omega))) (fun i k hs => (f2 i k (by unfold jSupG at hs; unfold w_X12_treeOf; omega)).trans (f1 i k (by unfold jSupG at hs; unfold w_X11_treeOf; omega))) (jAh_fr (fun i k q => by unfold jma at q; exact (f2 i k (by unfold w_X12_treeOf; omega)).trans (f1 i k (by unfold w_X11_treeOf; omega))) (fun i k q => by unfold jwh3 at q; exact (f2 i k (by unfold w_X12_treeOf; omega)).trans (f1 i k (by unfold w_X11_treeOf; omega)))) (jS9_fr (fun k _ _ => (f2 198 k (by unfold w_X12_treeOf; omega)).trans (f1 198 k (by unfold w_X11_treeOf; omega))) ((f2 176 0 (by unfold w_X12_treeOf; omega)).trans (f1 176 0 (by unfold w_X11_treeOf; omega)))) s
theorem pf_gap {h g1 g2 : JH} (f1 : jfr w_X11_gap h g1) (f2 : jfr w_X12_gap g1 g2) (s : jI h) : jI g2 := jI_fr (fun i k hs => (f2 i k (by unfold jSup jSupA jwy jmy at hs; unfold w_X12_gap; omega)).trans (f1 i k (by unfold jSup jSupA jwy jmy at hs; unfold w_X11_gap; omega))) (fun i k hs => (f2 i k (by unfold jSupG at hs; unfold w_X12_gap; omega)).trans (f1 i k (by unfold jSupG at hs; unfold w_X11_gap; omega))) (jAh_fr (fun i k q => by unfold jma at q; exact (f2 i k (by unfold w_X12_gap; omega)).trans (f1 i k (by unfold w_X11_gap; omega))) (fun i k q => by unfold jwh3 at q; exact (f2 i k (by unfold w_X12_gap; omega)).trans (f1 i k (by unfold w_X11_gap; omega)))) (jS9_fr (fun k _ _ => (f2 198 k (by unfold w_X12_gap; omega)).trans (f1 198 k (by unfold w_X11_gap; omega))) ((f2 176 0 (by unfold w_X12_gap; omega)).trans (f1 176 0 (by unfold w_X11_gap; omega)))) s
theorem pf_worst {h g1 g2 : JH} (f1 : jfr w_X11_worst h g1) (f2 : jfr w_X12_worst g1 g2) (s : jI h) : jI g2 := jI_fr (fun i k hs => (f2 i k (by unfold jSup jSupA jwy jmy at hs; unfold w_X12_worst; omega)).trans (f1 i k (by unfold jSup jSupA jwy jmy at hs; unfold w_X11_worst; omega))) (fun i k hs => (f2 i k (by unfold jSupG at hs; unfold w_X12_worst; omega)).trans (f1 i k (by unfold jSupG at hs; unfold w_X11_worst; omega))) (jAh_fr (fun i k q => by unfold jma at q; exact (f2 i k (by unfold w_X12_worst; omega)).trans (f1 i k (by unfold w_X11_worst; omega))) (fun i k q => by unfold jwh3 at q; exact (f2 i k (by unfold w_X12_worst; omega)).trans (f1 i k (by unfold w_X11_worst; omega)))) (jS9_fr (fun k _ _ => (f2 198 k (by unfold w_X12_worst; omega)).trans (f1 198 k (by unfold w_X11_worst; omega))) ((f2 176 0 (by unfold w_X12_worst; omega)).trans (f1 176 0 (by unfold w_X11_worst; omega)))) s
theorem pf_hullOf {h g1 g2 : JH} (f1 : jfr w_X11_hullOf h g1) (f2 : jfr w_X12_hullOf g1 g2) (s : jI h) : jI g2 := jI_fr (fun i k hs => (f2 i k (by unfold jSup jSupA jwy jmy at hs; unfold w_X12_hullOf; omega)).trans (f1 i k (by unfold jSup jSupA jwy jmy at hs; unfold w_X11_hullOf; omega))) (fun i k hs => (f2 i k (by unfold jSupG at hs; unfold w_X12_hullOf; omega)).trans (f1 i k (by unfold jSupG at hs; unfold w_X11_hullOf; omega))) (jAh_fr (fun i k q => by unfold jma at q; exact (f2 i k (by unfold w_X12_hullOf; omega)).trans (f1 i k (by unfold w_X11_hullOf; omega))) (fun i k q => by unfold jwh3 at q; exact (f2 i k (by unfold w_X12_hullOf; omega)).trans (f1 i k (by unfold w_X11_hullOf; omega)))) (jS9_fr (fun k _ _ => (f2 198 k (by unfold w_X12_hullOf; omega)).trans (f1 198 k (by unfold w_X11_hullOf; omega))) ((f2 176 0 (by unfold w_X12_hullOf; omega)).trans (f1 176 0 (by unfold w_X11_hullOf; omega)))) s
theorem pf_basinOf {h g1 g2 : JH} (f1 : jfr w_X11_basinOf h g1) (f2 : jfr w_X12_basinOf g1 g2) (s : jI h) : jI g2 := jI_fr (fun i k hs => (f2 i k (by unfold jSup jSupA jwy jmy at hs; unfold w_X12_basinOf; omega)).trans (f1 i k (by unfold jSup jSupA jwy jmy at hs; unfold w_X11_basinOf; omega))) (fun i k hs => (f2 i k (by unfold jSupG at hs; unfold w_X12_basinOf; omega)).trans (f1 i k (by unfold jSupG at hs; unfold w_X11_basinOf; omega))) (jAh_fr (fun i k q => by unfold jma at q; exact (f2 i k (by unfold w_X12_basinOf; omega)).trans (f1 i k (by unfold w_X11_basinOf; omega))) (fun i k q => by unfold jwh3 at q; exact (f2 i k (by unfold w_X12_basinOf; omega)).trans (f1 i k (by unfold w_X11_basinOf; omega)))) (jS9_fr (fun k _ _ => (f2 198 k (by unfold w_X12_basinOf; omega)).trans (f1 198 k (by unfold w_X11_basinOf; omega))) ((f2 176 0 (by unfold w_X12_basinOf; omega)).trans (f1 176 0 (by unfold w_X11_basinOf; omega)))) s
theorem pf_stock {h g1 g2 : JH} (f1 : jfr w_X11_stock h g1) (f2 : jfr w_X12_stock g1 g2) (s : jI h) : jI g2 := jI_fr (fun i k hs => (f2 i k (by unfold jSup jSupA jwy jmy at hs; unfold w_X12_stock; omega)).trans (f1 i k (by unfold jSup jSupA jwy jmy at hs; unfold w_X11_stock; omega))) (fun i k hs => (f2 i k (by unfold jSupG at hs; unfold w_X12_stock; omega)).trans (f1 i k (by unfold jSupG at hs; unfold w_X11_stock; omega))) (jAh_fr (fun i k q => by unfold jma at q; exact (f2 i k (by unfold w_X12_stock; omega)).trans (f1 i k (by unfold w_X11_stock; omega))) (fun i k q => by unfold jwh3 at q; exact (f2 i k (by unfold w_X12_stock; omega)).trans (f1 i k (by unfold w_X11_stock; omega)))) (jS9_fr (fun k _ _ => (f2 198 k (by unfold w_X12_stock; omega)).trans (f1 198 k (by unfold w_X11_stock; omega))) ((f2 176 0 (by unfold w_X12_stock; omega)).trans (f1 176 0 (by unfold w_X11_stock; omega)))) s
set_option maxHeartbeats 4000000 in
theorem pr_bring {h g1 g2 : JH} {a1 a2 x y : Int} (f1 : jfr w_X11_bring h g1) (f2 : jfr w_X12_bring g1 g2) (p : P_X11_bring a1 a2 x h g1) (q : P_X12_bring a1 a2 y g1 g2) (s : jI h) (A7 : x = y → jAh g2) : x = y ∧ jI g2 := by
  obtain ⟨s0, s1, s2, s3, s4, s5, s6, s7, s8, s9, s10, s11, s12, s13, s14, s15, s16, s17, s18⟩ := s
  unfold P_X11_bring at p
  unfold P_X12_bring at q
  have B9 : ¬ (0 ≤ a1 ∧ a1 < 6) ∨ (h 30 a1 = h 181 a1 ∧ 0 ≤ h 181 a1 ∧ h 181 a1 ≤ 1000000) := by
    by_cases z : 0 ≤ a1 ∧ a1 < 6
    · exact Or.inr (s14.1.1 a1 z.1 z.2)
    · exact Or.inl z
  have e1 : ∀ i k : Int, 181 ≤ i → i ≤ 228 → g1 i k = h i k := fun i k p1 p2 => f1 i k (by unfold w_X11_bring; omega)
  have e2 : g1 176 14 = h 176 14 := f1 176 14 (by unfold w_X11_bring; omega)
  have e3 := e1 181 a1 (by decide) (by decide)
  have v1 : ¬ (0 ≤ a1 ∧ a1 < 6) ∨ jw32 (1000000 - h 30 a1) = 1000000 - h 30 a1 := by
    by_cases z : 0 ≤ a1 ∧ a1 < 6
    · exact Or.inr (j32e (by omega) (by omega))
    · exact Or.inl z
  have v2 : ¬ (0 ≤ a1 ∧ a1 < 6) ∨ jw32 (1000000 - g1 181 a1) = 1000000 - g1 181 a1 := by
    by_cases z : 0 ≤ a1 ∧ a1 < 6
    · exact Or.inr (j32e (by omega) (by omega))
    · exact Or.inl z
  have key : x = y ∧ jYd2 g2 g2 := by
    rcases p with ⟨c, e⟩ | ⟨c, e⟩ | ⟨c, e⟩ | ⟨c, cx, e⟩ <;> rcases q with ⟨d, r⟩ | ⟨d, r⟩ | ⟨d, r⟩ | ⟨d, dx, r⟩
    · exact ⟨by omega, jYd2_fr (fun i k w => by unfold jwy at w; exact (r i k (by omega)).trans (e i k (by omega) (by omega))) (fun i k w => by unfold jmy at w; exact (r i k (by omega)).trans (e i k (by omega) (by omega))) s14⟩
    · exfalso; omega
    · exfalso; omega
    · exfalso; omega
    · exfalso; omega
    · exact ⟨by omega, jYd2_fr (fun i k w => by unfold jwy at w; exact (r i k (by omega)).trans (e i k (by omega) (by omega))) (fun i k w => by unfold jmy at w; exact (r i k (by omega)).trans (e i k (by omega) (by omega))) s14⟩
    · exfalso; omega
    · exfalso; omega
    · exfalso; omega
    · exfalso; omega
    · exact ⟨by omega, jYd2_fr (fun i k w => by unfold jwy at w; exact (r i k (by omega)).trans (e i k (by omega) (by omega))) (fun i k w => by unfold jmy at w; exact (r i k (by omega)).trans (e i k (by omega) (by omega))) s14⟩
    · exfalso; omega
    · exfalso; omega
    · exfalso; omega
    · exfalso; omega
    · have ev : jw32 (h 30 a1 + a2) = jw32 (g1 181 a1 + a2) := by rw [e3]; rcases B9 with z | z; omega; rw [z.1]
      have ew : jw32 (g1 181 a1 + a2) = g1 181 a1 + a2 := j32e (by omega) (by omega)
      refine ⟨by omega, jY_st (hc := h) (hm := h) (fun i k w z => ?_) (fun i k w z => ?_) (fun g a b => ?_) s14⟩
      · unfold jwy at w; rw [r i k (by omega), jup_ne (by omega), e i k (by omega) (by omega), jup_ne (by omega)]
      · unfold jmy at w; rw [r i k (by omega), jup_ne (by omega), e i k (by omega) (by omega), jup_ne (by omega)]
      · rw [r 30 g (by decide), jup_ne (by omega), e 30 g (by decide) (by decide), r 181 g (by decide)]
        by_cases z : g = a1
        · rw [z, jup_eq, jup_eq]; omega
        · rw [jup_ne (by omega), jup_ne (by omega), e 181 g (by decide) (by decide), jup_ne (by omega)]; exact s14.1.1 g a b
  try clear p
  try clear q
  exact ⟨key.1, jSm_fr (fun t => ((f2 3 t (by unfold w_X12_bring; omega)).trans (f1 3 t (by unfold w_X11_bring; omega)))) (fun t => ((f2 177 t (by unfold w_X12_bring; omega)).trans (f1 177 t (by unfold w_X11_bring; omega)))) s0, jSm_fr (fun t => ((f2 4 t (by unfold w_X12_bring; omega)).trans (f1 4 t (by unfold w_X11_bring; omega)))) (fun t => ((f2 178 t (by unfold w_X12_bring; omega)).trans (f1 178 t (by unfold w_X11_bring; omega)))) s1, jSm_fr (fun t => ((f2 10 t (by unfold w_X12_bring; omega)).trans (f1 10 t (by unfold w_X11_bring; omega)))) (fun t => ((f2 179 t (by unfold w_X12_bring; omega)).trans (f1 179 t (by unfold w_X11_bring; omega)))) s2, jSm_fr (fun t => ((f2 90 t (by unfold w_X12_bring; omega)).trans (f1 90 t (by unfold w_X11_bring; omega)))) (fun t => ((f2 204 t (by unfold w_X12_bring; omega)).trans (f1 204 t (by unfold w_X11_bring; omega)))) s3, jSm_fr (fun t => ((f2 92 t (by unfold w_X12_bring; omega)).trans (f1 92 t (by unfold w_X11_bring; omega)))) (fun t => ((f2 210 t (by unfold w_X12_bring; omega)).trans (f1 210 t (by unfold w_X11_bring; omega)))) s4, jT6_fr (fun i k p1 p2 => ((f2 i k (by unfold w_X12_bring; omega)).trans (f1 i k (by unfold w_X11_bring; omega)))) (fun k => ((f2 187 k (by unfold w_X12_bring; omega)).trans (f1 187 k (by unfold w_X11_bring; omega)))) s5, jTN_fr (fun i k p1 p2 => ((f2 i k (by unfold w_X12_bring; omega)).trans (f1 i k (by unfold w_X11_bring; omega)))) (fun k => ((f2 188 k (by unfold w_X12_bring; omega)).trans (f1 188 k (by unfold w_X11_bring; omega)))) s6, (((f2 29 4 (by unfold w_X12_bring; omega)).trans (f1 29 4 (by unfold w_X11_bring; omega))).trans s7).trans ((f2 176 14 (by unfold w_X12_bring; omega)).trans (f1 176 14 (by unfold w_X11_bring; omega))).symm, (((f2 84 0 (by unfold w_X12_bring; omega)).trans (f1 84 0 (by unfold w_X11_bring; omega))).trans s8).trans ((f2 176 34 (by unfold w_X12_bring; omega)).trans (f1 176 34 (by unfold w_X11_bring; omega))).symm, (((f2 11 0 (by unfold w_X12_bring; omega)).trans (f1 11 0 (by unfold w_X11_bring; omega))).trans s9).trans ((f2 176 6 (by unfold w_X12_bring; omega)).trans (f1 176 6 (by unfold w_X11_bring; omega))).symm, (((f2 0 0 (by unfold w_X12_bring; omega)).trans (f1 0 0 (by unfold w_X11_bring; omega))).trans s10).trans ((f2 176 0 (by unfold w_X12_bring; omega)).trans (f1 176 0 (by unfold w_X11_bring; omega))).symm, jRo_fr (fun i k p1 p2 => ((f2 i k (by unfold w_X12_bring; omega)).trans (f1 i k (by unfold w_X11_bring; omega)))) (fun k => ((f2 180 k (by unfold w_X12_bring; omega)).trans (f1 180 k (by unfold w_X11_bring; omega)))) s11, jDe_fr (fun i k p1 p2 => ((f2 i k (by unfold w_X12_bring; omega)).trans (f1 i k (by unfold w_X11_bring; omega)))) ((f2 11 0 (by unfold w_X12_bring; omega)).trans (f1 11 0 (by unfold w_X11_bring; omega))) (fun i k p1 p2 => ((f2 i k (by unfold w_X12_bring; omega)).trans (f1 i k (by unfold w_X11_bring; omega)))) ((f2 176 6 (by unfold w_X12_bring; omega)).trans (f1 176 6 (by unfold w_X11_bring; omega))) s12, jTC_fr (fun i k p1 p2 => ((f2 i k (by unfold w_X12_bring; omega)).trans (f1 i k (by unfold w_X11_bring; omega)))) (fun k => ((f2 186 k (by unfold w_X12_bring; omega)).trans (f1 186 k (by unfold w_X11_bring; omega)))) s13, key.2, jLe_fr ((f2 101 0 (by unfold w_X12_bring; omega)).trans (f1 101 0 (by unfold w_X11_bring; omega))) (fun i k p1 p2 => ((f2 i k (by unfold w_X12_bring; omega)).trans (f1 i k (by unfold w_X11_bring; omega)))) ((f2 176 45 (by unfold w_X12_bring; omega)).trans (f1 176 45 (by unfold w_X11_bring; omega))) (fun i k p1 p2 => ((f2 i k (by unfold w_X12_bring; omega)).trans (f1 i k (by unfold w_X11_bring; omega)))) s15, jGv_fr (fun i k p1 p2 => ((f2 i k (by unfold w_X12_bring; omega)).trans (f1 i k (by unfold w_X11_bring; omega)))) (fun i k p1 p2 => ((f2 i k (by unfold w_X12_bring; omega)).trans (f1 i k (by unfold w_X11_bring; omega)))) ((f2 176 34 (by unfold w_X12_bring; omega)).trans (f1 176 34 (by unfold w_X11_bring; omega))) ((f2 176 0 (by unfold w_X12_bring; omega)).trans (f1 176 0 (by unfold w_X11_bring; omega))) (fun i k p1 p2 => ((f2 i k (by unfold w_X12_bring; omega)).trans (f1 i k (by unfold w_X11_bring; omega)))) (fun i k p1 p2 => ((f2 i k (by unfold w_X12_bring; omega)).trans (f1 i k (by unfold w_X11_bring; omega)))) (fun i p1 p2 => ((f2 i 10 (by unfold w_X12_bring; omega)).trans (f1 i 10 (by unfold w_X11_bring; omega)))) (fun k => ((f2 201 k (by unfold w_X12_bring; omega)).trans (f1 201 k (by unfold w_X11_bring; omega)))) s16, (A7 key.1), jS9_fr (fun k p1 p2 => ((f2 198 k (by unfold w_X12_bring; omega)).trans (f1 198 k (by unfold w_X11_bring; omega)))) ((f2 176 0 (by unfold w_X12_bring; omega)).trans (f1 176 0 (by unfold w_X11_bring; omega))) s18⟩
set_option maxHeartbeats 4000000 in
theorem pr_raft {h g1 g2 : JH} {a1 a2 x y : Int} (f1 : jfr w_X11_raft h g1) (f2 : jfr w_X12_raft g1 g2) (p : P_X11_raft a1 a2 x h g1) (q : P_X12_raft a1 a2 y g1 g2) (s : jI h) (A7 : x = y → jAh g2) : x = y ∧ jI g2 := by
  obtain ⟨s0, s1, s2, s3, s4, s5, s6, s7, s8, s9, s10, s11, s12, s13, s14, s15, s16, s17, s18⟩ := s
  unfold P_X11_raft at p
  unfold P_X12_raft at q
  have B9 : ¬ (0 ≤ a1 ∧ a1 < 6) ∨ (h 30 a1 = h 181 a1 ∧ 0 ≤ h 181 a1 ∧ h 181 a1 ≤ 1000000) := by
    by_cases z : 0 ≤ a1 ∧ a1 < 6
    · exact Or.inr (s14.1.1 a1 z.1 z.2)
    · exact Or.inl z
  have e1 : ∀ i k : Int, 181 ≤ i → i ≤ 228 → g1 i k = h i k := fun i k p1 p2 => f1 i k (by unfold w_X11_raft; omega)
  have e2 : g1 176 14 = h 176 14 := f1 176 14 (by unfold w_X11_raft; omega)
  have C9 : ¬ (0 ≤ a1 ∧ a1 < 6) ∨ (h 31 a1 = -1 ∧ h 202 a1 = -1) ∨ (¬ h 31 a1 = -1 ∧ 0 ≤ h 202 a1 ∧ ((h 31 a1 = -2 ∧ h 202 a1 = 100) ∨ (¬ h 31 a1 = -2 ∧ h 202 a1 < 100))) := by
    by_cases z : 0 ≤ a1 ∧ a1 < 6
    · refine Or.inr ?_
      have r := s14.1.2.1 a1 z.1 z.2
      unfold jBR at r
      have e : h (29 + 2) a1 = h 31 a1 := rfl
      rw [e] at r
      rcases r with r | r | r
      · exact Or.inl r
      · exact Or.inr ⟨by omega, by omega, Or.inl r⟩
      · exact Or.inr ⟨by omega, by omega, Or.inr ⟨by omega, by omega⟩⟩
    · exact Or.inl z
  have e3 := e1 202 a1 (by decide) (by decide); have e4 := e1 181 0 (by decide) (by decide); have S0 := s14.1.1 0 (by decide) (by decide)
  have S1 : h (29 + 1) 0 = h 30 0 := rfl
  have key : x = y ∧ jYd2 g2 g2 := by
    rcases p with ⟨c, e⟩ | ⟨c, e⟩ | ⟨c, e⟩ | ⟨c, e⟩ | ⟨c, e⟩ | ⟨c, cx, e⟩ <;> rcases q with ⟨d, r⟩ | ⟨d, r⟩ | ⟨d, r⟩ | ⟨d, r⟩ | ⟨d, r⟩ | ⟨d, dx, r⟩
    · exact ⟨by omega, jYd2_fr (fun i k w => by unfold jwy at w; exact (r i k (by omega)).trans (e i k (by omega) (by omega))) (fun i k w => by unfold jmy at w; exact (r i k (by omega)).trans (e i k (by omega) (by omega))) s14⟩
    · exfalso; omega
    · exfalso; omega
    · exfalso; omega
    · exfalso; omega
    · exfalso; omega
    · exfalso; omega
    · exact ⟨by omega, jYd2_fr (fun i k w => by unfold jwy at w; exact (r i k (by omega)).trans (e i k (by omega) (by omega))) (fun i k w => by unfold jmy at w; exact (r i k (by omega)).trans (e i k (by omega) (by omega))) s14⟩
    · exfalso; omega
    · exfalso; omega
    · exfalso; omega
    · exfalso; omega
    · exfalso; omega
    · exfalso; omega
    · exact ⟨by omega, jYd2_fr (fun i k w => by unfold jwy at w; exact (r i k (by omega)).trans (e i k (by omega) (by omega))) (fun i k w => by unfold jmy at w; exact (r i k (by omega)).trans (e i k (by omega) (by omega))) s14⟩
    · exfalso; omega
    · exfalso; omega
    · exfalso; omega
    · exfalso; omega
    · exfalso; omega
    · exfalso; omega
    · exact ⟨by omega, jYd2_fr (fun i k w => by unfold jwy at w; exact (r i k (by omega)).trans (e i k (by omega) (by omega))) (fun i k w => by unfold jmy at w; exact (r i k (by omega)).trans (e i k (by omega) (by omega))) s14⟩
    · exfalso; omega
    · exfalso; omega
    · exfalso; omega
    · exfalso; omega
    · exfalso; omega
    · exfalso; omega
    · exact ⟨by omega, jYd2_fr (fun i k w => by unfold jwy at w; exact (r i k (by omega)).trans (e i k (by omega) (by omega))) (fun i k w => by unfold jmy at w; exact (r i k (by omega)).trans (e i k (by omega) (by omega))) s14⟩
    · exfalso; omega
    · exfalso; omega
    · exfalso; omega
    · exfalso; omega
    · exfalso; omega
    · exfalso; omega
    · have ev : jw32 (h 30 0 - a2) = h 30 0 - a2 := j32e (by omega) (by omega)
      have ew : jw32 (g1 181 0 - a2) = g1 181 0 - a2 := j32e (by omega) (by omega)
      have Y1 : jYd2 (jup h 30 0 (jw32 (h 30 0 - a2))) (jup h 181 0 (jw32 (g1 181 0 - a2))) := jY_st (hc := h) (hm := h) (fun i k w z => jup_ne (by omega)) (fun i k w z => jup_ne (by omega)) (fun g a b => by
        by_cases z : g = 0
        · rw [z, jup_eq, jup_eq]; omega
        · rw [jup_ne (by omega), jup_ne (by omega)]; exact s14.1.1 g a b) s14
      refine ⟨by omega, jY_bt (b0 := a1) (fun i k w z => ?_) (fun i k w z => ?_) (Or.inr ?_) Y1⟩
      · unfold jwy at w; rw [r i k (by omega), jup_ne (by omega), jup_ne (by omega), jup_ne (by omega), e i k (by omega) (by omega), jup_ne (by omega), jup_ne (by omega)]
      · unfold jmy at w; rw [r i k (by omega), jup_ne (by omega), jup_ne (by omega)]; refine jup_cc rfl rfl rfl ?_; rw [e i k (by omega) (by omega), jup_ne (by omega), jup_ne (by omega), jup_ne (by omega)]
      · have q1 : g2 31 a1 = -2 := by rw [r 31 a1 (by decide), jup_ne (by omega), jup_ne (by omega), jup_ne (by omega), e 31 a1 (by decide) (by decide), jup_ne (by omega), jup_eq]
        have q2 : g2 202 a1 = 100 := by rw [r 202 a1 (by decide), jup_ne (by omega), jup_eq]
        have q3 : g2 32 a1 = a2 := by rw [r 32 a1 (by decide), jup_ne (by omega), jup_ne (by omega), jup_ne (by omega), e 32 a1 (by decide) (by decide), jup_eq]
        have q4 : g2 203 a1 = a2 := by rw [r 203 a1 (by decide), jup_eq]
        exact ⟨q1, q2, by omega, by omega, by omega⟩
  try clear p
  try clear q
  exact ⟨key.1, jSm_fr (fun t => ((f2 3 t (by unfold w_X12_raft; omega)).trans (f1 3 t (by unfold w_X11_raft; omega)))) (fun t => ((f2 177 t (by unfold w_X12_raft; omega)).trans (f1 177 t (by unfold w_X11_raft; omega)))) s0, jSm_fr (fun t => ((f2 4 t (by unfold w_X12_raft; omega)).trans (f1 4 t (by unfold w_X11_raft; omega)))) (fun t => ((f2 178 t (by unfold w_X12_raft; omega)).trans (f1 178 t (by unfold w_X11_raft; omega)))) s1, jSm_fr (fun t => ((f2 10 t (by unfold w_X12_raft; omega)).trans (f1 10 t (by unfold w_X11_raft; omega)))) (fun t => ((f2 179 t (by unfold w_X12_raft; omega)).trans (f1 179 t (by unfold w_X11_raft; omega)))) s2, jSm_fr (fun t => ((f2 90 t (by unfold w_X12_raft; omega)).trans (f1 90 t (by unfold w_X11_raft; omega)))) (fun t => ((f2 204 t (by unfold w_X12_raft; omega)).trans (f1 204 t (by unfold w_X11_raft; omega)))) s3, jSm_fr (fun t => ((f2 92 t (by unfold w_X12_raft; omega)).trans (f1 92 t (by unfold w_X11_raft; omega)))) (fun t => ((f2 210 t (by unfold w_X12_raft; omega)).trans (f1 210 t (by unfold w_X11_raft; omega)))) s4, jT6_fr (fun i k p1 p2 => ((f2 i k (by unfold w_X12_raft; omega)).trans (f1 i k (by unfold w_X11_raft; omega)))) (fun k => ((f2 187 k (by unfold w_X12_raft; omega)).trans (f1 187 k (by unfold w_X11_raft; omega)))) s5, jTN_fr (fun i k p1 p2 => ((f2 i k (by unfold w_X12_raft; omega)).trans (f1 i k (by unfold w_X11_raft; omega)))) (fun k => ((f2 188 k (by unfold w_X12_raft; omega)).trans (f1 188 k (by unfold w_X11_raft; omega)))) s6, (((f2 29 4 (by unfold w_X12_raft; omega)).trans (f1 29 4 (by unfold w_X11_raft; omega))).trans s7).trans ((f2 176 14 (by unfold w_X12_raft; omega)).trans (f1 176 14 (by unfold w_X11_raft; omega))).symm, (((f2 84 0 (by unfold w_X12_raft; omega)).trans (f1 84 0 (by unfold w_X11_raft; omega))).trans s8).trans ((f2 176 34 (by unfold w_X12_raft; omega)).trans (f1 176 34 (by unfold w_X11_raft; omega))).symm, (((f2 11 0 (by unfold w_X12_raft; omega)).trans (f1 11 0 (by unfold w_X11_raft; omega))).trans s9).trans ((f2 176 6 (by unfold w_X12_raft; omega)).trans (f1 176 6 (by unfold w_X11_raft; omega))).symm, (((f2 0 0 (by unfold w_X12_raft; omega)).trans (f1 0 0 (by unfold w_X11_raft; omega))).trans s10).trans ((f2 176 0 (by unfold w_X12_raft; omega)).trans (f1 176 0 (by unfold w_X11_raft; omega))).symm, jRo_fr (fun i k p1 p2 => ((f2 i k (by unfold w_X12_raft; omega)).trans (f1 i k (by unfold w_X11_raft; omega)))) (fun k => ((f2 180 k (by unfold w_X12_raft; omega)).trans (f1 180 k (by unfold w_X11_raft; omega)))) s11, jDe_fr (fun i k p1 p2 => ((f2 i k (by unfold w_X12_raft; omega)).trans (f1 i k (by unfold w_X11_raft; omega)))) ((f2 11 0 (by unfold w_X12_raft; omega)).trans (f1 11 0 (by unfold w_X11_raft; omega))) (fun i k p1 p2 => ((f2 i k (by unfold w_X12_raft; omega)).trans (f1 i k (by unfold w_X11_raft; omega)))) ((f2 176 6 (by unfold w_X12_raft; omega)).trans (f1 176 6 (by unfold w_X11_raft; omega))) s12, jTC_fr (fun i k p1 p2 => ((f2 i k (by unfold w_X12_raft; omega)).trans (f1 i k (by unfold w_X11_raft; omega)))) (fun k => ((f2 186 k (by unfold w_X12_raft; omega)).trans (f1 186 k (by unfold w_X11_raft; omega)))) s13, key.2, jLe_fr ((f2 101 0 (by unfold w_X12_raft; omega)).trans (f1 101 0 (by unfold w_X11_raft; omega))) (fun i k p1 p2 => ((f2 i k (by unfold w_X12_raft; omega)).trans (f1 i k (by unfold w_X11_raft; omega)))) ((f2 176 45 (by unfold w_X12_raft; omega)).trans (f1 176 45 (by unfold w_X11_raft; omega))) (fun i k p1 p2 => ((f2 i k (by unfold w_X12_raft; omega)).trans (f1 i k (by unfold w_X11_raft; omega)))) s15, jGv_fr (fun i k p1 p2 => ((f2 i k (by unfold w_X12_raft; omega)).trans (f1 i k (by unfold w_X11_raft; omega)))) (fun i k p1 p2 => ((f2 i k (by unfold w_X12_raft; omega)).trans (f1 i k (by unfold w_X11_raft; omega)))) ((f2 176 34 (by unfold w_X12_raft; omega)).trans (f1 176 34 (by unfold w_X11_raft; omega))) ((f2 176 0 (by unfold w_X12_raft; omega)).trans (f1 176 0 (by unfold w_X11_raft; omega))) (fun i k p1 p2 => ((f2 i k (by unfold w_X12_raft; omega)).trans (f1 i k (by unfold w_X11_raft; omega)))) (fun i k p1 p2 => ((f2 i k (by unfold w_X12_raft; omega)).trans (f1 i k (by unfold w_X11_raft; omega)))) (fun i p1 p2 => ((f2 i 10 (by unfold w_X12_raft; omega)).trans (f1 i 10 (by unfold w_X11_raft; omega)))) (fun k => ((f2 201 k (by unfold w_X12_raft; omega)).trans (f1 201 k (by unfold w_X11_raft; omega)))) s16, (A7 key.1), jS9_fr (fun k p1 p2 => ((f2 198 k (by unfold w_X12_raft; omega)).trans (f1 198 k (by unfold w_X11_raft; omega)))) ((f2 176 0 (by unfold w_X12_raft; omega)).trans (f1 176 0 (by unfold w_X11_raft; omega))) s18⟩
set_option maxHeartbeats 4000000 in
theorem pr_unraft {h g1 g2 : JH} {a1 x y : Int} (f1 : jfr w_X11_unraft h g1) (f2 : jfr w_X12_unraft g1 g2) (p : P_X11_unraft a1 x h g1) (q : P_X12_unraft a1 y g1 g2) (s : jI h) (A7 : x = y → jAh g2) : x = y ∧ jI g2 := by
  obtain ⟨s0, s1, s2, s3, s4, s5, s6, s7, s8, s9, s10, s11, s12, s13, s14, s15, s16, s17, s18⟩ := s
  unfold P_X11_unraft at p
  unfold P_X12_unraft at q
  have B9 : ¬ (0 ≤ a1 ∧ a1 < 6) ∨ (h 30 a1 = h 181 a1 ∧ 0 ≤ h 181 a1 ∧ h 181 a1 ≤ 1000000) := by
    by_cases z : 0 ≤ a1 ∧ a1 < 6
    · exact Or.inr (s14.1.1 a1 z.1 z.2)
    · exact Or.inl z
  have e1 : ∀ i k : Int, 181 ≤ i → i ≤ 228 → g1 i k = h i k := fun i k p1 p2 => f1 i k (by unfold w_X11_unraft; omega)
  have e2 : g1 176 14 = h 176 14 := f1 176 14 (by unfold w_X11_unraft; omega)
  have C9 : ¬ (0 ≤ a1 ∧ a1 < 6) ∨ (h 31 a1 = -1 ∧ h 202 a1 = -1) ∨ (¬ h 31 a1 = -1 ∧ 0 ≤ h 202 a1 ∧ ((h 31 a1 = -2 ∧ h 202 a1 = 100) ∨ (¬ h 31 a1 = -2 ∧ h 202 a1 < 100))) := by
    by_cases z : 0 ≤ a1 ∧ a1 < 6
    · refine Or.inr ?_
      have r := s14.1.2.1 a1 z.1 z.2
      unfold jBR at r
      have e : h (29 + 2) a1 = h 31 a1 := rfl
      rw [e] at r
      rcases r with r | r | r
      · exact Or.inl r
      · exact Or.inr ⟨by omega, by omega, Or.inl r⟩
      · exact Or.inr ⟨by omega, by omega, Or.inr ⟨by omega, by omega⟩⟩
    · exact Or.inl z
  have e3 := e1 202 a1 (by decide) (by decide); have e4 := e1 181 0 (by decide) (by decide); have e5 := e1 203 a1 (by decide) (by decide); have S0 := s14.1.1 0 (by decide) (by decide)
  have S1 : h (29 + 1) 0 = h 30 0 := rfl
  have P9 : ¬ (0 ≤ a1 ∧ a1 < 6) ∨ ¬ h 202 a1 = 100 ∨ (h 32 a1 = h 203 a1 ∧ 0 ≤ h 203 a1 ∧ h 203 a1 ≤ 1000) := by
    by_cases z : 0 ≤ a1 ∧ a1 < 6
    · by_cases y : h 202 a1 = 100
      · exact Or.inr (Or.inr ((s14.2.2.1 a1 z.1 z.2).1 y))
      · exact Or.inr (Or.inl y)
    · exact Or.inl z
  have key : x = y ∧ jYd2 g2 g2 := by
    rcases p with ⟨c, e⟩ | ⟨c, e⟩ | ⟨c, e⟩ | ⟨c, cx, e⟩ <;> rcases q with ⟨d, r⟩ | ⟨d, r⟩ | ⟨d, r⟩ | ⟨d, dx, r⟩
    · exact ⟨by omega, jYd2_fr (fun i k w => by unfold jwy at w; exact (r i k (by omega)).trans (e i k (by omega) (by omega))) (fun i k w => by unfold jmy at w; exact (r i k (by omega)).trans (e i k (by omega) (by omega))) s14⟩
    · exfalso; omega
    · exfalso; omega
    · exfalso; omega
    · exfalso; omega
    · exact ⟨by omega, jYd2_fr (fun i k w => by unfold jwy at w; exact (r i k (by omega)).trans (e i k (by omega) (by omega))) (fun i k w => by unfold jmy at w; exact (r i k (by omega)).trans (e i k (by omega) (by omega))) s14⟩
    · exfalso; omega
    · exfalso; omega
    · exfalso; omega
    · exfalso; omega
    · exact ⟨by omega, jYd2_fr (fun i k w => by unfold jwy at w; exact (r i k (by omega)).trans (e i k (by omega) (by omega))) (fun i k w => by unfold jmy at w; exact (r i k (by omega)).trans (e i k (by omega) (by omega))) s14⟩
    · exfalso; omega
    · exfalso; omega
    · exfalso; omega
    · exfalso; omega
    · have v1 : jw32 (1000000 - h 30 0) = 1000000 - h 30 0 := j32e (by omega) (by omega)
      have v2 : jw32 (1000000 - g1 181 0) = 1000000 - g1 181 0 := j32e (by omega) (by omega)
      have nv : jw32 (h 30 0 + jmin (h 32 a1) (jw32 (1000000 - h 30 0))) = (if jw32 (1000000 - g1 181 0) < g1 203 a1 then 1000000 else jw32 (g1 181 0 + g1 203 a1)) ∧ 0 ≤ (if jw32 (1000000 - g1 181 0) < g1 203 a1 then 1000000 else jw32 (g1 181 0 + g1 203 a1)) ∧ (if jw32 (1000000 - g1 181 0) < g1 203 a1 then 1000000 else jw32 (g1 181 0 + g1 203 a1)) ≤ 1000000 := by
        rw [v1, v2]; unfold jmin
        by_cases z : 1000000 - g1 181 0 < g1 203 a1
        · rw [if_pos z, if_neg (by omega), j32e (by omega) (by omega)]; omega
        · rw [if_neg z, if_pos (by omega), j32e (x := h 30 0 + h 32 a1) (by omega) (by omega), j32e (x := g1 181 0 + g1 203 a1) (by omega) (by omega)]; omega
      generalize (if jw32 (1000000 - g1 181 0) < g1 203 a1 then 1000000 else jw32 (g1 181 0 + g1 203 a1)) = V at nv r
      have ev : ∀ i k : Int, jSto 30 0 (h 32 a1) (jup (jup h 31 a1 (-1)) 32 a1 0) i k = jup (jup (jup h 31 a1 (-1)) 32 a1 0) 30 0 V i k := fun i k => by
        unfold jSto; refine jup_cc rfl rfl ?_ rfl; rw [jup_ne (by omega), jup_ne (by omega)]; exact nv.1
      have Y1 : jYd2 (jup h 30 0 V) (jup h 181 0 V) := jY_st (hc := h) (hm := h) (fun i k w z => jup_ne (by omega)) (fun i k w z => jup_ne (by omega)) (fun g a b => by
        by_cases z : g = 0
        · rw [z, jup_eq, jup_eq]; omega
        · rw [jup_ne (by omega), jup_ne (by omega)]; exact s14.1.1 g a b) s14
      refine ⟨by omega, jY_bt (b0 := a1) (fun i k w z => ?_) (fun i k w z => ?_) (Or.inl ?_) Y1⟩
      · unfold jwy at w; rw [r i k (by omega), jup_ne (by omega), jup_ne (by omega), jup_ne (by omega), e i k (by omega) (by omega), ev]; refine jup_cc rfl rfl rfl ?_; rw [jup_ne (by omega), jup_ne (by omega)]
      · unfold jmy at w; rw [r i k (by omega), jup_ne (by omega), jup_ne (by omega)]; refine jup_cc rfl rfl rfl ?_; rw [e i k (by omega) (by omega), ev, jup_ne (by omega), jup_ne (by omega), jup_ne (by omega)]
      · have q1 : g2 31 a1 = -1 := by rw [r 31 a1 (by decide), jup_ne (by omega), jup_ne (by omega), jup_ne (by omega), e 31 a1 (by decide) (by decide), ev, jup_ne (by omega), jup_ne (by omega), jup_eq]
        have q2 : g2 202 a1 = -1 := by rw [r 202 a1 (by decide), jup_ne (by omega), jup_eq]
        have q3 : g2 32 a1 = 0 := by rw [r 32 a1 (by decide), jup_ne (by omega), jup_ne (by omega), jup_ne (by omega), e 32 a1 (by decide) (by decide), ev, jup_ne (by omega), jup_eq]
        exact ⟨q1, q2, q3⟩
  try clear p
  try clear q
  exact ⟨key.1, jSm_fr (fun t => ((f2 3 t (by unfold w_X12_unraft; omega)).trans (f1 3 t (by unfold w_X11_unraft; omega)))) (fun t => ((f2 177 t (by unfold w_X12_unraft; omega)).trans (f1 177 t (by unfold w_X11_unraft; omega)))) s0, jSm_fr (fun t => ((f2 4 t (by unfold w_X12_unraft; omega)).trans (f1 4 t (by unfold w_X11_unraft; omega)))) (fun t => ((f2 178 t (by unfold w_X12_unraft; omega)).trans (f1 178 t (by unfold w_X11_unraft; omega)))) s1, jSm_fr (fun t => ((f2 10 t (by unfold w_X12_unraft; omega)).trans (f1 10 t (by unfold w_X11_unraft; omega)))) (fun t => ((f2 179 t (by unfold w_X12_unraft; omega)).trans (f1 179 t (by unfold w_X11_unraft; omega)))) s2, jSm_fr (fun t => ((f2 90 t (by unfold w_X12_unraft; omega)).trans (f1 90 t (by unfold w_X11_unraft; omega)))) (fun t => ((f2 204 t (by unfold w_X12_unraft; omega)).trans (f1 204 t (by unfold w_X11_unraft; omega)))) s3, jSm_fr (fun t => ((f2 92 t (by unfold w_X12_unraft; omega)).trans (f1 92 t (by unfold w_X11_unraft; omega)))) (fun t => ((f2 210 t (by unfold w_X12_unraft; omega)).trans (f1 210 t (by unfold w_X11_unraft; omega)))) s4, jT6_fr (fun i k p1 p2 => ((f2 i k (by unfold w_X12_unraft; omega)).trans (f1 i k (by unfold w_X11_unraft; omega)))) (fun k => ((f2 187 k (by unfold w_X12_unraft; omega)).trans (f1 187 k (by unfold w_X11_unraft; omega)))) s5, jTN_fr (fun i k p1 p2 => ((f2 i k (by unfold w_X12_unraft; omega)).trans (f1 i k (by unfold w_X11_unraft; omega)))) (fun k => ((f2 188 k (by unfold w_X12_unraft; omega)).trans (f1 188 k (by unfold w_X11_unraft; omega)))) s6, (((f2 29 4 (by unfold w_X12_unraft; omega)).trans (f1 29 4 (by unfold w_X11_unraft; omega))).trans s7).trans ((f2 176 14 (by unfold w_X12_unraft; omega)).trans (f1 176 14 (by unfold w_X11_unraft; omega))).symm, (((f2 84 0 (by unfold w_X12_unraft; omega)).trans (f1 84 0 (by unfold w_X11_unraft; omega))).trans s8).trans ((f2 176 34 (by unfold w_X12_unraft; omega)).trans (f1 176 34 (by unfold w_X11_unraft; omega))).symm, (((f2 11 0 (by unfold w_X12_unraft; omega)).trans (f1 11 0 (by unfold w_X11_unraft; omega))).trans s9).trans ((f2 176 6 (by unfold w_X12_unraft; omega)).trans (f1 176 6 (by unfold w_X11_unraft; omega))).symm, (((f2 0 0 (by unfold w_X12_unraft; omega)).trans (f1 0 0 (by unfold w_X11_unraft; omega))).trans s10).trans ((f2 176 0 (by unfold w_X12_unraft; omega)).trans (f1 176 0 (by unfold w_X11_unraft; omega))).symm, jRo_fr (fun i k p1 p2 => ((f2 i k (by unfold w_X12_unraft; omega)).trans (f1 i k (by unfold w_X11_unraft; omega)))) (fun k => ((f2 180 k (by unfold w_X12_unraft; omega)).trans (f1 180 k (by unfold w_X11_unraft; omega)))) s11, jDe_fr (fun i k p1 p2 => ((f2 i k (by unfold w_X12_unraft; omega)).trans (f1 i k (by unfold w_X11_unraft; omega)))) ((f2 11 0 (by unfold w_X12_unraft; omega)).trans (f1 11 0 (by unfold w_X11_unraft; omega))) (fun i k p1 p2 => ((f2 i k (by unfold w_X12_unraft; omega)).trans (f1 i k (by unfold w_X11_unraft; omega)))) ((f2 176 6 (by unfold w_X12_unraft; omega)).trans (f1 176 6 (by unfold w_X11_unraft; omega))) s12, jTC_fr (fun i k p1 p2 => ((f2 i k (by unfold w_X12_unraft; omega)).trans (f1 i k (by unfold w_X11_unraft; omega)))) (fun k => ((f2 186 k (by unfold w_X12_unraft; omega)).trans (f1 186 k (by unfold w_X11_unraft; omega)))) s13, key.2, jLe_fr ((f2 101 0 (by unfold w_X12_unraft; omega)).trans (f1 101 0 (by unfold w_X11_unraft; omega))) (fun i k p1 p2 => ((f2 i k (by unfold w_X12_unraft; omega)).trans (f1 i k (by unfold w_X11_unraft; omega)))) ((f2 176 45 (by unfold w_X12_unraft; omega)).trans (f1 176 45 (by unfold w_X11_unraft; omega))) (fun i k p1 p2 => ((f2 i k (by unfold w_X12_unraft; omega)).trans (f1 i k (by unfold w_X11_unraft; omega)))) s15, jGv_fr (fun i k p1 p2 => ((f2 i k (by unfold w_X12_unraft; omega)).trans (f1 i k (by unfold w_X11_unraft; omega)))) (fun i k p1 p2 => ((f2 i k (by unfold w_X12_unraft; omega)).trans (f1 i k (by unfold w_X11_unraft; omega)))) ((f2 176 34 (by unfold w_X12_unraft; omega)).trans (f1 176 34 (by unfold w_X11_unraft; omega))) ((f2 176 0 (by unfold w_X12_unraft; omega)).trans (f1 176 0 (by unfold w_X11_unraft; omega))) (fun i k p1 p2 => ((f2 i k (by unfold w_X12_unraft; omega)).trans (f1 i k (by unfold w_X11_unraft; omega)))) (fun i k p1 p2 => ((f2 i k (by unfold w_X12_unraft; omega)).trans (f1 i k (by unfold w_X11_unraft; omega)))) (fun i p1 p2 => ((f2 i 10 (by unfold w_X12_unraft; omega)).trans (f1 i 10 (by unfold w_X11_unraft; omega)))) (fun k => ((f2 201 k (by unfold w_X12_unraft; omega)).trans (f1 201 k (by unfold w_X11_unraft; omega)))) s16, (A7 key.1), jS9_fr (fun k p1 p2 => ((f2 198 k (by unfold w_X12_unraft; omega)).trans (f1 198 k (by unfold w_X11_unraft; omega)))) ((f2 176 0 (by unfold w_X12_unraft; omega)).trans (f1 176 0 (by unfold w_X11_unraft; omega))) s18⟩
set_option maxHeartbeats 4000000 in
theorem pr_priority {h g1 g2 : JH} {a1 a2 x y : Int} (f1 : jfr w_X11_priority h g1) (f2 : jfr w_X12_priority g1 g2) (p : P_X11_priority a1 a2 x h g1) (q : P_X12_priority a1 a2 y g1 g2) (s : jI h) (hst : ∀ k : Int, 0 ≤ h 192 k) (h16 : h 29 4 ≤ 16) (A7 : x = y → jAh g2) : x = y ∧ jI g2 := by
  obtain ⟨s0, s1, s2, s3, s4, s5, s6, s7, s8, s9, s10, s11, s12, s13, s14, s15, s16, s17, s18⟩ := s
  unfold P_X11_priority at p
  unfold P_X12_priority at q
  have C9 : ¬ (0 ≤ a1 ∧ a1 < 16) ∨ (h (36 + 3 * a1) 3 = h 192 a1 ∧ h (36 + 3 * a1) 1 = h 190 a1) := by
    by_cases z : 0 ≤ a1 ∧ a1 < 16
    · exact Or.inr ⟨(s14.1.2.2 a1 z).1.2.1, (s14.2.1 a1 z.1 z.2).1⟩
    · exact Or.inl z
  have e1 : ∀ i k : Int, 181 ≤ i → i ≤ 228 → g1 i k = h i k := fun i k p1 p2 => f1 i k (by unfold w_X11_priority; omega)
  have e2 : g1 176 14 = h 176 14 := f1 176 14 (by unfold w_X11_priority; omega)
  have e3 := e1 192 a1 (by decide) (by decide); have e4 := e1 190 a1 (by decide) (by decide)
  have B0 := hst a1
  have k0 : h 29 4 = h 176 14 := s7
  have H16 := h16
  have key : x = y ∧ jYd2 g2 g2 := by
    rcases p with ⟨c, e⟩ | ⟨c, e⟩ | ⟨c, e⟩ | ⟨c, e⟩ | ⟨c, cx, e⟩ <;> rcases q with ⟨d, r⟩ | ⟨d, r⟩ | ⟨d, r⟩ | ⟨d, r⟩ | ⟨d, dx, r⟩
    · exact ⟨by omega, jYd2_fr (fun i k w => by unfold jwy at w; exact (r i k (by omega)).trans (e i k (by omega) (by omega))) (fun i k w => by unfold jmy at w; exact (r i k (by omega)).trans (e i k (by omega) (by omega))) s14⟩
    · exfalso; omega
    · exfalso; omega
    · exfalso; omega
    · exfalso; omega
    · exfalso; omega
    · exact ⟨by omega, jYd2_fr (fun i k w => by unfold jwy at w; exact (r i k (by omega)).trans (e i k (by omega) (by omega))) (fun i k w => by unfold jmy at w; exact (r i k (by omega)).trans (e i k (by omega) (by omega))) s14⟩
    · exfalso; omega
    · exfalso; omega
    · exfalso; omega
    · exfalso; omega
    · exfalso; omega
    · exact ⟨by omega, jYd2_fr (fun i k w => by unfold jwy at w; exact (r i k (by omega)).trans (e i k (by omega) (by omega))) (fun i k w => by unfold jmy at w; exact (r i k (by omega)).trans (e i k (by omega) (by omega))) s14⟩
    · exfalso; omega
    · exfalso; omega
    · exfalso; omega
    · exfalso; omega
    · exfalso; omega
    · exact ⟨by omega, jYd2_fr (fun i k w => by unfold jwy at w; exact (r i k (by omega)).trans (e i k (by omega) (by omega))) (fun i k w => by unfold jmy at w; exact (r i k (by omega)).trans (e i k (by omega) (by omega))) s14⟩
    · exfalso; omega
    · exfalso; omega
    · exfalso; omega
    · exfalso; omega
    · exfalso; omega
    · refine ⟨by omega, jY_pr (k0 := a1) (p := a2) (by omega) (fun i k w z => ?_) (fun i k w z => ?_) ?_ ?_ s14⟩
      · unfold jwy at w; rw [r i k (by omega), jup_ne (by omega), e i k (by omega) (by omega), jup_ne z]
      · unfold jmy at w; rw [r i k (by omega), jup_ne z, e i k (by omega) (by omega), jup_ne (by omega)]
      · rw [r _ 1 (by omega), jup_ne (by omega), e _ 1 (by omega) (by omega), jup_eq]
      · rw [r 190 a1 (by decide), jup_eq]
  have t10 : ∀ i : Int, 36 ≤ i → i ≤ 83 → g2 i 10 = h i 10 := by
    intro i p1 p2
    rw [f2 i 10 (by unfold w_X12_priority; omega)]
    rcases p with ⟨c, e⟩ | ⟨c, e⟩ | ⟨c, e⟩ | ⟨c, e⟩ | ⟨c, cx, e⟩
    · exact e i 10 (by omega) (by omega)
    · exact e i 10 (by omega) (by omega)
    · exact e i 10 (by omega) (by omega)
    · exact e i 10 (by omega) (by omega)
    · rw [e i 10 (by omega) (by omega)]; exact jup_ne (by omega)
  try clear p
  try clear q
  exact ⟨key.1, jSm_fr (fun t => ((f2 3 t (by unfold w_X12_priority; omega)).trans (f1 3 t (by unfold w_X11_priority; omega)))) (fun t => ((f2 177 t (by unfold w_X12_priority; omega)).trans (f1 177 t (by unfold w_X11_priority; omega)))) s0, jSm_fr (fun t => ((f2 4 t (by unfold w_X12_priority; omega)).trans (f1 4 t (by unfold w_X11_priority; omega)))) (fun t => ((f2 178 t (by unfold w_X12_priority; omega)).trans (f1 178 t (by unfold w_X11_priority; omega)))) s1, jSm_fr (fun t => ((f2 10 t (by unfold w_X12_priority; omega)).trans (f1 10 t (by unfold w_X11_priority; omega)))) (fun t => ((f2 179 t (by unfold w_X12_priority; omega)).trans (f1 179 t (by unfold w_X11_priority; omega)))) s2, jSm_fr (fun t => ((f2 90 t (by unfold w_X12_priority; omega)).trans (f1 90 t (by unfold w_X11_priority; omega)))) (fun t => ((f2 204 t (by unfold w_X12_priority; omega)).trans (f1 204 t (by unfold w_X11_priority; omega)))) s3, jSm_fr (fun t => ((f2 92 t (by unfold w_X12_priority; omega)).trans (f1 92 t (by unfold w_X11_priority; omega)))) (fun t => ((f2 210 t (by unfold w_X12_priority; omega)).trans (f1 210 t (by unfold w_X11_priority; omega)))) s4, jT6_fr (fun i k p1 p2 => ((f2 i k (by unfold w_X12_priority; omega)).trans (f1 i k (by unfold w_X11_priority; omega)))) (fun k => ((f2 187 k (by unfold w_X12_priority; omega)).trans (f1 187 k (by unfold w_X11_priority; omega)))) s5, jTN_fr (fun i k p1 p2 => ((f2 i k (by unfold w_X12_priority; omega)).trans (f1 i k (by unfold w_X11_priority; omega)))) (fun k => ((f2 188 k (by unfold w_X12_priority; omega)).trans (f1 188 k (by unfold w_X11_priority; omega)))) s6, (((f2 29 4 (by unfold w_X12_priority; omega)).trans (f1 29 4 (by unfold w_X11_priority; omega))).trans s7).trans ((f2 176 14 (by unfold w_X12_priority; omega)).trans (f1 176 14 (by unfold w_X11_priority; omega))).symm, (((f2 84 0 (by unfold w_X12_priority; omega)).trans (f1 84 0 (by unfold w_X11_priority; omega))).trans s8).trans ((f2 176 34 (by unfold w_X12_priority; omega)).trans (f1 176 34 (by unfold w_X11_priority; omega))).symm, (((f2 11 0 (by unfold w_X12_priority; omega)).trans (f1 11 0 (by unfold w_X11_priority; omega))).trans s9).trans ((f2 176 6 (by unfold w_X12_priority; omega)).trans (f1 176 6 (by unfold w_X11_priority; omega))).symm, (((f2 0 0 (by unfold w_X12_priority; omega)).trans (f1 0 0 (by unfold w_X11_priority; omega))).trans s10).trans ((f2 176 0 (by unfold w_X12_priority; omega)).trans (f1 176 0 (by unfold w_X11_priority; omega))).symm, jRo_fr (fun i k p1 p2 => ((f2 i k (by unfold w_X12_priority; omega)).trans (f1 i k (by unfold w_X11_priority; omega)))) (fun k => ((f2 180 k (by unfold w_X12_priority; omega)).trans (f1 180 k (by unfold w_X11_priority; omega)))) s11, jDe_fr (fun i k p1 p2 => ((f2 i k (by unfold w_X12_priority; omega)).trans (f1 i k (by unfold w_X11_priority; omega)))) ((f2 11 0 (by unfold w_X12_priority; omega)).trans (f1 11 0 (by unfold w_X11_priority; omega))) (fun i k p1 p2 => ((f2 i k (by unfold w_X12_priority; omega)).trans (f1 i k (by unfold w_X11_priority; omega)))) ((f2 176 6 (by unfold w_X12_priority; omega)).trans (f1 176 6 (by unfold w_X11_priority; omega))) s12, jTC_fr (fun i k p1 p2 => ((f2 i k (by unfold w_X12_priority; omega)).trans (f1 i k (by unfold w_X11_priority; omega)))) (fun k => ((f2 186 k (by unfold w_X12_priority; omega)).trans (f1 186 k (by unfold w_X11_priority; omega)))) s13, key.2, jLe_fr ((f2 101 0 (by unfold w_X12_priority; omega)).trans (f1 101 0 (by unfold w_X11_priority; omega))) (fun i k p1 p2 => ((f2 i k (by unfold w_X12_priority; omega)).trans (f1 i k (by unfold w_X11_priority; omega)))) ((f2 176 45 (by unfold w_X12_priority; omega)).trans (f1 176 45 (by unfold w_X11_priority; omega))) (fun i k p1 p2 => ((f2 i k (by unfold w_X12_priority; omega)).trans (f1 i k (by unfold w_X11_priority; omega)))) s15, jGv_fr (fun i k p1 p2 => ((f2 i k (by unfold w_X12_priority; omega)).trans (f1 i k (by unfold w_X11_priority; omega)))) (fun i k p1 p2 => ((f2 i k (by unfold w_X12_priority; omega)).trans (f1 i k (by unfold w_X11_priority; omega)))) ((f2 176 34 (by unfold w_X12_priority; omega)).trans (f1 176 34 (by unfold w_X11_priority; omega))) ((f2 176 0 (by unfold w_X12_priority; omega)).trans (f1 176 0 (by unfold w_X11_priority; omega))) (fun i k p1 p2 => ((f2 i k (by unfold w_X12_priority; omega)).trans (f1 i k (by unfold w_X11_priority; omega)))) (fun i k p1 p2 => ((f2 i k (by unfold w_X12_priority; omega)).trans (f1 i k (by unfold w_X11_priority; omega)))) t10 (fun k => ((f2 201 k (by unfold w_X12_priority; omega)).trans (f1 201 k (by unfold w_X11_priority; omega)))) s16, (A7 key.1), jS9_fr (fun k p1 p2 => ((f2 198 k (by unfold w_X12_priority; omega)).trans (f1 198 k (by unfold w_X11_priority; omega)))) ((f2 176 0 (by unfold w_X12_priority; omega)).trans (f1 176 0 (by unfold w_X11_priority; omega))) s18⟩
set_option maxHeartbeats 4000000 in
theorem pr_hull {h g1 g2 : JH} {a1 a2 a3 x y : Int} (f1 : jfr w_X11_hull h g1) (f2 : jfr w_X12_hull g1 g2) (p : P_X11_hull a1 a2 a3 x h g1) (q : P_X12_hull a1 a2 a3 y g1 g2) (s : jI h) (hn : 0 ≤ h 29 4) (A7 : x = y → jAh g2) : x = y ∧ jI g2 := by
  obtain ⟨s0, s1, s2, s3, s4, s5, s6, s7, s8, s9, s10, s11, s12, s13, s14, s15, s16, s17, s18⟩ := s
  unfold P_X11_hull at p
  unfold P_X12_hull at q
  have e1 : ∀ i k : Int, 181 ≤ i → i ≤ 228 → g1 i k = h i k := fun i k p1 p2 => f1 i k (by unfold w_X11_hull; omega)
  have e2 : g1 176 14 = h 176 14 := f1 176 14 (by unfold w_X11_hull; omega)
  have hn0 := hn
  have key : x = y ∧ g2 29 4 = g2 176 14 ∧ jYd2 g2 g2 := by
    rcases p with ⟨c, e⟩ | ⟨c, e⟩ | ⟨c, e⟩ | ⟨c, cx, e⟩ <;> rcases q with ⟨d, r⟩ | ⟨d, r⟩ | ⟨d, r⟩ | ⟨d, dx, r⟩
    · exact ⟨by omega, ((r 29 4 (by decide)).trans (e 29 4 (by decide) (by decide))).trans (s7.trans ((r 176 14 (by decide)).trans (e 176 14 (by decide) (by decide))).symm), jYd2_fr (fun i k w => by unfold jwy at w; exact (r i k (by omega)).trans (e i k (by omega) (by omega))) (fun i k w => by unfold jmy at w; exact (r i k (by omega)).trans (e i k (by omega) (by omega))) s14⟩
    · exfalso; omega
    · exfalso; omega
    · exfalso; omega
    · exfalso; omega
    · exact ⟨by omega, ((r 29 4 (by decide)).trans (e 29 4 (by decide) (by decide))).trans (s7.trans ((r 176 14 (by decide)).trans (e 176 14 (by decide) (by decide))).symm), jYd2_fr (fun i k w => by unfold jwy at w; exact (r i k (by omega)).trans (e i k (by omega) (by omega))) (fun i k w => by unfold jmy at w; exact (r i k (by omega)).trans (e i k (by omega) (by omega))) s14⟩
    · exfalso; omega
    · exfalso; omega
    · exfalso; omega
    · exfalso; omega
    · exact ⟨by omega, ((r 29 4 (by decide)).trans (e 29 4 (by decide) (by decide))).trans (s7.trans ((r 176 14 (by decide)).trans (e 176 14 (by decide) (by decide))).symm), jYd2_fr (fun i k w => by unfold jwy at w; exact (r i k (by omega)).trans (e i k (by omega) (by omega))) (fun i k w => by unfold jmy at w; exact (r i k (by omega)).trans (e i k (by omega) (by omega))) s14⟩
    · exfalso; omega
    · exfalso; omega
    · exfalso; omega
    · exfalso; omega
    · have bg : ∀ i k : Int, jBgn (36 + 3 * h 29 4) a1 a2 a3 h i k = if i = 36 + 3 * h 29 4 ∧ k = 9 then -9 else if i = 36 + 3 * h 29 4 ∧ k = 4 then -9 else if i = 36 + 3 * h 29 4 ∧ k = 3 then 0 else if i = 36 + 3 * h 29 4 ∧ k = 2 then a3 else if i = 36 + 3 * h 29 4 ∧ k = 1 then a2 else if i = 36 + 3 * h 29 4 ∧ k = 0 then a1 else h i k := fun i k => rfl
      have ea : ∀ i k : Int, ¬ i = 1 → ¬ i = 111 → ¬ (i = 29 ∧ k = 4) → g1 i k = jBgn (36 + 3 * h 29 4) a1 a2 a3 h i k := fun i k a b c => (e i k a b).trans (jup_ne c)
      have ra : ∀ i k : Int, ¬ i = 219 → ¬ (i = 176 ∧ k = 14) → g2 i k = if i = 198 ∧ k = g1 176 14 then -9 else if i = 193 ∧ k = g1 176 14 then -9 else if i = 192 ∧ k = g1 176 14 then 0 else if i = 191 ∧ k = g1 176 14 then a3 else if i = 190 ∧ k = g1 176 14 then a2 else if i = 189 ∧ k = g1 176 14 then a1 else g1 i k := fun i k a b => (r i k a).trans (jup_ne b)
      have g4 : g1 29 4 = h 29 4 + 1 := by rw [e 29 4 (by decide) (by decide), jup_eq]
      have g5 : g2 29 4 = g1 29 4 := f2 29 4 (by unfold w_X12_hull; omega)
      have g6 : g2 176 14 = g1 176 14 + 1 := by rw [r 176 14 (by decide), jup_eq]
      have k0 : h 29 4 = h 176 14 := s7
      refine ⟨by omega, by omega, jY_hu (hc := h) (hm := h) (k0 := h 176 14) (s := a1) (p := a2) (d := a3) (by omega) rfl (by omega) (fun i k w z => ?_) (fun i k w z z2 => ?_) ⟨?_, ?_, ?_, ?_, ?_, ?_⟩ ⟨?_, ?_, ?_, ?_, ?_, ?_, ?_⟩ s14⟩
      · unfold jwy at w; rw [f2 i k (by unfold w_X12_hull; omega), ea i k (by omega) (by omega) (by omega), bg, k0, if_neg (by omega), if_neg (by omega), if_neg (by omega), if_neg (by omega), if_neg (by omega), if_neg (by omega)]
      · unfold jmy at w; rw [ra i k (by omega) (by omega), e2, if_neg (by omega), if_neg (by omega), if_neg (by omega), if_neg (by omega), if_neg (by omega), if_neg (by omega)]; exact e1 i k (by omega) (by omega)
      · rw [f2 _ 0 (by unfold w_X12_hull; omega), ea _ 0 (by omega) (by omega) (by omega), bg, k0, if_neg (by omega), if_neg (by omega), if_neg (by omega), if_neg (by omega), if_neg (by omega), if_pos ⟨rfl, rfl⟩]
      · rw [f2 _ 1 (by unfold w_X12_hull; omega), ea _ 1 (by omega) (by omega) (by omega), bg, k0, if_neg (by omega), if_neg (by omega), if_neg (by omega), if_neg (by omega), if_pos ⟨rfl, rfl⟩]
      · rw [f2 _ 2 (by unfold w_X12_hull; omega), ea _ 2 (by omega) (by omega) (by omega), bg, k0, if_neg (by omega), if_neg (by omega), if_neg (by omega), if_pos ⟨rfl, rfl⟩]
      · rw [f2 _ 3 (by unfold w_X12_hull; omega), ea _ 3 (by omega) (by omega) (by omega), bg, k0, if_neg (by omega), if_neg (by omega), if_pos ⟨rfl, rfl⟩]
      · rw [f2 _ 4 (by unfold w_X12_hull; omega), ea _ 4 (by omega) (by omega) (by omega), bg, k0, if_neg (by omega), if_pos ⟨rfl, rfl⟩]
      · rw [f2 _ 9 (by unfold w_X12_hull; omega), ea _ 9 (by omega) (by omega) (by omega), bg, k0, if_pos ⟨rfl, rfl⟩]
      · rw [ra 189 _ (by decide) (by omega), e2, if_neg (by omega), if_neg (by omega), if_neg (by omega), if_neg (by omega), if_neg (by omega), if_pos ⟨rfl, rfl⟩]
      · rw [ra 190 _ (by decide) (by omega), e2, if_neg (by omega), if_neg (by omega), if_neg (by omega), if_neg (by omega), if_pos ⟨rfl, rfl⟩]
      · rw [ra 191 _ (by decide) (by omega), e2, if_neg (by omega), if_neg (by omega), if_neg (by omega), if_pos ⟨rfl, rfl⟩]
      · rw [ra 192 _ (by decide) (by omega), e2, if_neg (by omega), if_neg (by omega), if_pos ⟨rfl, rfl⟩]
      · rw [ra 193 _ (by decide) (by omega), e2, if_neg (by omega), if_pos ⟨rfl, rfl⟩]
      · rw [ra 198 _ (by decide) (by omega), e2, if_pos ⟨rfl, rfl⟩]
      · omega
  have t10 : ∀ i : Int, 36 ≤ i → i ≤ 83 → g2 i 10 = h i 10 := by
    intro i p1 p2
    rw [f2 i 10 (by unfold w_X12_hull; omega)]
    rcases p with ⟨c, e⟩ | ⟨c, e⟩ | ⟨c, e⟩ | ⟨c, cx, e⟩
    · exact e i 10 (by omega) (by omega)
    · exact e i 10 (by omega) (by omega)
    · exact e i 10 (by omega) (by omega)
    · rw [e i 10 (by omega) (by omega)]; rw [jup_ne (by omega)]; unfold jBgn; rw [jup_ne (by omega), jup_ne (by omega), jup_ne (by omega), jup_ne (by omega), jup_ne (by omega), jup_ne (by omega)]
  have t9 : jS9 g2 := by
    have e0 : g2 176 0 = h 176 0 := (f2 176 0 (by unfold w_X12_hull; omega)).trans (f1 176 0 (by unfold w_X11_hull; omega))
    have e9 : ∀ k : Int, g1 198 k = h 198 k := fun k => f1 198 k (by unfold w_X11_hull; omega)
    rcases q with ⟨d, r⟩ | ⟨d, r⟩ | ⟨d, r⟩ | ⟨d, dx, r⟩
    · exact jS9_fr (fun k _ _ => (r 198 k (by decide)).trans (e9 k)) e0 s18
    · exact jS9_fr (fun k _ _ => (r 198 k (by decide)).trans (e9 k)) e0 s18
    · exact jS9_fr (fun k _ _ => (r 198 k (by decide)).trans (e9 k)) e0 s18
    · intro k a b
      rw [r 198 k (by decide), e0, jup_ne (by omega)]
      by_cases z : k = g1 176 14
      · rw [z, jup_eq]; exact Or.inl rfl
      · rw [jup_ne (by omega), jup_ne (by omega), jup_ne (by omega), jup_ne (by omega), jup_ne (by omega), jup_ne (by omega), e9]; exact s18 k a b
  try clear p
  try clear q
  exact ⟨key.1, jSm_fr (fun t => ((f2 3 t (by unfold w_X12_hull; omega)).trans (f1 3 t (by unfold w_X11_hull; omega)))) (fun t => ((f2 177 t (by unfold w_X12_hull; omega)).trans (f1 177 t (by unfold w_X11_hull; omega)))) s0, jSm_fr (fun t => ((f2 4 t (by unfold w_X12_hull; omega)).trans (f1 4 t (by unfold w_X11_hull; omega)))) (fun t => ((f2 178 t (by unfold w_X12_hull; omega)).trans (f1 178 t (by unfold w_X11_hull; omega)))) s1, jSm_fr (fun t => ((f2 10 t (by unfold w_X12_hull; omega)).trans (f1 10 t (by unfold w_X11_hull; omega)))) (fun t => ((f2 179 t (by unfold w_X12_hull; omega)).trans (f1 179 t (by unfold w_X11_hull; omega)))) s2, jSm_fr (fun t => ((f2 90 t (by unfold w_X12_hull; omega)).trans (f1 90 t (by unfold w_X11_hull; omega)))) (fun t => ((f2 204 t (by unfold w_X12_hull; omega)).trans (f1 204 t (by unfold w_X11_hull; omega)))) s3, jSm_fr (fun t => ((f2 92 t (by unfold w_X12_hull; omega)).trans (f1 92 t (by unfold w_X11_hull; omega)))) (fun t => ((f2 210 t (by unfold w_X12_hull; omega)).trans (f1 210 t (by unfold w_X11_hull; omega)))) s4, jT6_fr (fun i k p1 p2 => ((f2 i k (by unfold w_X12_hull; omega)).trans (f1 i k (by unfold w_X11_hull; omega)))) (fun k => ((f2 187 k (by unfold w_X12_hull; omega)).trans (f1 187 k (by unfold w_X11_hull; omega)))) s5, jTN_fr (fun i k p1 p2 => ((f2 i k (by unfold w_X12_hull; omega)).trans (f1 i k (by unfold w_X11_hull; omega)))) (fun k => ((f2 188 k (by unfold w_X12_hull; omega)).trans (f1 188 k (by unfold w_X11_hull; omega)))) s6, key.2.1, (((f2 84 0 (by unfold w_X12_hull; omega)).trans (f1 84 0 (by unfold w_X11_hull; omega))).trans s8).trans ((f2 176 34 (by unfold w_X12_hull; omega)).trans (f1 176 34 (by unfold w_X11_hull; omega))).symm, (((f2 11 0 (by unfold w_X12_hull; omega)).trans (f1 11 0 (by unfold w_X11_hull; omega))).trans s9).trans ((f2 176 6 (by unfold w_X12_hull; omega)).trans (f1 176 6 (by unfold w_X11_hull; omega))).symm, (((f2 0 0 (by unfold w_X12_hull; omega)).trans (f1 0 0 (by unfold w_X11_hull; omega))).trans s10).trans ((f2 176 0 (by unfold w_X12_hull; omega)).trans (f1 176 0 (by unfold w_X11_hull; omega))).symm, jRo_fr (fun i k p1 p2 => ((f2 i k (by unfold w_X12_hull; omega)).trans (f1 i k (by unfold w_X11_hull; omega)))) (fun k => ((f2 180 k (by unfold w_X12_hull; omega)).trans (f1 180 k (by unfold w_X11_hull; omega)))) s11, jDe_fr (fun i k p1 p2 => ((f2 i k (by unfold w_X12_hull; omega)).trans (f1 i k (by unfold w_X11_hull; omega)))) ((f2 11 0 (by unfold w_X12_hull; omega)).trans (f1 11 0 (by unfold w_X11_hull; omega))) (fun i k p1 p2 => ((f2 i k (by unfold w_X12_hull; omega)).trans (f1 i k (by unfold w_X11_hull; omega)))) ((f2 176 6 (by unfold w_X12_hull; omega)).trans (f1 176 6 (by unfold w_X11_hull; omega))) s12, jTC_fr (fun i k p1 p2 => ((f2 i k (by unfold w_X12_hull; omega)).trans (f1 i k (by unfold w_X11_hull; omega)))) (fun k => ((f2 186 k (by unfold w_X12_hull; omega)).trans (f1 186 k (by unfold w_X11_hull; omega)))) s13, key.2.2, jLe_fr ((f2 101 0 (by unfold w_X12_hull; omega)).trans (f1 101 0 (by unfold w_X11_hull; omega))) (fun i k p1 p2 => ((f2 i k (by unfold w_X12_hull; omega)).trans (f1 i k (by unfold w_X11_hull; omega)))) ((f2 176 45 (by unfold w_X12_hull; omega)).trans (f1 176 45 (by unfold w_X11_hull; omega))) (fun i k p1 p2 => ((f2 i k (by unfold w_X12_hull; omega)).trans (f1 i k (by unfold w_X11_hull; omega)))) s15, jGv_fr (fun i k p1 p2 => ((f2 i k (by unfold w_X12_hull; omega)).trans (f1 i k (by unfold w_X11_hull; omega)))) (fun i k p1 p2 => ((f2 i k (by unfold w_X12_hull; omega)).trans (f1 i k (by unfold w_X11_hull; omega)))) ((f2 176 34 (by unfold w_X12_hull; omega)).trans (f1 176 34 (by unfold w_X11_hull; omega))) ((f2 176 0 (by unfold w_X12_hull; omega)).trans (f1 176 0 (by unfold w_X11_hull; omega))) (fun i k p1 p2 => ((f2 i k (by unfold w_X12_hull; omega)).trans (f1 i k (by unfold w_X11_hull; omega)))) (fun i k p1 p2 => ((f2 i k (by unfold w_X12_hull; omega)).trans (f1 i k (by unfold w_X11_hull; omega)))) t10 (fun k => ((f2 201 k (by unfold w_X12_hull; omega)).trans (f1 201 k (by unfold w_X11_hull; omega)))) s16, (A7 key.1), t9⟩
