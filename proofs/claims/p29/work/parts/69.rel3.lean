set_option maxHeartbeats 4000000 in
theorem pr_breakUp {h g1 g2 : JH} {a1 x y : Int} (f1 : jfr w_X11_breakUp h g1) (f2 : jfr w_X12_breakUp g1 g2) (p : P_X11_breakUp a1 x h g1) (q : P_X12_breakUp a1 y g1 g2) (s : jI h) (h16 : h 29 4 ≤ 16) (A7 : x = y → jAh g2) : x = y ∧ jI g2 := by
  obtain ⟨s0, s1, s2, s3, s4, s5, s6, s7, s8, s9, s10, s11, s12, s13, s14, s15, s16, s17, s18⟩ := s
  unfold P_X11_breakUp at p
  unfold P_X12_breakUp at q
  have C9 : ¬ (0 ≤ a1 ∧ a1 < 16) ∨ (h (36 + 3 * a1) 3 = h 192 a1 ∧ h (36 + 3 * a1) 1 = h 190 a1) := by
    by_cases z : 0 ≤ a1 ∧ a1 < 16
    · exact Or.inr ⟨(s14.1.2.2 a1 z).1.2.1, (s14.2.1 a1 z.1 z.2).1⟩
    · exact Or.inl z
  have e1 : ∀ i k : Int, 181 ≤ i → i ≤ 228 → g1 i k = h i k := fun i k p1 p2 => f1 i k (by unfold w_X11_breakUp; omega)
  have e2 : g1 176 14 = h 176 14 := f1 176 14 (by unfold w_X11_breakUp; omega)
  have e3 := e1 192 a1 (by decide) (by decide); have e4 := e1 190 a1 (by decide) (by decide)
  have k9 : h 29 4 = h 176 14 := s7
  have H16 := h16
  have key : x = y ∧ jYd2 g2 g2 := by
    rcases p with ⟨c, e⟩ | ⟨c, e⟩ | ⟨c, cx, e⟩ <;> rcases q with ⟨d, r⟩ | ⟨d, r⟩ | ⟨d, dx, r⟩
    · exact ⟨by omega, jYd2_fr (fun i k w => by unfold jwy at w; exact (r i k (by omega)).trans (e i k (by omega) (by omega))) (fun i k w => by unfold jmy at w; exact (r i k (by omega)).trans (e i k (by omega) (by omega))) s14⟩
    · exfalso; omega
    · exfalso; omega
    · exfalso; omega
    · exact ⟨by omega, jYd2_fr (fun i k w => by unfold jwy at w; exact (r i k (by omega)).trans (e i k (by omega) (by omega))) (fun i k w => by unfold jmy at w; exact (r i k (by omega)).trans (e i k (by omega) (by omega))) s14⟩
    · exfalso; omega
    · exfalso; omega
    · exfalso; omega
    · have k0 : h 29 4 = h 176 14 := s7
      obtain ⟨Yb, Yx⟩ := jY_bk (hc := h) (hm := g1) (k := a1) (by omega) (by omega) (by omega) (jYd2_fr (fun i k w => rfl) (fun i k w => by unfold jmy at w; exact f1 i k (by unfold w_X11_breakUp; omega)) s14)
      refine ⟨by rw [cx, dx]; exact Yx, jYd2_fr (fun i k w => ?_) (fun i k w => ?_) Yb⟩
      · unfold jwy at w; rw [f2 i k (by unfold w_X12_breakUp; omega)]; exact e i k (by omega) (by omega)
      · unfold jmy at w; exact r i k (by omega)
  have t10 : ∀ i : Int, 36 ≤ i → i ≤ 83 → g2 i 10 = h i 10 := by
    intro i p1 p2
    rw [f2 i 10 (by unfold w_X12_breakUp; omega)]
    rcases p with ⟨c, e⟩ | ⟨c, e⟩ | ⟨c, cx, e⟩
    · exact e i 10 (by omega) (by omega)
    · exact e i 10 (by omega) (by omega)
    · rw [e i 10 (by omega) (by omega)]; rw [(jBk_r (by omega) 6).2 i 10 (by omega)]; exact jup_ne (by omega)
  try clear p
  try clear q
  exact ⟨key.1, jSm_fr (fun t => ((f2 3 t (by unfold w_X12_breakUp; omega)).trans (f1 3 t (by unfold w_X11_breakUp; omega)))) (fun t => ((f2 177 t (by unfold w_X12_breakUp; omega)).trans (f1 177 t (by unfold w_X11_breakUp; omega)))) s0, jSm_fr (fun t => ((f2 4 t (by unfold w_X12_breakUp; omega)).trans (f1 4 t (by unfold w_X11_breakUp; omega)))) (fun t => ((f2 178 t (by unfold w_X12_breakUp; omega)).trans (f1 178 t (by unfold w_X11_breakUp; omega)))) s1, jSm_fr (fun t => ((f2 10 t (by unfold w_X12_breakUp; omega)).trans (f1 10 t (by unfold w_X11_breakUp; omega)))) (fun t => ((f2 179 t (by unfold w_X12_breakUp; omega)).trans (f1 179 t (by unfold w_X11_breakUp; omega)))) s2, jSm_fr (fun t => ((f2 90 t (by unfold w_X12_breakUp; omega)).trans (f1 90 t (by unfold w_X11_breakUp; omega)))) (fun t => ((f2 204 t (by unfold w_X12_breakUp; omega)).trans (f1 204 t (by unfold w_X11_breakUp; omega)))) s3, jSm_fr (fun t => ((f2 92 t (by unfold w_X12_breakUp; omega)).trans (f1 92 t (by unfold w_X11_breakUp; omega)))) (fun t => ((f2 210 t (by unfold w_X12_breakUp; omega)).trans (f1 210 t (by unfold w_X11_breakUp; omega)))) s4, jT6_fr (fun i k p1 p2 => ((f2 i k (by unfold w_X12_breakUp; omega)).trans (f1 i k (by unfold w_X11_breakUp; omega)))) (fun k => ((f2 187 k (by unfold w_X12_breakUp; omega)).trans (f1 187 k (by unfold w_X11_breakUp; omega)))) s5, jTN_fr (fun i k p1 p2 => ((f2 i k (by unfold w_X12_breakUp; omega)).trans (f1 i k (by unfold w_X11_breakUp; omega)))) (fun k => ((f2 188 k (by unfold w_X12_breakUp; omega)).trans (f1 188 k (by unfold w_X11_breakUp; omega)))) s6, (((f2 29 4 (by unfold w_X12_breakUp; omega)).trans (f1 29 4 (by unfold w_X11_breakUp; omega))).trans s7).trans ((f2 176 14 (by unfold w_X12_breakUp; omega)).trans (f1 176 14 (by unfold w_X11_breakUp; omega))).symm, (((f2 84 0 (by unfold w_X12_breakUp; omega)).trans (f1 84 0 (by unfold w_X11_breakUp; omega))).trans s8).trans ((f2 176 34 (by unfold w_X12_breakUp; omega)).trans (f1 176 34 (by unfold w_X11_breakUp; omega))).symm, (((f2 11 0 (by unfold w_X12_breakUp; omega)).trans (f1 11 0 (by unfold w_X11_breakUp; omega))).trans s9).trans ((f2 176 6 (by unfold w_X12_breakUp; omega)).trans (f1 176 6 (by unfold w_X11_breakUp; omega))).symm, (((f2 0 0 (by unfold w_X12_breakUp; omega)).trans (f1 0 0 (by unfold w_X11_breakUp; omega))).trans s10).trans ((f2 176 0 (by unfold w_X12_breakUp; omega)).trans (f1 176 0 (by unfold w_X11_breakUp; omega))).symm, jRo_fr (fun i k p1 p2 => ((f2 i k (by unfold w_X12_breakUp; omega)).trans (f1 i k (by unfold w_X11_breakUp; omega)))) (fun k => ((f2 180 k (by unfold w_X12_breakUp; omega)).trans (f1 180 k (by unfold w_X11_breakUp; omega)))) s11, jDe_fr (fun i k p1 p2 => ((f2 i k (by unfold w_X12_breakUp; omega)).trans (f1 i k (by unfold w_X11_breakUp; omega)))) ((f2 11 0 (by unfold w_X12_breakUp; omega)).trans (f1 11 0 (by unfold w_X11_breakUp; omega))) (fun i k p1 p2 => ((f2 i k (by unfold w_X12_breakUp; omega)).trans (f1 i k (by unfold w_X11_breakUp; omega)))) ((f2 176 6 (by unfold w_X12_breakUp; omega)).trans (f1 176 6 (by unfold w_X11_breakUp; omega))) s12, jTC_fr (fun i k p1 p2 => ((f2 i k (by unfold w_X12_breakUp; omega)).trans (f1 i k (by unfold w_X11_breakUp; omega)))) (fun k => ((f2 186 k (by unfold w_X12_breakUp; omega)).trans (f1 186 k (by unfold w_X11_breakUp; omega)))) s13, key.2, jLe_fr ((f2 101 0 (by unfold w_X12_breakUp; omega)).trans (f1 101 0 (by unfold w_X11_breakUp; omega))) (fun i k p1 p2 => ((f2 i k (by unfold w_X12_breakUp; omega)).trans (f1 i k (by unfold w_X11_breakUp; omega)))) ((f2 176 45 (by unfold w_X12_breakUp; omega)).trans (f1 176 45 (by unfold w_X11_breakUp; omega))) (fun i k p1 p2 => ((f2 i k (by unfold w_X12_breakUp; omega)).trans (f1 i k (by unfold w_X11_breakUp; omega)))) s15, jGv_fr (fun i k p1 p2 => ((f2 i k (by unfold w_X12_breakUp; omega)).trans (f1 i k (by unfold w_X11_breakUp; omega)))) (fun i k p1 p2 => ((f2 i k (by unfold w_X12_breakUp; omega)).trans (f1 i k (by unfold w_X11_breakUp; omega)))) ((f2 176 34 (by unfold w_X12_breakUp; omega)).trans (f1 176 34 (by unfold w_X11_breakUp; omega))) ((f2 176 0 (by unfold w_X12_breakUp; omega)).trans (f1 176 0 (by unfold w_X11_breakUp; omega))) (fun i k p1 p2 => ((f2 i k (by unfold w_X12_breakUp; omega)).trans (f1 i k (by unfold w_X11_breakUp; omega)))) (fun i k p1 p2 => ((f2 i k (by unfold w_X12_breakUp; omega)).trans (f1 i k (by unfold w_X11_breakUp; omega)))) t10 (fun k => ((f2 201 k (by unfold w_X12_breakUp; omega)).trans (f1 201 k (by unfold w_X11_breakUp; omega)))) s16, (A7 key.1), jS9_fr (fun k p1 p2 => ((f2 198 k (by unfold w_X12_breakUp; omega)).trans (f1 198 k (by unfold w_X11_breakUp; omega)))) ((f2 176 0 (by unfold w_X12_breakUp; omega)).trans (f1 176 0 (by unfold w_X11_breakUp; omega))) s18⟩
set_option maxHeartbeats 4000000 in
theorem pr_count {h g1 g2 : JH} {a1 a2 x y : Int} (f1 : jfr w_X11_count h g1) (f2 : jfr w_X12_count g1 g2) (p : P_X11_count a1 a2 x h g1) (q : P_X12_count a1 a2 y g1 g2) (s : jI h) (hl : 0 ≤ h 101 0) (A7 : x = y → jAh g2) : x = y ∧ jI g2 := by
  obtain ⟨s0, s1, s2, s3, s4, s5, s6, s7, s8, s9, s10, s11, s12, s13, s14, s15, s16, s17, s18⟩ := s
  unfold P_X11_count at p
  unfold P_X12_count at q
  have B9 : ¬ (0 ≤ a1 ∧ a1 < 6) ∨ (h 30 a1 = h 181 a1 ∧ 0 ≤ h 181 a1 ∧ h 181 a1 ≤ 1000000) := by
    by_cases z : 0 ≤ a1 ∧ a1 < 6
    · exact Or.inr (s14.1.1 a1 z.1 z.2)
    · exact Or.inl z
  have e1 : ∀ i k : Int, 181 ≤ i → i ≤ 228 → g1 i k = h i k := fun i k p1 p2 => f1 i k (by unfold w_X11_count; omega)
  have e2 : g1 176 14 = h 176 14 := f1 176 14 (by unfold w_X11_count; omega)
  have e3 := e1 181 a1 (by decide) (by decide); have e4 : g1 176 45 = h 176 45 := f1 176 45 (by unfold w_X11_count; omega); have e5 : g1 176 0 = h 176 0 := f1 176 0 (by unfold w_X11_count; omega)
  have L0 := s15.1
  have hl0 := hl
  have key : x = y ∧ jYd2 g2 g2 ∧ jLe g2 := by
    rcases p with ⟨c, e⟩ | ⟨c, e⟩ | ⟨c, e⟩ | ⟨c, cx, e⟩ <;> rcases q with ⟨d, r⟩ | ⟨d, r⟩ | ⟨d, r⟩ | ⟨d, dx, r⟩
    · exact ⟨by omega, jYd2_fr (fun i k w => by unfold jwy at w; exact (r i k (by omega)).trans (e i k (by omega) (by omega))) (fun i k w => by unfold jmy at w; exact (r i k (by omega)).trans (e i k (by omega) (by omega))) s14, jLe_fr ((r 101 0 (by decide)).trans (e 101 0 (by decide) (by decide))) (fun i k p1 p2 => (r i k (by omega)).trans (e i k (by omega) (by omega))) ((r 176 45 (by decide)).trans (e 176 45 (by decide) (by decide))) (fun i k p1 p2 => (r i k (by omega)).trans (e i k (by omega) (by omega))) s15⟩
    · exfalso; omega
    · exfalso; omega
    · exfalso; omega
    · exfalso; omega
    · exact ⟨by omega, jYd2_fr (fun i k w => by unfold jwy at w; exact (r i k (by omega)).trans (e i k (by omega) (by omega))) (fun i k w => by unfold jmy at w; exact (r i k (by omega)).trans (e i k (by omega) (by omega))) s14, jLe_fr ((r 101 0 (by decide)).trans (e 101 0 (by decide) (by decide))) (fun i k p1 p2 => (r i k (by omega)).trans (e i k (by omega) (by omega))) ((r 176 45 (by decide)).trans (e 176 45 (by decide) (by decide))) (fun i k p1 p2 => (r i k (by omega)).trans (e i k (by omega) (by omega))) s15⟩
    · exfalso; omega
    · exfalso; omega
    · exfalso; omega
    · exfalso; omega
    · exact ⟨by omega, jYd2_fr (fun i k w => by unfold jwy at w; exact (r i k (by omega)).trans (e i k (by omega) (by omega))) (fun i k w => by unfold jmy at w; exact (r i k (by omega)).trans (e i k (by omega) (by omega))) s14, jLe_fr ((r 101 0 (by decide)).trans (e 101 0 (by decide) (by decide))) (fun i k p1 p2 => (r i k (by omega)).trans (e i k (by omega) (by omega))) ((r 176 45 (by decide)).trans (e 176 45 (by decide) (by decide))) (fun i k p1 p2 => (r i k (by omega)).trans (e i k (by omega) (by omega))) s15⟩
    · exfalso; omega
    · exfalso; omega
    · exfalso; omega
    · exfalso; omega
    · have ev : jw32 (h 30 a1 - a2) = jw32 (g1 181 a1 - a2) := by rw [e3]; rcases B9 with z | z; omega; rw [z.1]
      have ec : ∀ i k : Int, ¬ i = 1 → ¬ i = 111 → ¬ i = 30 → ¬ (102 ≤ i ∧ i ≤ 105 ∧ k = h 101 0) → ¬ (i = 101 ∧ k = 0) → g1 i k = h i k := fun i k p1 p2 p3 p4 p5 => by rw [e i k p1 p2, jup_ne (by omega), jup_ne (by omega), jup_ne (by omega), jup_ne (by omega), jup_ne (by omega), jup_ne (by omega)]
      have rc : ∀ i k : Int, ¬ i = 219 → ¬ i = 181 → ¬ (215 ≤ i ∧ i ≤ 218 ∧ k = g1 176 45) → ¬ (i = 176 ∧ k = 45) → g2 i k = g1 i k := fun i k p1 p3 p4 p5 => by rw [r i k p1, jup_ne (by omega), jup_ne (by omega), jup_ne (by omega), jup_ne (by omega), jup_ne (by omega), jup_ne (by omega)]
      have lb : ∀ n : Nat, (n : Int) ≤ h 101 0 → jLb (h 102) (h 103) a1 n = jLb (g1 215) (g1 216) a1 n := by
        intro n
        induction n with
        | zero => intro _; rfl
        | succ n ih =>
            intro hn
            have i1 := ih (by omega); have l := s15.2 n (by omega) (by omega)
            show (if h 102 n = a1 then h 103 n else jLb (h 102) (h 103) a1 n) = if g1 215 n = a1 then g1 216 n else jLb (g1 215) (g1 216) a1 n
            rw [i1, e1 215 n (by decide) (by decide), e1 216 n (by decide) (by decide), l.1, l.2.1]
      refine ⟨by omega, jY_st (hc := h) (hm := h) (fun i k w z => ?_) (fun i k w z => ?_) (fun g a b => ?_) s14, ?_, fun i a b => ?_⟩
      · unfold jwy at w; rw [rc i k (by omega) (by omega) (by omega) (by omega)]; exact ec i k (by omega) (by omega) z (by omega) (by omega)
      · unfold jmy at w; rw [rc i k (by omega) z (by omega) (by omega)]; exact f1 i k (by unfold w_X11_count; omega)
      · rw [rc 30 g (by decide) (by decide) (by omega) (by omega), e 30 g (by decide) (by decide), jup_ne (by omega), jup_ne (by omega), jup_ne (by omega), jup_ne (by omega), jup_ne (by omega), r 181 g (by decide)]
        by_cases z : g = a1
        · rw [z, jup_eq, jup_eq]; exact ⟨rfl, by omega, by omega⟩
        · rw [jup_ne (by omega), jup_ne (by omega), jup_ne (by omega), jup_ne (by omega), jup_ne (by omega), jup_ne (by omega), jup_ne (by omega), e1 181 g (by decide) (by decide)]; exact s14.1.1 g a b
      · rw [rc 101 0 (by decide) (by decide) (by omega) (by omega), e 101 0 (by decide) (by decide), jup_eq, r 176 45 (by decide), jup_ne (by omega), jup_eq]; omega
      · have n1 : g2 101 0 = h 101 0 + 1 := by rw [rc 101 0 (by decide) (by decide) (by omega) (by omega), e 101 0 (by decide) (by decide), jup_eq]
        have cc : ∀ j : Int, 102 ≤ j → j ≤ 105 → g2 j i = g1 j i := fun j p1 p2 => rc j i (by omega) (by omega) (by omega) (by omega)
        rw [cc 102 (by decide) (by decide), cc 103 (by decide) (by decide), cc 104 (by decide) (by decide), cc 105 (by decide) (by decide)]
        by_cases z : i = h 101 0
        · have z2 : i = g1 176 45 := by omega
          have lbn := lb (h 101 0).toNat (by omega)
          rw [e 102 i (by decide) (by decide), e 103 i (by decide) (by decide), e 104 i (by decide) (by decide), e 105 i (by decide) (by decide), r 215 i (by decide), r 216 i (by decide), r 217 i (by decide), r 218 i (by decide)]
          refine ⟨?_, ?_, ?_, ?_⟩
          · rw [jup_ne (by omega), jup_ne (by omega), jup_ne (by omega), jup_ne (by omega), z, jup_eq, ← z, jup_ne (by omega), jup_ne (by omega), jup_ne (by omega), jup_ne (by omega), jup_ne (by omega), z2, jup_eq]
          · rw [jup_ne (by omega), jup_ne (by omega), jup_ne (by omega), z, jup_eq, ← z, jup_ne (by omega), jup_ne (by omega), jup_ne (by omega), jup_ne (by omega), z2, jup_eq, e5]; exact s10
          · rw [jup_ne (by omega), jup_ne (by omega), z, jup_eq, ← z, jup_ne (by omega), jup_ne (by omega), jup_ne (by omega), z2, jup_eq]; exact ev
          · rw [jup_ne (by omega), z, jup_eq, ← z, jup_ne (by omega), jup_ne (by omega), z2, jup_eq, show g1 176 45 = h 101 0 by omega]; exact lbn
        · have l := s15.2 i a (by omega)
          have mm : ∀ j : Int, 215 ≤ j → j ≤ 218 → g2 j i = h j i := fun j p1 p2 => (rc j i (by omega) (by omega) (by omega) (by omega)).trans (e1 j i (by omega) (by omega))
          have ch : ∀ j : Int, 102 ≤ j → j ≤ 105 → g1 j i = h j i := fun j p1 p2 => ec j i (by omega) (by omega) (by omega) (by omega) (by omega)
          rw [ch 102 (by decide) (by decide), ch 103 (by decide) (by decide), ch 104 (by decide) (by decide), ch 105 (by decide) (by decide), mm 215 (by decide) (by decide), mm 216 (by decide) (by decide), mm 217 (by decide) (by decide), mm 218 (by decide) (by decide)]; exact l
  try clear p
  try clear q
  exact ⟨key.1, jSm_fr (fun t => ((f2 3 t (by unfold w_X12_count; omega)).trans (f1 3 t (by unfold w_X11_count; omega)))) (fun t => ((f2 177 t (by unfold w_X12_count; omega)).trans (f1 177 t (by unfold w_X11_count; omega)))) s0, jSm_fr (fun t => ((f2 4 t (by unfold w_X12_count; omega)).trans (f1 4 t (by unfold w_X11_count; omega)))) (fun t => ((f2 178 t (by unfold w_X12_count; omega)).trans (f1 178 t (by unfold w_X11_count; omega)))) s1, jSm_fr (fun t => ((f2 10 t (by unfold w_X12_count; omega)).trans (f1 10 t (by unfold w_X11_count; omega)))) (fun t => ((f2 179 t (by unfold w_X12_count; omega)).trans (f1 179 t (by unfold w_X11_count; omega)))) s2, jSm_fr (fun t => ((f2 90 t (by unfold w_X12_count; omega)).trans (f1 90 t (by unfold w_X11_count; omega)))) (fun t => ((f2 204 t (by unfold w_X12_count; omega)).trans (f1 204 t (by unfold w_X11_count; omega)))) s3, jSm_fr (fun t => ((f2 92 t (by unfold w_X12_count; omega)).trans (f1 92 t (by unfold w_X11_count; omega)))) (fun t => ((f2 210 t (by unfold w_X12_count; omega)).trans (f1 210 t (by unfold w_X11_count; omega)))) s4, jT6_fr (fun i k p1 p2 => ((f2 i k (by unfold w_X12_count; omega)).trans (f1 i k (by unfold w_X11_count; omega)))) (fun k => ((f2 187 k (by unfold w_X12_count; omega)).trans (f1 187 k (by unfold w_X11_count; omega)))) s5, jTN_fr (fun i k p1 p2 => ((f2 i k (by unfold w_X12_count; omega)).trans (f1 i k (by unfold w_X11_count; omega)))) (fun k => ((f2 188 k (by unfold w_X12_count; omega)).trans (f1 188 k (by unfold w_X11_count; omega)))) s6, (((f2 29 4 (by unfold w_X12_count; omega)).trans (f1 29 4 (by unfold w_X11_count; omega))).trans s7).trans ((f2 176 14 (by unfold w_X12_count; omega)).trans (f1 176 14 (by unfold w_X11_count; omega))).symm, (((f2 84 0 (by unfold w_X12_count; omega)).trans (f1 84 0 (by unfold w_X11_count; omega))).trans s8).trans ((f2 176 34 (by unfold w_X12_count; omega)).trans (f1 176 34 (by unfold w_X11_count; omega))).symm, (((f2 11 0 (by unfold w_X12_count; omega)).trans (f1 11 0 (by unfold w_X11_count; omega))).trans s9).trans ((f2 176 6 (by unfold w_X12_count; omega)).trans (f1 176 6 (by unfold w_X11_count; omega))).symm, (((f2 0 0 (by unfold w_X12_count; omega)).trans (f1 0 0 (by unfold w_X11_count; omega))).trans s10).trans ((f2 176 0 (by unfold w_X12_count; omega)).trans (f1 176 0 (by unfold w_X11_count; omega))).symm, jRo_fr (fun i k p1 p2 => ((f2 i k (by unfold w_X12_count; omega)).trans (f1 i k (by unfold w_X11_count; omega)))) (fun k => ((f2 180 k (by unfold w_X12_count; omega)).trans (f1 180 k (by unfold w_X11_count; omega)))) s11, jDe_fr (fun i k p1 p2 => ((f2 i k (by unfold w_X12_count; omega)).trans (f1 i k (by unfold w_X11_count; omega)))) ((f2 11 0 (by unfold w_X12_count; omega)).trans (f1 11 0 (by unfold w_X11_count; omega))) (fun i k p1 p2 => ((f2 i k (by unfold w_X12_count; omega)).trans (f1 i k (by unfold w_X11_count; omega)))) ((f2 176 6 (by unfold w_X12_count; omega)).trans (f1 176 6 (by unfold w_X11_count; omega))) s12, jTC_fr (fun i k p1 p2 => ((f2 i k (by unfold w_X12_count; omega)).trans (f1 i k (by unfold w_X11_count; omega)))) (fun k => ((f2 186 k (by unfold w_X12_count; omega)).trans (f1 186 k (by unfold w_X11_count; omega)))) s13, key.2.1, key.2.2, jGv_fr (fun i k p1 p2 => ((f2 i k (by unfold w_X12_count; omega)).trans (f1 i k (by unfold w_X11_count; omega)))) (fun i k p1 p2 => ((f2 i k (by unfold w_X12_count; omega)).trans (f1 i k (by unfold w_X11_count; omega)))) ((f2 176 34 (by unfold w_X12_count; omega)).trans (f1 176 34 (by unfold w_X11_count; omega))) ((f2 176 0 (by unfold w_X12_count; omega)).trans (f1 176 0 (by unfold w_X11_count; omega))) (fun i k p1 p2 => ((f2 i k (by unfold w_X12_count; omega)).trans (f1 i k (by unfold w_X11_count; omega)))) (fun i k p1 p2 => ((f2 i k (by unfold w_X12_count; omega)).trans (f1 i k (by unfold w_X11_count; omega)))) (fun i p1 p2 => ((f2 i 10 (by unfold w_X12_count; omega)).trans (f1 i 10 (by unfold w_X11_count; omega)))) (fun k => ((f2 201 k (by unfold w_X12_count; omega)).trans (f1 201 k (by unfold w_X11_count; omega)))) s16, (A7 key.1), jS9_fr (fun k p1 p2 => ((f2 198 k (by unfold w_X12_count; omega)).trans (f1 198 k (by unfold w_X11_count; omega)))) ((f2 176 0 (by unfold w_X12_count; omega)).trans (f1 176 0 (by unfold w_X11_count; omega))) s18⟩
theorem pr_stock {h g1 g2 : JH} {a1 x y : Int} (f1 : jfr w_X11_stock h g1) (f2 : jfr w_X12_stock g1 g2) (p : P_X11_stock a1 x h) (q : P_X12_stock a1 y g1) (s : jI h) : x = y ∧ jI g2 := by
  refine ⟨?_, pf_stock f1 f2 s⟩
  obtain ⟨s0, s1, s2, s3, s4, s5, s6, s7, s8, s9, s10, s11, s12, s13, s14, s15, s16, s17, s18⟩ := s
  unfold P_X11_stock at p
  unfold P_X12_stock at q
  have e := f1 181 a1 (by unfold w_X11_stock; omega)
  rcases p with p | p <;> rcases q with q | q <;> first
    | omega
    | (have z := s14.1.1 a1 p.1.1 p.1.2; have e9 : h (29 + 1) a1 = h 30 a1 := rfl; omega)
set_option maxHeartbeats 4000000 in
theorem pr_basinOf {h g1 g2 : JH} {a1 a2 x y : Int} (f1 : jfr w_X11_basinOf h g1) (f2 : jfr w_X12_basinOf g1 g2) (p : P_X11_basinOf a1 a2 x h) (q : P_X12_basinOf a1 a2 y g1) (s : jI h) : x = y ∧ jI g2 := by
  refine ⟨?_, pf_basinOf f1 f2 s⟩
  obtain ⟨s0, s1, s2, s3, s4, s5, s6, s7, s8, s9, s10, s11, s12, s13, s14, s15, s16, s17, s18⟩ := s
  unfold P_X11_basinOf at p
  unfold P_X12_basinOf at q
  have e2 := f1 202 a1 (by unfold w_X11_basinOf; omega)
  have e3 := f1 203 a1 (by unfold w_X11_basinOf; omega)
  rw [e2, e3] at q
  by_cases z : 0 ≤ a1 ∧ a1 < 6
  · have r := s14.1.2.1 a1 z.1 z.2
    have w := s14.2.2.1 a1 z.1 z.2
    unfold jBR at r
    have e9 : h (29 + 2) a1 = h 31 a1 := rfl
    rw [e9] at r
    clear e9 e2 e3
    by_cases y2 : h 202 a1 = 100
    · have w1 := w.1 y2
      clear w
      rcases p with p | ⟨p1, p⟩ <;> rcases q with q | ⟨q1, q⟩
      · omega
      · omega
      · omega
      · have r1 : h 31 a1 = -2 := by rcases r with r | r | r <;> omega
        clear r
        rcases p with p | p | p | p | p | p | p <;> rcases q with q | q | q | q | q | q | q | q <;> omega
    · have w1 := w.2 y2
      clear w
      rcases p with p | ⟨p1, p⟩ <;> rcases q with q | ⟨q1, q⟩
      · omega
      · omega
      · omega
      · have r1 : (h 31 a1 = -1 ∧ h 202 a1 = -1) ∨ (h 31 a1 = h 202 a1 ∧ 0 ≤ h 202 a1) := by
          rcases r with r | r | r
          · exact Or.inl r
          · omega
          · exact Or.inr ⟨r.1, r.2.1⟩
        clear r
        rcases p with p | p | p | p | p | p | p <;> rcases q with q | q | q | q | q | q | q | q <;> omega
  · rcases p with p | p <;> rcases q with q | q <;> omega
set_option maxHeartbeats 4000000 in
theorem pr_hullOf {h g1 g2 : JH} {a1 a2 x y : Int} (f1 : jfr w_X11_hullOf h g1) (f2 : jfr w_X12_hullOf g1 g2) (p : P_X11_hullOf a1 a2 x h) (q : P_X12_hullOf a1 a2 y g1) (s : jI h) : x = y ∧ jI g2 := by
  refine ⟨?_, pf_hullOf f1 f2 s⟩
  obtain ⟨s0, s1, s2, s3, s4, s5, s6, s7, s8, s9, s10, s11, s12, s13, s14, s15, s16, s17, s18⟩ := s
  unfold P_X11_hullOf at p
  unfold P_X12_hullOf at q
  have e : ∀ i k : Int, 181 ≤ i → i ≤ 218 → g1 i k = h i k := fun i k a b => f1 i k (by unfold w_X11_hullOf; omega)
  rw [e 192 a1 (by decide) (by decide), e 193 a1 (by decide) (by decide), e 197 a1 (by decide) (by decide), e 190 a1 (by decide) (by decide), e 189 a1 (by decide) (by decide), e 191 a1 (by decide) (by decide), e 198 a1 (by decide) (by decide), e 195 a1 (by decide) (by decide), e 196 a1 (by decide) (by decide), f1 176 14 (by unfold w_X11_hullOf; omega)] at q
  rcases p with p | ⟨p1, p⟩ <;> rcases q with q | ⟨q1, q⟩
  · omega
  · omega
  · omega
  · have r := s14.1.2.2 a1 ⟨p1.1, by omega⟩
    have k9 := s14.2.1 a1 p1.1 (by omega)
    unfold jHR at r
    obtain ⟨⟨r0, r3, r4, r8, r9, _⟩, _, r5, _, r6⟩ := r
    have e9 : ∀ f : Int, h (29 + 7 + 3 * a1) f = h (36 + 3 * a1) f := fun f => rfl
    rw [e9 0] at r0; rw [e9 3] at r3; rw [e9 4] at r4; rw [e9 8] at r8; rw [e9 9] at r9; rw [e9 5, e9 6, e9 7] at r5; rw [e9 6, e9 7] at r6
    by_cases z : h 192 a1 = 1
    · have r5' := r5 z
      have r7 : h (36 + 3 * a1) 6 = h 195 a1 ∧ h (36 + 3 * a1) 7 = h 196 a1 := ⟨r5'.2.1, r5'.2.2.1⟩
      clear r5 r5' r6 e9 s14 e
      rcases p with p | p | p | p | p | p | p | p | p | p | p <;> rcases q with q | q | q | q | q | q | q | q | q | q | q | q <;> omega
    · have r7 := r6 z
      clear r5 r6 e9 s14 e
      rcases p with p | p | p | p | p | p | p | p | p | p | p <;> rcases q with q | q | q | q | q | q | q | q | q | q | q | q <;> omega
theorem pr_gap {h g1 g2 : JH} {a1 a2 x y : Int} (f1 : jfr w_X11_gap h g1) (f2 : jfr w_X12_gap g1 g2) (p : P_X11_gap a1 a2 x h) (q : P_X12_gap a1 a2 y g1) (s : jI h) : x = y ∧ jI g2 := by
  refine ⟨?_, pf_gap f1 f2 s⟩
  obtain ⟨s0, s1, s2, s3, s4, s5, s6, s7, s8, s9, s10, s11, s12, s13, s14, s15, s16, s17, s18⟩ := s
  unfold P_X11_gap at p
  unfold P_X12_gap at q
  have e : ∀ i k : Int, 215 ≤ i → i ≤ 218 → g1 i k = h i k := fun i k a b => f1 i k (by unfold w_X11_gap; omega)
  rw [e 215 a1 (by decide) (by decide), e 216 a1 (by decide) (by decide), e 217 a1 (by decide) (by decide), e 218 a1 (by decide) (by decide), f1 176 45 (by unfold w_X11_gap; omega), ← s15.1] at q
  rcases p with p | ⟨p1, p⟩ <;> rcases q with q | ⟨q1, q⟩
  · omega
  · omega
  · omega
  · have l := s15.2 a1 p1.1 p1.2
    rcases p with p | p | p | p | p <;> rcases q with q | q | q | q | q <;> omega
theorem pr_worst {h g1 g2 : JH} {a1 x y : Int} (f1 : jfr w_X11_worst h g1) (f2 : jfr w_X12_worst g1 g2) (p : P_X11_worst a1 x h) (q : P_X12_worst a1 y g1) (s : jI h) (hl : 0 ≤ h 101 0) : x = y ∧ jI g2 := by
  refine ⟨?_, pf_worst f1 f2 s⟩
  obtain ⟨s0, s1, s2, s3, s4, s5, s6, s7, s8, s9, s10, s11, s12, s13, s14, s15, s16, s17, s18⟩ := s
  unfold P_X11_worst at p
  unfold P_X12_worst at q
  have e : ∀ i k : Int, 215 ≤ i → i ≤ 218 → g1 i k = h i k := fun i k a b => f1 i k (by unfold w_X11_worst; omega)
  rw [jfn (fun k => e 215 k (by decide) (by decide)), jfn (fun k => e 216 k (by decide) (by decide)), jfn (fun k => e 217 k (by decide) (by decide)), jfn (fun k => e 218 k (by decide) (by decide)), f1 176 45 (by unfold w_X11_worst; omega), ← s15.1] at q
  have c := (jWst_c (G := h 215) (D := h 216) (P := h 217) (B := h 218) (G' := h 102) (D' := h 103) (P' := h 104) (B' := h 105) (g := a1) (h 101 0).toNat (fun i a b => s15.2 i a (by omega))).1
  rcases p with p | p <;> rcases q with q | q
  · omega
  · omega
  · omega
  · rw [p.2, q.2]; exact c
set_option maxHeartbeats 4000000 in
theorem jmB_c {h g : JH} {s : Int} (e : ∀ i k : Int, 205 ≤ i → i ≤ 214 → g i k = h i k) : jmB g s = jmB h s := by
  funext t i
  unfold jmB jmft
  rw [e 205 _ (by decide) (by decide), e 206 _ (by decide) (by decide), e 207 _ (by decide) (by decide), e 208 _ (by decide) (by decide), e 210 _ (by decide) (by decide), e 211 _ (by decide) (by decide), e 212 _ (by decide) (by decide), e 213 _ (by decide) (by decide), e 214 _ (by decide) (by decide)]
set_option maxHeartbeats 4000000 in
theorem jmOv_c {h g : JH} {s : Int} (e : ∀ i k : Int, 205 ≤ i → i ≤ 214 → g i k = h i k) : jmOv g s = jmOv h s := by
  funext t i
  unfold jmOv
  rw [e 207 _ (by decide) (by decide), e 214 _ (by decide) (by decide)]
set_option maxHeartbeats 4000000 in
theorem jGv_op {h : JH} {s : Int} (G : jGv h) (e8 : h 84 0 = h 176 34) (e4 : jSm 92 210 3 h) (hs : 0 ≤ s ∧ s < 3) (hT : h 84 0 ≤ 40) {d : Nat → Nat} (op : jOp (jcA h s) (jcO h s) (h 84 0).toNat d) : jOp (jmB h s) (jmOv h s) (h 176 34).toNat d ∧ jcs (jmOv h s) d = jcs (jcO h s) d := by
  obtain ⟨q1, q2, q3, q4⟩ := G
  have n9 := e4 s hs.1 hs.2
  rw [← e8]
  have eA : ∀ t i : Nat, t < (h 84 0).toNat → i < 6 → jmB h s t i = jcA h s t i := fun t i a b => by
    obtain ⟨⟨r1, r2, r3, r4, r5⟩, r6⟩ := q1 t (by omega) (by omega)
    unfold jmB jcA jcft jmft
    refine decide_eq_decide.2 ?_
    by_cases z : (i : Int) < h 92 s
    · obtain ⟨w1, w2, w3, w4⟩ := q3 s i hs.1 hs.2 (by omega) z
      rw [r1, r2, r3, w1, w2, w3, w4]
      constructor
      · rintro ⟨y1, y2, y3, y4, y5, y6, y7⟩
        exact ⟨by omega, z, y4, y7, y5, y6⟩
      · rintro ⟨y1, y2, y3, y4, y5, y6⟩
        exact ⟨by omega, by omega, by omega, y3, y5, y6, y4⟩
    · constructor
      · rintro ⟨y1, y2, _⟩; exact absurd (show (i : Int) < h 92 s by omega) z
      · rintro ⟨y1, y2, _⟩; exact absurd y2 z
  have eO : ∀ t i : Nat, t < (h 84 0).toNat → i < 6 → jcA h s t i = true → jmOv h s t i = jcO h s t i := fun t i a b c => by
    have z := (of_decide_eq_true c).2.1
    obtain ⟨⟨r1, r2, r3, r4, r5⟩, r6⟩ := q1 t (by omega) (by omega)
    obtain ⟨w1, w2, w3, w4⟩ := q3 s i hs.1 hs.2 (by omega) z
    unfold jmOv jcO
    rw [r3, w4]
  refine ⟨jOp_c eA eO op, jsg_c 6 (fun i hi => ?_)⟩
  show (if d i = 40 then 0 else jmOv h s (d i) i) = (if d i = 40 then 0 else jcO h s (d i) i)
  rcases op.1.1 i hi with z | z
  · rw [if_pos z, if_pos z]
  · rw [eO _ _ z.1 hi z.2]
set_option maxHeartbeats 4000000 in
theorem jGv_5 {h : JH} (G : jGv h) (e8 : h 84 0 = h 176 34) (e10 : h 0 0 = h 176 0) (hT : h 84 0 ≤ 40) (hd : h 0 0 ≤ 2000) : jM5 h := fun t a b => by
  have r := (G.1 t a (by omega)).1.2.2.1
  have w := (G.2.1 t a (by omega)).2
  omega
set_option maxHeartbeats 4000000 in
theorem jI_7 {h : JH} (s : jI h) (hd : h 176 0 ≤ 2000) : jM7 h := by
  obtain ⟨s0, s1, s2, s3, s4, s5, s6, s7, s8, s9, s10, s11, s12, s13, s14, s15, s16, s17, s18⟩ := s
  exact jG9_7 s16.2.1 hd
set_option maxHeartbeats 4000000 in
theorem jM7_fr {h g : JH} (e : ∀ t : Int, g 207 t = h 207 t) (q : jM7 h) : jM7 g := fun t a b => by rw [e]; exact q t a b
set_option maxHeartbeats 4000000 in
theorem pr_match {h g1 g2 : JH} {a1 a2 x y : Int} (f1 : jfr w_X11_match h g1) (f2 : jfr w_X12_match g1 g2) (p : P_X11_match a1 a2 x h) (q : P_X12_match a1 a2 y g1) (s : jI h) (hT : h 84 0 ≤ 40) (hd : h 176 0 ≤ 2000) : x = y ∧ jI g2 := by
  refine ⟨?_, pf_match f1 f2 s⟩
  obtain ⟨s0, s1, s2, s3, s4, s5, s6, s7, s8, s9, s10, s11, s12, s13, s14, s15, s16, s17, s18⟩ := s
  unfold P_X11_match at p
  unfold P_X12_match at q
  have e : ∀ i k : Int, 176 ≤ i → i ≤ 228 → g1 i k = h i k := fun i k a b => f1 i k (by unfold w_X11_match; omega)
  rw [jmB_c (fun i k a b => e i k (by omega) (by omega)), jmOv_c (fun i k a b => e i k (by omega) (by omega)), e 176 34 (by decide) (by decide), e 210 a1 (by decide) (by decide)] at q
  have A5 : ¬ (0 ≤ a1 ∧ a1 < 3) ∨ h 92 a1 = h 210 a1 := by
    by_cases z : 0 ≤ a1 ∧ a1 < 3
    · exact Or.inr (s4 a1 z.1 z.2)
    · exact Or.inl z
  rcases p with p | p | ⟨p1, p2, p3, p4⟩ <;> rcases q with q | q | ⟨q1, q2, q3, q4⟩
  · omega
  · omega
  · omega
  · omega
  · omega
  · omega
  · omega
  · omega
  · obtain ⟨d, op, ex⟩ := p4 (jGv_5 s16 s8 s10 hT (by omega))
    obtain ⟨o2, ew⟩ := jGv_op s16 s8 s4 p1 hT op
    rw [ex, q4 d o2, ew]
set_option maxHeartbeats 4000000 in
theorem pr_treeOf {h g1 g2 : JH} {a1 a2 x y : Int} (f1 : jfr w_X11_treeOf h g1) (f2 : jfr w_X12_treeOf g1 g2) (p : P_X11_treeOf a1 a2 x h) (q : P_X12_treeOf a1 a2 y g1) (s : jI h) : x = y ∧ jI g2 := by
  refine ⟨?_, pf_treeOf f1 f2 s⟩
  obtain ⟨s0, s1, s2, s3, s4, s5, s6, s7, s8, s9, s10, s11, s12, s13, s14, s15, s16, s17, s18⟩ := s
  unfold P_X11_treeOf at p
  unfold P_X12_treeOf at q
  have e : ∀ i k : Int, 176 ≤ i → i ≤ 218 → g1 i k = h i k := fun i k a b => f1 i k (by unfold w_X11_treeOf; omega)
  rw [e 205 a1 (by decide) (by decide), e 206 a1 (by decide) (by decide), e 207 a1 (by decide) (by decide), e 208 a1 (by decide) (by decide), e 209 a1 (by decide) (by decide), e 176 34 (by decide) (by decide)] at q
  rcases p with p | ⟨p1, p⟩ <;> rcases q with q | ⟨q1, q⟩
  · omega
  · omega
  · omega
  · obtain ⟨⟨r1, r2, r3, r4, r5⟩, r6⟩ := s16.1 a1 p1.1 (by omega)
    rcases p with p | p | p | p | p | p <;> rcases q with q | q | q | q | q | q | q | q <;> omega
set_option maxHeartbeats 4000000 in
theorem pr_treeFor {h g1 g2 : JH} {a1 a2 x y : Int} (f1 : jfr w_X11_treeFor h g1) (f2 : jfr w_X12_treeFor g1 g2) (p : P_X11_treeFor a1 a2 x h) (q : P_X12_treeFor a1 a2 y g1) (s : jI h) : x = y ∧ jI g2 := by
  refine ⟨?_, pf_treeFor f1 f2 s⟩
  obtain ⟨s0, s1, s2, s3, s4, s5, s6, s7, s8, s9, s10, s11, s12, s13, s14, s15, s16, s17, s18⟩ := s
  unfold P_X11_treeFor at p
  unfold P_X12_treeFor at q
  have e : ∀ i k : Int, 176 ≤ i → i ≤ 218 → g1 i k = h i k := fun i k a b => f1 i k (by unfold w_X11_treeFor; omega)
  rw [jfn (fun k => e 208 k (by decide) (by decide)), jfn (fun k => e 209 k (by decide) (by decide)), e 176 34 (by decide) (by decide), e 176 14 (by decide) (by decide)] at q
  have k : ∀ a : Int, 0 ≤ a → jff (h 88) (h 89) a a2 (h 84 0).toNat = jff (h 208) (h 209) a a2 (h 176 34).toNat := fun a ha => by
    rw [s8]
    exact jff_c _ (fun t b c => by
      have r := (s16.1 t b (by omega)).2
      constructor
      · rintro ⟨y1, y2⟩; omega
      · rintro ⟨y1, y2⟩; omega)
  rcases p with p | p | p | ⟨p1, p2, p3, p4⟩ <;> rcases q with q | q | q | ⟨q1, q2, q3, q4⟩ <;> first
    | (exfalso; omega)
    | omega
    | (rw [p4, q4]; exact k a1 p1.1)
set_option maxHeartbeats 4000000 in
theorem pr_fell {h g1 g2 : JH} {a1 x y : Int} (f1 : jfr w_X11_fell h g1) (f2 : jfr w_X12_fell g1 g2) (e7 : ∀ i k : Int, 36 ≤ i → i ≤ 83 → ¬ k = 10 → g1 i k = h i k) (p : P_X11_fell a1 x h g1) (q : P_X12_fell a1 y g1 g2) (s : jI h) (hT : h 84 0 ≤ 40) (hd : h 176 0 ≤ 2000) (hst : ∀ k : Int, 0 ≤ h 192 k) (h16 : h 29 4 ≤ 16) : x = y ∧ jI g2 := by
  obtain ⟨s0, s1, s2, s3, s4, s5, s6, s7, s8, s9, s10, s11, s12, s13, s14, s15, s16, s17, s18⟩ := s
  have em : ∀ i k : Int, 176 ≤ i → i ≤ 228 → g1 i k = h i k := fun i k a b => f1 i k (by unfold w_X11_fell; omega)
  have ec : ∀ i k : Int, i ≤ 175 → g2 i k = g1 i k := fun i k a => f2 i k (by unfold w_X12_fell; omega)
  have key : x = y ∧ jGv g2 := by
    unfold P_X11_fell at p
    unfold P_X12_fell at q
    have m : ∀ i k : Int, 176 ≤ i → ¬ i = 219 → (i = 201 ∨ i = 208 ∨ i = 209 → jSy g2 g1) → ¬ (221 ≤ i) → ¬ (i = 176 ∧ (55 ≤ k ∧ k ≤ 58)) → g2 i k = g1 i k := fun i k a b c d e => by
      by_cases z : i = 201 ∨ i = 208 ∨ i = 209
      · exact c z i k b
      · exact f2 i k (by unfold w_X12_fell; omega)
    rcases p with ⟨p, pe⟩ | ⟨p, pe⟩ | ⟨p0, p1, p2, p3, p4, p5⟩
    · rcases q with ⟨q, qe⟩ | ⟨q, qe⟩ | ⟨q0, q3, q4, q5⟩
      · refine ⟨by omega, jGv_fr (fun i k a b => (qe i k (by omega)).trans (pe i k (by omega) (by omega))) (fun i k a b => (qe i k (by omega)).trans (pe i k (by omega) (by omega))) ((qe 176 34 (by decide)).trans (pe 176 34 (by decide) (by decide))) ((qe 176 0 (by decide)).trans (pe 176 0 (by decide) (by decide))) (fun i k a b => (qe i k (by omega)).trans (pe i k (by omega) (by omega))) (fun i k a b => (qe i k (by omega)).trans (pe i k (by omega) (by omega))) (fun i a b => (qe i 10 (by omega)).trans (pe i 10 (by omega) (by omega))) (fun k => (qe 201 k (by decide)).trans (pe 201 k (by decide) (by decide))) s16⟩
      · exfalso; rw [em 176 14 (by decide) (by decide)] at q; omega
      · exfalso; rw [em 176 14 (by decide) (by decide)] at q0; omega
    · have k16 : a1 < 16 := by have := h16; omega
      have u := s14.1.2.2 a1 ⟨p.2.1, k16⟩
      have u3 : h (36 + 3 * a1) 3 = h 192 a1 := u.1.2.1
      have u10 := s16.2.2.2 a1 p.2.1 k16
      have b2 := hst a1
      rcases q with ⟨q, qe⟩ | ⟨q, qe⟩ | ⟨q0, q3, q4, q5⟩
      · exfalso; rw [em 176 14 (by decide) (by decide)] at q; omega
      · refine ⟨by omega, jGv_fr (fun i k a b => (qe i k (by omega)).trans (pe i k (by omega) (by omega))) (fun i k a b => (qe i k (by omega)).trans (pe i k (by omega) (by omega))) ((qe 176 34 (by decide)).trans (pe 176 34 (by decide) (by decide))) ((qe 176 0 (by decide)).trans (pe 176 0 (by decide) (by decide))) (fun i k a b => (qe i k (by omega)).trans (pe i k (by omega) (by omega))) (fun i k a b => (qe i k (by omega)).trans (pe i k (by omega) (by omega))) (fun i a b => (qe i 10 (by omega)).trans (pe i 10 (by omega) (by omega))) (fun k => (qe 201 k (by decide)).trans (pe 201 k (by decide) (by decide))) s16⟩
      · exfalso; rw [em 176 14 (by decide) (by decide), em 192 a1 (by decide) (by decide), em 201 a1 (by decide) (by decide)] at q0; omega
    · have k16 : a1 < 16 := by omega
      have u := s14.1.2.2 a1 ⟨p0.1, k16⟩
      have u0 : h (36 + 3 * a1) 0 = h 189 a1 := u.1.1
      have u3 : h (36 + 3 * a1) 3 = h 192 a1 := u.1.2.1
      have u10 := s16.2.2.2 a1 p0.1 k16
      rcases q with ⟨q, qe⟩ | ⟨q, qe⟩ | ⟨q0, q3, q4, q5⟩
      · exfalso; rw [em 176 14 (by decide) (by decide)] at q; omega
      · exfalso; rw [em 176 14 (by decide) (by decide), em 192 a1 (by decide) (by decide), em 201 a1 (by decide) (by decide)] at q; omega
      · obtain ⟨d, op, ex, F1⟩ := p3 (jGv_5 s16 s8 s10 hT (by omega))
        obtain ⟨o2, ew⟩ := jGv_op s16 s8 s4 ⟨p1, by omega⟩ hT op
        rw [em 189 a1 (by decide) (by decide), ← u0, jmB_c (fun i k a b => em i k (by omega) (by omega)), jmOv_c (fun i k a b => em i k (by omega) (by omega)), em 176 34 (by decide) (by decide)] at q3
        obtain ⟨ey, F2⟩ := q3 d o2
        refine ⟨by omega, fun t a b => ?_, ?_, fun s i a b c e => ?_, fun k a b => ?_⟩
        · have t34 : g2 176 34 = h 176 34 := (f2 176 34 (by unfold w_X12_fell; omega)).trans (em 176 34 (by decide) (by decide))
          rw [t34] at b
          obtain ⟨r, r6⟩ := s16.1 t a b
          obtain ⟨x1, x2⟩ := F1 t a (by omega)
          obtain ⟨y1, y2⟩ := F2 t a (by omega)
          have x2' : g1 89 t = (if jwh d t 6 < 0 then h 89 t else jwh d t 6) := x2
          have y2' : g2 209 t = (if jwh d t 6 < 0 then g1 209 t else jwh d t 6) := y2
          rw [em 208 t (by decide) (by decide)] at y1
          rw [em 209 t (by decide) (by decide)] at y2'
          have c5 : ∀ i : Int, 85 ≤ i → i ≤ 87 → g2 i t = h i t := fun i z1 z2 => (ec i t (by omega)).trans (f1 i t (by unfold w_X11_fell; omega))
          have m5 : ∀ i : Int, 205 ≤ i → i ≤ 207 → g2 i t = h i t := fun i z1 z2 => (f2 i t (by unfold w_X12_fell; omega)).trans (em i t (by omega) (by omega))
          rw [c5 85 (by decide) (by decide), c5 86 (by decide) (by decide), c5 87 (by decide) (by decide), m5 205 (by decide) (by decide), m5 206 (by decide) (by decide), m5 207 (by decide) (by decide), ec 88 t (by decide), ec 89 t (by decide), x1, x2', y1, y2']
          refine ⟨r, ?_⟩
          by_cases z : jwh d t 6 < 0
          · rw [if_pos z, if_pos z, if_pos z, if_pos z]; exact r6
          · rw [if_neg z, if_neg z, if_neg z, if_neg z]; exact Or.inr ⟨p0.1, rfl, rfl⟩
        · exact jG9_fr (fun t => (f2 207 t (by unfold w_X12_fell; omega)).trans (em 207 t (by decide) (by decide))) ((f2 176 0 (by unfold w_X12_fell; omega)).trans (em 176 0 (by decide) (by decide))) s16.2.1
        · have c5 : ∀ i k : Int, 92 ≤ i → i ≤ 96 → g2 i k = h i k := fun i k z1 z2 => (ec i k (by omega)).trans (f1 i k (by unfold w_X11_fell; omega))
          have m5 : ∀ i k : Int, 211 ≤ i → i ≤ 214 → g2 i k = h i k := fun i k z1 z2 => (f2 i k (by unfold w_X12_fell; omega)).trans (em i k (by omega) (by omega))
          rw [c5 93 _ (by decide) (by decide), c5 94 _ (by decide) (by decide), c5 95 _ (by decide) (by decide), c5 96 _ (by decide) (by decide), m5 211 _ (by decide) (by decide), m5 212 _ (by decide) (by decide), m5 213 _ (by decide) (by decide), m5 214 _ (by decide) (by decide)]
          exact s16.2.2.1 s i a b c (by rw [← c5 92 s (by decide) (by decide)]; exact e)
        · rw [ec _ 10 (by omega)]
          by_cases z : k = a1
          · rw [z, p4, q4]
          · rw [p5 _ (by omega) (by omega) (by omega), q5 k z, em 201 k (by decide) (by decide)]
            exact s16.2.2.2 k a b
  try clear p
  try clear q
  refine ⟨key.1, jSm_fr (fun t => ((f2 3 t (by unfold w_X12_fell; omega)).trans (f1 3 t (by unfold w_X11_fell; omega)))) (fun t => ((f2 177 t (by unfold w_X12_fell; omega)).trans (f1 177 t (by unfold w_X11_fell; omega)))) s0, jSm_fr (fun t => ((f2 4 t (by unfold w_X12_fell; omega)).trans (f1 4 t (by unfold w_X11_fell; omega)))) (fun t => ((f2 178 t (by unfold w_X12_fell; omega)).trans (f1 178 t (by unfold w_X11_fell; omega)))) s1, jSm_fr (fun t => ((f2 10 t (by unfold w_X12_fell; omega)).trans (f1 10 t (by unfold w_X11_fell; omega)))) (fun t => ((f2 179 t (by unfold w_X12_fell; omega)).trans (f1 179 t (by unfold w_X11_fell; omega)))) s2, jSm_fr (fun t => ((f2 90 t (by unfold w_X12_fell; omega)).trans (f1 90 t (by unfold w_X11_fell; omega)))) (fun t => ((f2 204 t (by unfold w_X12_fell; omega)).trans (f1 204 t (by unfold w_X11_fell; omega)))) s3, jSm_fr (fun t => ((f2 92 t (by unfold w_X12_fell; omega)).trans (f1 92 t (by unfold w_X11_fell; omega)))) (fun t => ((f2 210 t (by unfold w_X12_fell; omega)).trans (f1 210 t (by unfold w_X11_fell; omega)))) s4, jT6_fr (fun i k p1 p2 => ((f2 i k (by unfold w_X12_fell; omega)).trans (f1 i k (by unfold w_X11_fell; omega)))) (fun k => ((f2 187 k (by unfold w_X12_fell; omega)).trans (f1 187 k (by unfold w_X11_fell; omega)))) s5, jTN_fr (fun i k p1 p2 => ((f2 i k (by unfold w_X12_fell; omega)).trans (f1 i k (by unfold w_X11_fell; omega)))) (fun k => ((f2 188 k (by unfold w_X12_fell; omega)).trans (f1 188 k (by unfold w_X11_fell; omega)))) s6, (((f2 29 4 (by unfold w_X12_fell; omega)).trans (f1 29 4 (by unfold w_X11_fell; omega))).trans s7).trans ((f2 176 14 (by unfold w_X12_fell; omega)).trans (f1 176 14 (by unfold w_X11_fell; omega))).symm, (((f2 84 0 (by unfold w_X12_fell; omega)).trans (f1 84 0 (by unfold w_X11_fell; omega))).trans s8).trans ((f2 176 34 (by unfold w_X12_fell; omega)).trans (f1 176 34 (by unfold w_X11_fell; omega))).symm, (((f2 11 0 (by unfold w_X12_fell; omega)).trans (f1 11 0 (by unfold w_X11_fell; omega))).trans s9).trans ((f2 176 6 (by unfold w_X12_fell; omega)).trans (f1 176 6 (by unfold w_X11_fell; omega))).symm, (((f2 0 0 (by unfold w_X12_fell; omega)).trans (f1 0 0 (by unfold w_X11_fell; omega))).trans s10).trans ((f2 176 0 (by unfold w_X12_fell; omega)).trans (f1 176 0 (by unfold w_X11_fell; omega))).symm, jRo_fr (fun i k p1 p2 => ((f2 i k (by unfold w_X12_fell; omega)).trans (f1 i k (by unfold w_X11_fell; omega)))) (fun k => ((f2 180 k (by unfold w_X12_fell; omega)).trans (f1 180 k (by unfold w_X11_fell; omega)))) s11, jDe_fr (fun i k p1 p2 => ((f2 i k (by unfold w_X12_fell; omega)).trans (f1 i k (by unfold w_X11_fell; omega)))) ((f2 11 0 (by unfold w_X12_fell; omega)).trans (f1 11 0 (by unfold w_X11_fell; omega))) (fun i k p1 p2 => ((f2 i k (by unfold w_X12_fell; omega)).trans (f1 i k (by unfold w_X11_fell; omega)))) ((f2 176 6 (by unfold w_X12_fell; omega)).trans (f1 176 6 (by unfold w_X11_fell; omega))) s12, jTC_fr (fun i k p1 p2 => ((f2 i k (by unfold w_X12_fell; omega)).trans (f1 i k (by unfold w_X11_fell; omega)))) (fun k => ((f2 186 k (by unfold w_X12_fell; omega)).trans (f1 186 k (by unfold w_X11_fell; omega)))) s13, jYd2_fr (fun i k w => by
    unfold jwy at w
    rw [ec i k (by omega)]
    by_cases z : 36 ≤ i ∧ i ≤ 83
    · exact e7 i k z.1 z.2 (by omega)
    · exact f1 i k (by unfold w_X11_fell; omega)) (fun i k w => by unfold jmy at w; exact ((f2 i k (by unfold w_X12_fell; omega)).trans (f1 i k (by unfold w_X11_fell; omega)))) s14, jLe_fr ((f2 101 0 (by unfold w_X12_fell; omega)).trans (f1 101 0 (by unfold w_X11_fell; omega))) (fun i k p1 p2 => ((f2 i k (by unfold w_X12_fell; omega)).trans (f1 i k (by unfold w_X11_fell; omega)))) ((f2 176 45 (by unfold w_X12_fell; omega)).trans (f1 176 45 (by unfold w_X11_fell; omega))) (fun i k p1 p2 => ((f2 i k (by unfold w_X12_fell; omega)).trans (f1 i k (by unfold w_X11_fell; omega)))) s15, key.2, jAh_fr (fun i k q => by unfold jma at q; exact ((f2 i k (by unfold w_X12_fell; omega)).trans (f1 i k (by unfold w_X11_fell; omega)))) (fun i k q => by unfold jwh3 at q; exact ((f2 i k (by unfold w_X12_fell; omega)).trans (f1 i k (by unfold w_X11_fell; omega)))) s17, jS9_fr (fun k p1 p2 => ((f2 198 k (by unfold w_X12_fell; omega)).trans (f1 198 k (by unfold w_X11_fell; omega)))) ((f2 176 0 (by unfold w_X12_fell; omega)).trans (f1 176 0 (by unfold w_X11_fell; omega))) s18⟩
set_option maxHeartbeats 4000000 in
theorem pr_tree {h g1 g2 : JH} {a1 a2 a3 x y : Int} (f1 : jfr w_X11_tree h g1) (f2 : jfr w_X12_tree g1 g2) (p : P_X11_tree a1 a2 a3 x h g1) (q : P_X12_tree a1 a2 a3 y g1 g2) (s : jI h) (hd : 0 ≤ h 0 0) (hT0 : 0 ≤ h 84 0) : x = y ∧ jI g2 := by
  obtain ⟨s0, s1, s2, s3, s4, s5, s6, s7, s8, s9, s10, s11, s12, s13, s14, s15, s16, s17, s18⟩ := s
  unfold P_X11_tree at p
  unfold P_X12_tree at q
  have e34 : g1 176 34 = h 176 34 := f1 176 34 (by unfold w_X11_tree; omega)
  have key : x = y ∧ g2 84 0 = g2 176 34 ∧ jGv g2 := by
    rcases p with ⟨c, e⟩ | ⟨c, e⟩ | ⟨c, e⟩ | ⟨c, cx, e⟩ <;> rcases q with ⟨d, r⟩ | ⟨d, r⟩ | ⟨d, r⟩ | ⟨d, dx, r⟩
    · exact ⟨by omega, ((r 84 0 (by decide)).trans (e 84 0 (by decide) (by decide))).trans (s8.trans ((r 176 34 (by decide)).trans (e 176 34 (by decide) (by decide))).symm), jGv_fr (fun i k p1 p2 => ((r i k (by omega)).trans (e i k (by omega) (by omega)))) (fun i k p1 p2 => ((r i k (by omega)).trans (e i k (by omega) (by omega)))) ((r 176 34 (by omega)).trans (e 176 34 (by omega) (by omega))) ((r 176 0 (by omega)).trans (e 176 0 (by omega) (by omega))) (fun i k p1 p2 => ((r i k (by omega)).trans (e i k (by omega) (by omega)))) (fun i k p1 p2 => ((r i k (by omega)).trans (e i k (by omega) (by omega)))) (fun i p1 p2 => ((r i 10 (by omega)).trans (e i 10 (by omega) (by omega)))) (fun k => ((r 201 k (by omega)).trans (e 201 k (by omega) (by omega)))) s16⟩
    · exfalso; omega
    · exfalso; omega
    · exfalso; omega
    · exfalso; omega
    · exact ⟨by omega, ((r 84 0 (by decide)).trans (e 84 0 (by decide) (by decide))).trans (s8.trans ((r 176 34 (by decide)).trans (e 176 34 (by decide) (by decide))).symm), jGv_fr (fun i k p1 p2 => ((r i k (by omega)).trans (e i k (by omega) (by omega)))) (fun i k p1 p2 => ((r i k (by omega)).trans (e i k (by omega) (by omega)))) ((r 176 34 (by omega)).trans (e 176 34 (by omega) (by omega))) ((r 176 0 (by omega)).trans (e 176 0 (by omega) (by omega))) (fun i k p1 p2 => ((r i k (by omega)).trans (e i k (by omega) (by omega)))) (fun i k p1 p2 => ((r i k (by omega)).trans (e i k (by omega) (by omega)))) (fun i p1 p2 => ((r i 10 (by omega)).trans (e i 10 (by omega) (by omega)))) (fun k => ((r 201 k (by omega)).trans (e 201 k (by omega) (by omega)))) s16⟩
    · exfalso; omega
    · exfalso; omega
    · exfalso; omega
    · exfalso; omega
    · exact ⟨by omega, ((r 84 0 (by decide)).trans (e 84 0 (by decide) (by decide))).trans (s8.trans ((r 176 34 (by decide)).trans (e 176 34 (by decide) (by decide))).symm), jGv_fr (fun i k p1 p2 => ((r i k (by omega)).trans (e i k (by omega) (by omega)))) (fun i k p1 p2 => ((r i k (by omega)).trans (e i k (by omega) (by omega)))) ((r 176 34 (by omega)).trans (e 176 34 (by omega) (by omega))) ((r 176 0 (by omega)).trans (e 176 0 (by omega) (by omega))) (fun i k p1 p2 => ((r i k (by omega)).trans (e i k (by omega) (by omega)))) (fun i k p1 p2 => ((r i k (by omega)).trans (e i k (by omega) (by omega)))) (fun i p1 p2 => ((r i 10 (by omega)).trans (e i 10 (by omega) (by omega)))) (fun k => ((r 201 k (by omega)).trans (e 201 k (by omega) (by omega)))) s16⟩
    · exfalso; omega
    · exfalso; omega
    · exfalso; omega
    · exfalso; omega
    · have tc : ∀ i k : Int, ¬ i = 1 → ¬ i = 111 → g1 i k = if i = 84 ∧ k = 0 then h 84 0 + 1 else if i = 89 ∧ k = h 84 0 then -9 else if i = 88 ∧ k = h 84 0 then -9 else if i = 87 ∧ k = h 84 0 then a3 else if i = 86 ∧ k = h 84 0 then a2 else if i = 85 ∧ k = h 84 0 then a1 else h i k := fun i k u w => (e i k u w).trans rfl
      have tm : ∀ i k : Int, ¬ i = 219 → g2 i k = if i = 176 ∧ k = 34 then g1 176 34 + 1 else if i = 209 ∧ k = g1 176 34 then -1 else if i = 208 ∧ k = g1 176 34 then -1 else if i = 207 ∧ k = g1 176 34 then a3 else if i = 206 ∧ k = g1 176 34 then a2 else if i = 205 ∧ k = g1 176 34 then a1 else g1 i k := fun i k u => (r i k u).trans rfl
      have e34 : g1 176 34 = h 176 34 := f1 176 34 (by unfold w_X11_tree; omega)
      have n1 : g2 84 0 = h 84 0 + 1 := by rw [tm 84 0 (by decide), if_neg (by omega), if_neg (by omega), if_neg (by omega), if_neg (by omega), if_neg (by omega), if_neg (by omega), tc 84 0 (by decide) (by decide), if_pos ⟨rfl, rfl⟩]
      have n2 : g2 176 34 = h 176 34 + 1 := by rw [tm 176 34 (by decide), if_pos ⟨rfl, rfl⟩, e34]
      have oc : ∀ i k : Int, ¬ i = 1 → ¬ i = 111 → ¬ i = 219 → ¬ (i = 84 ∧ k = 0) → ¬ (i = 176 ∧ k = 34) → ¬ (85 ≤ i ∧ i ≤ 89 ∧ k = h 84 0) → ¬ (205 ≤ i ∧ i ≤ 209 ∧ k = h 84 0) → g2 i k = h i k := fun i k w1 w2 w3 w4 w5 w6 w7 => by rw [tm i k w3, if_neg (by omega), if_neg (by omega), if_neg (by omega), if_neg (by omega), if_neg (by omega), if_neg (by omega), tc i k w1 w2, if_neg (by omega), if_neg (by omega), if_neg (by omega), if_neg (by omega), if_neg (by omega), if_neg (by omega)]
      refine ⟨by omega, by omega, fun t a b => ?_, fun t a b => ?_, fun s i a b c f => ?_, fun k a b => ?_⟩
      · by_cases z : t = h 84 0
        · have v : g2 85 t = a1 ∧ g2 86 t = a2 ∧ g2 87 t = a3 ∧ g2 88 t = -9 ∧ g2 89 t = -9 ∧ g2 205 t = a1 ∧ g2 206 t = a2 ∧ g2 207 t = a3 ∧ g2 208 t = -1 ∧ g2 209 t = -1 := by
            refine ⟨?_, ?_, ?_, ?_, ?_, ?_, ?_, ?_, ?_, ?_⟩
            · rw [tm 85 t (by decide), if_neg (by omega), if_neg (by omega), if_neg (by omega), if_neg (by omega), if_neg (by omega), if_neg (by omega), tc 85 t (by decide) (by decide), if_neg (by omega), if_neg (by omega), if_neg (by omega), if_neg (by omega), if_neg (by omega), if_pos ⟨rfl, z⟩]
            · rw [tm 86 t (by decide), if_neg (by omega), if_neg (by omega), if_neg (by omega), if_neg (by omega), if_neg (by omega), if_neg (by omega), tc 86 t (by decide) (by decide), if_neg (by omega), if_neg (by omega), if_neg (by omega), if_neg (by omega), if_pos ⟨rfl, z⟩]
            · rw [tm 87 t (by decide), if_neg (by omega), if_neg (by omega), if_neg (by omega), if_neg (by omega), if_neg (by omega), if_neg (by omega), tc 87 t (by decide) (by decide), if_neg (by omega), if_neg (by omega), if_neg (by omega), if_pos ⟨rfl, z⟩]
            · rw [tm 88 t (by decide), if_neg (by omega), if_neg (by omega), if_neg (by omega), if_neg (by omega), if_neg (by omega), if_neg (by omega), tc 88 t (by decide) (by decide), if_neg (by omega), if_neg (by omega), if_pos ⟨rfl, z⟩]
            · rw [tm 89 t (by decide), if_neg (by omega), if_neg (by omega), if_neg (by omega), if_neg (by omega), if_neg (by omega), if_neg (by omega), tc 89 t (by decide) (by decide), if_neg (by omega), if_pos ⟨rfl, z⟩]
            · rw [tm 205 t (by decide), if_neg (by omega), if_neg (by omega), if_neg (by omega), if_neg (by omega), if_neg (by omega), if_pos ⟨rfl, by omega⟩]
            · rw [tm 206 t (by decide), if_neg (by omega), if_neg (by omega), if_neg (by omega), if_neg (by omega), if_pos ⟨rfl, by omega⟩]
            · rw [tm 207 t (by decide), if_neg (by omega), if_neg (by omega), if_neg (by omega), if_pos ⟨rfl, by omega⟩]
            · rw [tm 208 t (by decide), if_neg (by omega), if_neg (by omega), if_pos ⟨rfl, by omega⟩]
            · rw [tm 209 t (by decide), if_neg (by omega), if_pos ⟨rfl, by omega⟩]
          omega
        · rw [oc 85 t (by decide) (by decide) (by decide) (by omega) (by omega) (by omega) (by omega), oc 86 t (by decide) (by decide) (by decide) (by omega) (by omega) (by omega) (by omega), oc 87 t (by decide) (by decide) (by decide) (by omega) (by omega) (by omega) (by omega), oc 88 t (by decide) (by decide) (by decide) (by omega) (by omega) (by omega) (by omega), oc 89 t (by decide) (by decide) (by decide) (by omega) (by omega) (by omega) (by omega), oc 205 t (by decide) (by decide) (by decide) (by omega) (by omega) (by omega) (by omega), oc 206 t (by decide) (by decide) (by decide) (by omega) (by omega) (by omega) (by omega), oc 207 t (by decide) (by decide) (by decide) (by omega) (by omega) (by omega) (by omega), oc 208 t (by decide) (by decide) (by decide) (by omega) (by omega) (by omega) (by omega), oc 209 t (by decide) (by decide) (by decide) (by omega) (by omega) (by omega) (by omega)]
          exact s16.1 t a (by omega)
      · have g9 := s16.2.1 t a b
        rw [oc 176 0 (by decide) (by decide) (by decide) (by decide) (by decide) (by omega) (by omega)]
        by_cases z : t = h 84 0
        · rw [tm 207 t (by decide), if_neg (by omega), if_neg (by omega), if_neg (by omega), if_pos ⟨rfl, by omega⟩]; have s9 := s10; omega
        · rw [oc 207 t (by decide) (by decide) (by decide) (by omega) (by omega) (by omega) (by omega)]; exact g9
      · rw [oc 93 (s * 6 + i) (by decide) (by decide) (by decide) (by omega) (by omega) (by omega) (by omega), oc 94 (s * 6 + i) (by decide) (by decide) (by decide) (by omega) (by omega) (by omega) (by omega), oc 95 (s * 6 + i) (by decide) (by decide) (by decide) (by omega) (by omega) (by omega) (by omega), oc 96 (s * 6 + i) (by decide) (by decide) (by decide) (by omega) (by omega) (by omega) (by omega)]
        rw [oc 211 (6 * s + i) (by decide) (by decide) (by decide) (by omega) (by omega) (by omega) (by omega), oc 212 (6 * s + i) (by decide) (by decide) (by decide) (by omega) (by omega) (by omega) (by omega), oc 213 (6 * s + i) (by decide) (by decide) (by decide) (by omega) (by omega) (by omega) (by omega), oc 214 (6 * s + i) (by decide) (by decide) (by decide) (by omega) (by omega) (by omega) (by omega)]
        exact s16.2.2.1 s i a b c (by rw [← oc 92 s (by decide) (by decide) (by decide) (by omega) (by omega) (by omega) (by omega)]; exact f)
      · rw [oc _ 10 (by omega) (by omega) (by omega) (by omega) (by omega) (by omega) (by omega), oc 201 k (by decide) (by decide) (by decide) (by omega) (by omega) (by omega) (by omega)]; exact s16.2.2.2 k a b
  try clear p
  try clear q
  exact ⟨key.1, jSm_fr (fun t => ((f2 3 t (by unfold w_X12_tree; omega)).trans (f1 3 t (by unfold w_X11_tree; omega)))) (fun t => ((f2 177 t (by unfold w_X12_tree; omega)).trans (f1 177 t (by unfold w_X11_tree; omega)))) s0, jSm_fr (fun t => ((f2 4 t (by unfold w_X12_tree; omega)).trans (f1 4 t (by unfold w_X11_tree; omega)))) (fun t => ((f2 178 t (by unfold w_X12_tree; omega)).trans (f1 178 t (by unfold w_X11_tree; omega)))) s1, jSm_fr (fun t => ((f2 10 t (by unfold w_X12_tree; omega)).trans (f1 10 t (by unfold w_X11_tree; omega)))) (fun t => ((f2 179 t (by unfold w_X12_tree; omega)).trans (f1 179 t (by unfold w_X11_tree; omega)))) s2, jSm_fr (fun t => ((f2 90 t (by unfold w_X12_tree; omega)).trans (f1 90 t (by unfold w_X11_tree; omega)))) (fun t => ((f2 204 t (by unfold w_X12_tree; omega)).trans (f1 204 t (by unfold w_X11_tree; omega)))) s3, jSm_fr (fun t => ((f2 92 t (by unfold w_X12_tree; omega)).trans (f1 92 t (by unfold w_X11_tree; omega)))) (fun t => ((f2 210 t (by unfold w_X12_tree; omega)).trans (f1 210 t (by unfold w_X11_tree; omega)))) s4, jT6_fr (fun i k p1 p2 => ((f2 i k (by unfold w_X12_tree; omega)).trans (f1 i k (by unfold w_X11_tree; omega)))) (fun k => ((f2 187 k (by unfold w_X12_tree; omega)).trans (f1 187 k (by unfold w_X11_tree; omega)))) s5, jTN_fr (fun i k p1 p2 => ((f2 i k (by unfold w_X12_tree; omega)).trans (f1 i k (by unfold w_X11_tree; omega)))) (fun k => ((f2 188 k (by unfold w_X12_tree; omega)).trans (f1 188 k (by unfold w_X11_tree; omega)))) s6, (((f2 29 4 (by unfold w_X12_tree; omega)).trans (f1 29 4 (by unfold w_X11_tree; omega))).trans s7).trans ((f2 176 14 (by unfold w_X12_tree; omega)).trans (f1 176 14 (by unfold w_X11_tree; omega))).symm, key.2.1, (((f2 11 0 (by unfold w_X12_tree; omega)).trans (f1 11 0 (by unfold w_X11_tree; omega))).trans s9).trans ((f2 176 6 (by unfold w_X12_tree; omega)).trans (f1 176 6 (by unfold w_X11_tree; omega))).symm, (((f2 0 0 (by unfold w_X12_tree; omega)).trans (f1 0 0 (by unfold w_X11_tree; omega))).trans s10).trans ((f2 176 0 (by unfold w_X12_tree; omega)).trans (f1 176 0 (by unfold w_X11_tree; omega))).symm, jRo_fr (fun i k p1 p2 => ((f2 i k (by unfold w_X12_tree; omega)).trans (f1 i k (by unfold w_X11_tree; omega)))) (fun k => ((f2 180 k (by unfold w_X12_tree; omega)).trans (f1 180 k (by unfold w_X11_tree; omega)))) s11, jDe_fr (fun i k p1 p2 => ((f2 i k (by unfold w_X12_tree; omega)).trans (f1 i k (by unfold w_X11_tree; omega)))) ((f2 11 0 (by unfold w_X12_tree; omega)).trans (f1 11 0 (by unfold w_X11_tree; omega))) (fun i k p1 p2 => ((f2 i k (by unfold w_X12_tree; omega)).trans (f1 i k (by unfold w_X11_tree; omega)))) ((f2 176 6 (by unfold w_X12_tree; omega)).trans (f1 176 6 (by unfold w_X11_tree; omega))) s12, jTC_fr (fun i k p1 p2 => ((f2 i k (by unfold w_X12_tree; omega)).trans (f1 i k (by unfold w_X11_tree; omega)))) (fun k => ((f2 186 k (by unfold w_X12_tree; omega)).trans (f1 186 k (by unfold w_X11_tree; omega)))) s13, jYd2_fr (fun i k q => by unfold jwy at q; exact ((f2 i k (by unfold w_X12_tree; omega)).trans (f1 i k (by unfold w_X11_tree; omega)))) (fun i k q => by unfold jmy at q; exact ((f2 i k (by unfold w_X12_tree; omega)).trans (f1 i k (by unfold w_X11_tree; omega)))) s14, jLe_fr ((f2 101 0 (by unfold w_X12_tree; omega)).trans (f1 101 0 (by unfold w_X11_tree; omega))) (fun i k p1 p2 => ((f2 i k (by unfold w_X12_tree; omega)).trans (f1 i k (by unfold w_X11_tree; omega)))) ((f2 176 45 (by unfold w_X12_tree; omega)).trans (f1 176 45 (by unfold w_X11_tree; omega))) (fun i k p1 p2 => ((f2 i k (by unfold w_X12_tree; omega)).trans (f1 i k (by unfold w_X11_tree; omega)))) s15, key.2.2, jAh_fr (fun i k q => by unfold jma at q; exact ((f2 i k (by unfold w_X12_tree; omega)).trans (f1 i k (by unfold w_X11_tree; omega)))) (fun i k q => by unfold jwh3 at q; exact ((f2 i k (by unfold w_X12_tree; omega)).trans (f1 i k (by unfold w_X11_tree; omega)))) s17, jS9_fr (fun k p1 p2 => ((f2 198 k (by unfold w_X12_tree; omega)).trans (f1 198 k (by unfold w_X11_tree; omega)))) ((f2 176 0 (by unfold w_X12_tree; omega)).trans (f1 176 0 (by unfold w_X11_tree; omega))) s18⟩
