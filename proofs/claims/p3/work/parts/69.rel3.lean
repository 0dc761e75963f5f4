set_option maxHeartbeats 4000000 in
theorem pr_count {h g1 g2 : JH} {a1 a2 x y : Int} (f1 : jfr w_X11_count h g1) (f2 : jfr w_X12_count g1 g2) (p : P_X11_count a1 a2 x h g1) (q : P_X12_count a1 a2 y g1 g2) (s : jI h) (hl : 0 ≤ h 101 0) : x = y ∧ jI g2 := by
  obtain ⟨s0, s1, s2, s3, s4, s5, s6, s7, s8, s9, s10, s11, s12, s13, s14, s15⟩ := s
  unfold P_X11_count at p
  unfold P_X12_count at q
  have B9 : ¬ (0 ≤ a1 ∧ a1 < 6) ∨ (h 30 a1 = h 181 a1 ∧ 0 ≤ h 181 a1 ∧ h 181 a1 ≤ 1000000) := by
    by_cases z : 0 ≤ a1 ∧ a1 < 6
    · exact Or.inr (s14.1.1 a1 z.1 z.2)
    · exact Or.inl z
  have e1 : ∀ i k : Int, 181 ≤ i → i ≤ 228 → g1 i k = h i k := fun i k p1 p2 => f1 i k (by unfold w_X11_count; omega)
  have e2 : g1 176 14 = h 176 14 := f1 176 14 (by unfold w_X11_count; omega)
  have e3 := e1 181 a1 (by decide) (by decide); have e4 : g1 176 45 = h 176 45 := f1 176 45 (by unfold w_X11_count; omega); have e5 : g1 176 0 = h 176 0 := f1 176 0 (by unfold w_X11_count; omega)
  have L0 := s15.1
  have hl0 := hl
  have key : x = y ∧ jYd2 g2 g2 ∧ jLe g2 := by
    rcases p with ⟨c, e⟩ | ⟨c, e⟩ | ⟨c, e⟩ | ⟨c, cx, e⟩ <;> rcases q with ⟨d, r⟩ | ⟨d, r⟩ | ⟨d, r⟩ | ⟨d, dx, r⟩
    · exact ⟨by omega, jYd2_fr (fun i k w => by unfold jwy at w; exact (r i k (by omega)).trans (e i k (by omega) (by omega))) (fun i k w => by unfold jmy at w; exact (r i k (by omega)).trans (e i k (by omega) (by omega))) s14, jLe_fr ((r 101 0 (by decide)).trans (e 101 0 (by decide) (by decide))) (fun i k p1 p2 => (r i k (by omega)).trans (e i k (by omega) (by omega))) ((r 176 45 (by decide)).trans (e 176 45 (by decide) (by decide))) (fun i k p1 p2 => (r i k (by omega)).trans (e i k (by omega) (by omega))) s15⟩
    · exfalso; omega
    · exfalso; omega
    · exfalso; omega
    · exfalso; omega
    · exact ⟨by omega, jYd2_fr (fun i k w => by unfold jwy at w; exact (r i k (by omega)).trans (e i k (by omega) (by omega))) (fun i k w => by unfold jmy at w; exact (r i k (by omega)).trans (e i k (by omega) (by omega))) s14, jLe_fr ((r 101 0 (by decide)).trans (e 101 0 (by decide) (by decide))) (fun i k p1 p2 => (r i k (by omega)).trans (e i k (by omega) (by omega))) ((r 176 45 (by decide)).trans (e 176 45 (by decide) (by decide))) (fun i k p1 p2 => (r i k (by omega)).trans (e i k (by omega) (by omega))) s15⟩
    · exfalso; omega
    · exfalso; omega
    · exfalso; omega
    · exfalso; omega
    · exact ⟨by omega, jYd2_fr (fun i k w => by unfold jwy at w; exact (r i k (by omega)).trans (e i k (by omega) (by omega))) (fun i k w => by unfold jmy at w; exact (r i k (by omega)).trans (e i k (by omega) (by omega))) s14, jLe_fr ((r 101 0 (by decide)).trans (e 101 0 (by decide) (by decide))) (fun i k p1 p2 => (r i k (by omega)).trans (e i k (by omega) (by omega))) ((r 176 45 (by decide)).trans (e 176 45 (by decide) (by decide))) (fun i k p1 p2 => (r i k (by omega)).trans (e i k (by omega) (by omega))) s15⟩
    · exfalso; omega
    · exfalso; omega
    · exfalso; omega
    · exfalso; omega
    · have ev : jw32 (h 30 a1 - a2) = jw32 (g1 181 a1 - a2) := by rw [e3]; rcases B9 with z | z; omega; rw [z.1]
      have ec : ∀ i k : Int, ¬ i = 1 → ¬ i = 111 → ¬ i = 30 → ¬ (102 ≤ i ∧ i ≤ 105 ∧ k = h 101 0) → ¬ (i = 101 ∧ k = 0) → g1 i k = h i k := fun i k p1 p2 p3 p4 p5 => by rw [e i k p1 p2, jup_ne (by omega), jup_ne (by omega), jup_ne (by omega), jup_ne (by omega), jup_ne (by omega), jup_ne (by omega)]
      have rc : ∀ i k : Int, ¬ i = 219 → ¬ i = 181 → ¬ (215 ≤ i ∧ i ≤ 218 ∧ k = g1 176 45) → ¬ (i = 176 ∧ k = 45) → g2 i k = g1 i k := fun i k p1 p3 p4 p5 => by rw [r i k p1, jup_ne (by omega), jup_ne (by omega), jup_ne (by omega), jup_ne (by omega), jup_ne (by omega), jup_ne (by omega)]
      have lb : ∀ n : Nat, (n : Int) ≤ h 101 0 → jLb (h 102) (h 103) a1 n = jLb (g1 215) (g1 216) a1 n := by
        intro n
        induction n with
        | zero => intro _; rfl
        | succ n ih =>
            intro hn
            have i1 := ih (by omega); have l := s15.2 n (by omega) (by omega)
            show (if h 102 n = a1 then h 103 n else jLb (h 102) (h 103) a1 n) = if g1 215 n = a1 then g1 216 n else jLb (g1 215) (g1 216) a1 n
            rw [i1, e1 215 n (by decide) (by decide), e1 216 n (by decide) (by decide), l.1, l.2.1]
      refine ⟨by omega, jY_st (hc := h) (hm := h) (fun i k w z => ?_) (fun i k w z => ?_) (fun g a b => ?_) s14, ?_, fun i a b => ?_⟩
      · unfold jwy at w; rw [rc i k (by omega) (by omega) (by omega) (by omega)]; exact ec i k (by omega) (by omega) z (by omega) (by omega)
      · unfold jmy at w; rw [rc i k (by omega) z (by omega) (by omega)]; exact f1 i k (by unfold w_X11_count; omega)
      · rw [rc 30 g (by decide) (by decide) (by omega) (by omega), e 30 g (by decide) (by decide), jup_ne (by omega), jup_ne (by omega), jup_ne (by omega), jup_ne (by omega), jup_ne (by omega), r 181 g (by decide)]
        by_cases z : g = a1
        · rw [z, jup_eq, jup_eq]; exact ⟨rfl, by omega, by omega⟩
        · rw [jup_ne (by omega), jup_ne (by omega), jup_ne (by omega), jup_ne (by omega), jup_ne (by omega), jup_ne (by omega), jup_ne (by omega), e1 181 g (by decide) (by decide)]; exact s14.1.1 g a b
      · rw [rc 101 0 (by decide) (by decide) (by omega) (by omega), e 101 0 (by decide) (by decide), jup_eq, r 176 45 (by decide), jup_ne (by omega), jup_eq]; omega
      · have n1 : g2 101 0 = h 101 0 + 1 := by rw [rc 101 0 (by decide) (by decide) (by omega) (by omega), e 101 0 (by decide) (by decide), jup_eq]
        have cc : ∀ j : Int, 102 ≤ j → j ≤ 105 → g2 j i = g1 j i := fun j p1 p2 => rc j i (by omega) (by omega) (by omega) (by omega)
        rw [cc 102 (by decide) (by decide), cc 103 (by decide) (by decide), cc 104 (by decide) (by decide), cc 105 (by decide) (by decide)]
        by_cases z : i = h 101 0
        · have z2 : i = g1 176 45 := by omega
          have lbn := lb (h 101 0).toNat (by omega)
          rw [e 102 i (by decide) (by decide), e 103 i (by decide) (by decide), e 104 i (by decide) (by decide), e 105 i (by decide) (by decide), r 215 i (by decide), r 216 i (by decide), r 217 i (by decide), r 218 i (by decide)]
          refine ⟨?_, ?_, ?_, ?_⟩
          · rw [jup_ne (by omega), jup_ne (by omega), jup_ne (by omega), jup_ne (by omega), z, jup_eq, ← z, jup_ne (by omega), jup_ne (by omega), jup_ne (by omega), jup_ne (by omega), jup_ne (by omega), z2, jup_eq]
          · rw [jup_ne (by omega), jup_ne (by omega), jup_ne (by omega), z, jup_eq, ← z, jup_ne (by omega), jup_ne (by omega), jup_ne (by omega), jup_ne (by omega), z2, jup_eq, e5]; exact s10
          · rw [jup_ne (by omega), jup_ne (by omega), z, jup_eq, ← z, jup_ne (by omega), jup_ne (by omega), jup_ne (by omega), z2, jup_eq]; exact ev
          · rw [jup_ne (by omega), z, jup_eq, ← z, jup_ne (by omega), jup_ne (by omega), z2, jup_eq, show g1 176 45 = h 101 0 by omega]; exact lbn
        · have l := s15.2 i a (by omega)
          have mm : ∀ j : Int, 215 ≤ j → j ≤ 218 → g2 j i = h j i := fun j p1 p2 => (rc j i (by omega) (by omega) (by omega) (by omega)).trans (e1 j i (by omega) (by omega))
          have ch : ∀ j : Int, 102 ≤ j → j ≤ 105 → g1 j i = h j i := fun j p1 p2 => ec j i (by omega) (by omega) (by omega) (by omega) (by omega)
          rw [ch 102 (by decide) (by decide), ch 103 (by decide) (by decide), ch 104 (by decide) (by decide), ch 105 (by decide) (by decide), mm 215 (by decide) (by decide), mm 216 (by decide) (by decide), mm 217 (by decide) (by decide), mm 218 (by decide) (by decide)]; exact l
  exact ⟨key.1, jSm_fr (fun t => ((f2 3 t (by unfold w_X12_count; omega)).trans (f1 3 t (by unfold w_X11_count; omega)))) (fun t => ((f2 177 t (by unfold w_X12_count; omega)).trans (f1 177 t (by unfold w_X11_count; omega)))) s0, jSm_fr (fun t => ((f2 4 t (by unfold w_X12_count; omega)).trans (f1 4 t (by unfold w_X11_count; omega)))) (fun t => ((f2 178 t (by unfold w_X12_count; omega)).trans (f1 178 t (by unfold w_X11_count; omega)))) s1, jSm_fr (fun t => ((f2 10 t (by unfold w_X12_count; omega)).trans (f1 10 t (by unfold w_X11_count; omega)))) (fun t => ((f2 179 t (by unfold w_X12_count; omega)).trans (f1 179 t (by unfold w_X11_count; omega)))) s2, jSm_fr (fun t => ((f2 90 t (by unfold w_X12_count; omega)).trans (f1 90 t (by unfold w_X11_count; omega)))) (fun t => ((f2 204 t (by unfold w_X12_count; omega)).trans (f1 204 t (by unfold w_X11_count; omega)))) s3, jSm_fr (fun t => ((f2 92 t (by unfold w_X12_count; omega)).trans (f1 92 t (by unfold w_X11_count; omega)))) (fun t => ((f2 210 t (by unfold w_X12_count; omega)).trans (f1 210 t (by unfold w_X11_count; omega)))) s4, jT6_fr (fun i k p1 p2 => ((f2 i k (by unfold w_X12_count; omega)).trans (f1 i k (by unfold w_X11_count; omega)))) (fun k => ((f2 187 k (by unfold w_X12_count; omega)).trans (f1 187 k (by unfold w_X11_count; omega)))) s5, jTN_fr (fun i k p1 p2 => ((f2 i k (by unfold w_X12_count; omega)).trans (f1 i k (by unfold w_X11_count; omega)))) (fun k => ((f2 188 k (by unfold w_X12_count; omega)).trans (f1 188 k (by unfold w_X11_count; omega)))) s6, (((f2 29 4 (by unfold w_X12_count; omega)).trans (f1 29 4 (by unfold w_X11_count; omega))).trans s7).trans ((f2 176 14 (by unfold w_X12_count; omega)).trans (f1 176 14 (by unfold w_X11_count; omega))).symm, (((f2 84 0 (by unfold w_X12_count; omega)).trans (f1 84 0 (by unfold w_X11_count; omega))).trans s8).trans ((f2 176 34 (by unfold w_X12_count; omega)).trans (f1 176 34 (by unfold w_X11_count; omega))).symm, (((f2 11 0 (by unfold w_X12_count; omega)).trans (f1 11 0 (by unfold w_X11_count; omega))).trans s9).trans ((f2 176 6 (by unfold w_X12_count; omega)).trans (f1 176 6 (by unfold w_X11_count; omega))).symm, (((f2 0 0 (by unfold w_X12_count; omega)).trans (f1 0 0 (by unfold w_X11_count; omega))).trans s10).trans ((f2 176 0 (by unfold w_X12_count; omega)).trans (f1 176 0 (by unfold w_X11_count; omega))).symm, jRo_fr (fun i k p1 p2 => ((f2 i k (by unfold w_X12_count; omega)).trans (f1 i k (by unfold w_X11_count; omega)))) (fun k => ((f2 180 k (by unfold w_X12_count; omega)).trans (f1 180 k (by unfold w_X11_count; omega)))) s11, jDe_fr (fun i k p1 p2 => ((f2 i k (by unfold w_X12_count; omega)).trans (f1 i k (by unfold w_X11_count; omega)))) ((f2 11 0 (by unfold w_X12_count; omega)).trans (f1 11 0 (by unfold w_X11_count; omega))) (fun i k p1 p2 => ((f2 i k (by unfold w_X12_count; omega)).trans (f1 i k (by unfold w_X11_count; omega)))) ((f2 176 6 (by unfold w_X12_count; omega)).trans (f1 176 6 (by unfold w_X11_count; omega))) s12, jTC_fr (fun i k p1 p2 => ((f2 i k (by unfold w_X12_count; omega)).trans (f1 i k (by unfold w_X11_count; omega)))) (fun k => ((f2 186 k (by unfold w_X12_count; omega)).trans (f1 186 k (by unfold w_X11_count; omega)))) s13, key.2.1, key.2.2⟩
theorem pr_stock {h g1 g2 : JH} {a1 x y : Int} (f1 : jfr w_X11_stock h g1) (f2 : jfr w_X12_stock g1 g2) (p : P_X11_stock a1 x h) (q : P_X12_stock a1 y g1) (s : jI h) : x = y ∧ jI g2 := by
  refine ⟨?_, pf_stock f1 f2 s⟩
  obtain ⟨s0, s1, s2, s3, s4, s5, s6, s7, s8, s9, s10, s11, s12, s13, s14, s15⟩ := s
  unfold P_X11_stock at p
  unfold P_X12_stock at q
  have e := f1 181 a1 (by unfold w_X11_stock; omega)
  rcases p with p | p <;> rcases q with q | q <;> first
    | omega
    | (have z := s14.1.1 a1 p.1.1 p.1.2; have e9 : h (29 + 1) a1 = h 30 a1 := rfl; omega)
set_option maxHeartbeats 4000000 in
theorem pr_basinOf {h g1 g2 : JH} {a1 a2 x y : Int} (f1 : jfr w_X11_basinOf h g1) (f2 : jfr w_X12_basinOf g1 g2) (p : P_X11_basinOf a1 a2 x h) (q : P_X12_basinOf a1 a2 y g1) (s : jI h) : x = y ∧ jI g2 := by
  refine ⟨?_, pf_basinOf f1 f2 s⟩
  obtain ⟨s0, s1, s2, s3, s4, s5, s6, s7, s8, s9, s10, s11, s12, s13, s14, s15⟩ := s
  unfold P_X11_basinOf at p
  unfold P_X12_basinOf at q
  have e2 := f1 202 a1 (by unfold w_X11_basinOf; omega)
  have e3 := f1 203 a1 (by unfold w_X11_basinOf; omega)
  rw [e2, e3] at q
  by_cases z : 0 ≤ a1 ∧ a1 < 6
  · have r := s14.1.2.1 a1 z.1 z.2
    have w := s14.2.2.1 a1 z.1 z.2
    unfold jBR at r
    have e9 : h (29 + 2) a1 = h 31 a1 := rfl
    rw [e9] at r
    clear e9 e2 e3
    by_cases y2 : h 202 a1 = 100
    · have w1 := w.1 y2
      clear w
      rcases p with p | ⟨p1, p⟩ <;> rcases q with q | ⟨q1, q⟩
      · omega
      · omega
      · omega
      · have r1 : h 31 a1 = -2 := by rcases r with r | r | r <;> omega
        clear r
        rcases p with p | p | p | p | p | p | p <;> rcases q with q | q | q | q | q | q | q | q <;> omega
    · have w1 := w.2 y2
      clear w
      rcases p with p | ⟨p1, p⟩ <;> rcases q with q | ⟨q1, q⟩
      · omega
      · omega
      · omega
      · have r1 : (h 31 a1 = -1 ∧ h 202 a1 = -1) ∨ (h 31 a1 = h 202 a1 ∧ 0 ≤ h 202 a1) := by
          rcases r with r | r | r
          · exact Or.inl r
          · omega
          · exact Or.inr ⟨r.1, r.2.1⟩
        clear r
        rcases p with p | p | p | p | p | p | p <;> rcases q with q | q | q | q | q | q | q | q <;> omega
  · rcases p with p | p <;> rcases q with q | q <;> omega
set_option maxHeartbeats 4000000 in
theorem pr_hullOf {h g1 g2 : JH} {a1 a2 x y : Int} (f1 : jfr w_X11_hullOf h g1) (f2 : jfr w_X12_hullOf g1 g2) (p : P_X11_hullOf a1 a2 x h) (q : P_X12_hullOf a1 a2 y g1) (s : jI h) : x = y ∧ jI g2 := by
  refine ⟨?_, pf_hullOf f1 f2 s⟩
  obtain ⟨s0, s1, s2, s3, s4, s5, s6, s7, s8, s9, s10, s11, s12, s13, s14, s15⟩ := s
  unfold P_X11_hullOf at p
  unfold P_X12_hullOf at q
  have e : ∀ i k : Int, 181 ≤ i → i ≤ 218 → g1 i k = h i k := fun i k a b => f1 i k (by unfold w_X11_hullOf; omega)
  rw [e 192 a1 (by decide) (by decide), e 193 a1 (by decide) (by decide), e 197 a1 (by decide) (by decide), e 190 a1 (by decide) (by decide), e 189 a1 (by decide) (by decide), e 191 a1 (by decide) (by decide), e 198 a1 (by decide) (by decide), e 195 a1 (by decide) (by decide), e 196 a1 (by decide) (by decide), f1 176 14 (by unfold w_X11_hullOf; omega)] at q
  rcases p with p | ⟨p1, p⟩ <;> rcases q with q | ⟨q1, q⟩
  · omega
  · omega
  · omega
  · have r := s14.1.2.2 a1 ⟨p1.1, by omega⟩
    have k9 := s14.2.1 a1 p1.1 (by omega)
    unfold jHR at r
    obtain ⟨⟨r0, r3, r4, r8, r9, _⟩, _, r5, _, r6⟩ := r
    have e9 : ∀ f : Int, h (29 + 7 + 3 * a1) f = h (36 + 3 * a1) f := fun f => rfl
    rw [e9 0] at r0; rw [e9 3] at r3; rw [e9 4] at r4; rw [e9 8] at r8; rw [e9 9] at r9; rw [e9 5, e9 6, e9 7] at r5; rw [e9 6, e9 7] at r6
    by_cases z : h 192 a1 = 1
    · have r5' := r5 z
      have r7 : h (36 + 3 * a1) 6 = h 195 a1 ∧ h (36 + 3 * a1) 7 = h 196 a1 := ⟨r5'.2.1, r5'.2.2.1⟩
      clear r5 r5' r6 e9 s14 e
      rcases p with p | p | p | p | p | p | p | p | p | p | p <;> rcases q with q | q | q | q | q | q | q | q | q | q | q | q <;> omega
    · have r7 := r6 z
      clear r5 r6 e9 s14 e
      rcases p with p | p | p | p | p | p | p | p | p | p | p <;> rcases q with q | q | q | q | q | q | q | q | q | q | q | q <;> omega
theorem pr_gap {h g1 g2 : JH} {a1 a2 x y : Int} (f1 : jfr w_X11_gap h g1) (f2 : jfr w_X12_gap g1 g2) (p : P_X11_gap a1 a2 x h) (q : P_X12_gap a1 a2 y g1) (s : jI h) : x = y ∧ jI g2 := by
  refine ⟨?_, pf_gap f1 f2 s⟩
  obtain ⟨s0, s1, s2, s3, s4, s5, s6, s7, s8, s9, s10, s11, s12, s13, s14, s15⟩ := s
  unfold P_X11_gap at p
  unfold P_X12_gap at q
  have e : ∀ i k : Int, 215 ≤ i → i ≤ 218 → g1 i k = h i k := fun i k a b => f1 i k (by unfold w_X11_gap; omega)
  rw [e 215 a1 (by decide) (by decide), e 216 a1 (by decide) (by decide), e 217 a1 (by decide) (by decide), e 218 a1 (by decide) (by decide), f1 176 45 (by unfold w_X11_gap; omega), ← s15.1] at q
  rcases p with p | ⟨p1, p⟩ <;> rcases q with q | ⟨q1, q⟩
  · omega
  · omega
  · omega
  · have l := s15.2 a1 p1.1 p1.2
    rcases p with p | p | p | p | p <;> rcases q with q | q | q | q | q <;> omega
theorem pr_worst {h g1 g2 : JH} {a1 x y : Int} (f1 : jfr w_X11_worst h g1) (f2 : jfr w_X12_worst g1 g2) (p : P_X11_worst a1 x h) (q : P_X12_worst a1 y g1) (s : jI h) (hl : 0 ≤ h 101 0) : x = y ∧ jI g2 := by
  refine ⟨?_, pf_worst f1 f2 s⟩
  obtain ⟨s0, s1, s2, s3, s4, s5, s6, s7, s8, s9, s10, s11, s12, s13, s14, s15⟩ := s
  unfold P_X11_worst at p
  unfold P_X12_worst at q
  have e : ∀ i k : Int, 215 ≤ i → i ≤ 218 → g1 i k = h i k := fun i k a b => f1 i k (by unfold w_X11_worst; omega)
  rw [jfn (fun k => e 215 k (by decide) (by decide)), jfn (fun k => e 216 k (by decide) (by decide)), jfn (fun k => e 217 k (by decide) (by decide)), jfn (fun k => e 218 k (by decide) (by decide)), f1 176 45 (by unfold w_X11_worst; omega), ← s15.1] at q
  have c := (jWst_c (G := h 215) (D := h 216) (P := h 217) (B := h 218) (G' := h 102) (D' := h 103) (P' := h 104) (B' := h 105) (g := a1) (h 101 0).toNat (fun i a b => s15.2 i a (by omega))).1
  rcases p with p | p <;> rcases q with q | q
  · omega
  · omega
  · omega
  · rw [p.2, q.2]; exact c
theorem jDR_of {h : JH} (s : jI h) (B : ∀ i k : Int, jbd i k (h i k)) : jDR False h h := by
  have s' := s
  obtain ⟨s0, s1, s2, s3, s4, s5, s6, s7, s8, s9, s10, s11, s12, s13, s14, s15⟩ := s
  have b14 := (jbf_12_14 jo_176 _).1 (B 176 14)
  have b0 := (jbf_12_0 jo_176 _).1 (B 176 0)
  refine ⟨⟨s7, b14.1, b14.2, s10, b0.1, s14.2.2.2⟩, s14.1, fun t b h0 h1 h2 h3 => ⟨⟨s13 t b h0 h1 h2 h3, (jba_186 _ _).1 (B 186 _)⟩, ⟨s5 t b h0 h1 h2 h3, (jba_187 _ _).1 (B 187 _)⟩, fun g a c => ?_⟩, s14.2.1, ⟨fun c d h0 h1 h2 => ?_, s12.1, fun k c d h0 h1 h2 h3 => ?_⟩, fun f => absurd f id⟩
  · have z := s6 t (b * 6 + g) h0 h1 (by omega) (by omega)
    rw [show 36 * t + (b * 6 + g) = 6 * (6 * t + b) + g by omega] at z
    exact ⟨z, (jba_188 _ _).1 (B 188 _)⟩
  · have b4 := (jba_4 c _).1 (B 4 c)
    exact ⟨jHd_eq s' h0 h1 b4.1 b4.2 (by
      by_cases z : h 4 c < 0
      · exact Or.inl z
      · exact Or.inr ((jba_10 _ _).1 (B 10 _)).2) h2, b4⟩
  · exact congrArg Prod.fst (s12.2.2 k c d h0 h1 h2 h3)
set_option maxHeartbeats 4000000 in
theorem pr_days {h g1 g2 : JH} {a1 : Int} (f1 : jfr w_X11_days h g1) (f2 : jfr w_X12_days g1 g2) (p : P_X11_days a1 h g1) (p2 : ((a1 < 0 ∨ 2000 - h 0 0 < a1) ∧ ∀ i k : Int, ¬ i = 1 → g1 i k = h i k) ∨ (0 ≤ a1 ∧ a1 ≤ 2000 - h 0 0 ∧ ∀ (fl : Prop) (hm : JH), jDR fl h hm → jDR fl g1 (jit jmDy a1.toNat hm) ∧ jRft hm (jit jmDy a1.toNat hm)))
    (q : P_X12_days a1 g1 g2) (q2 : ((a1 < 1 ∨ 2000 - g1 176 0 < a1) ∧ ∀ i k : Int, ¬ i = 219 → g2 i k = g1 i k) ∨ (1 ≤ a1 ∧ a1 ≤ 2000 - g1 176 0 ∧ g2 = jit jmDy a1.toNat g1)) (s : jI h) (B : ∀ i k : Int, jbd i k (h i k)) : jI g2 := by
  have S := jDR_of s B
  obtain ⟨s0, s1, s2, s3, s4, s5, s6, s7, s8, s9, s10, s11, s12, s13, s14, s15⟩ := s
  unfold P_X11_days at p
  unfold P_X12_days at q
  have A3 : g2 0 0 = g1 0 0 := f2 0 0 (by unfold w_X12_days; omega)
  have A4 : g1 176 0 = h 176 0 := f1 176 0 (by unfold w_X11_days; omega)
  have key : g2 0 0 = g2 176 0 := by rcases p with p | p | p <;> rcases q with q | q | q <;> omega
  have em : ∀ i k : Int, 176 ≤ i → i ≤ 228 → g1 i k = h i k := fun i k a b => f1 i k (by unfold w_X11_days; omega)
  have ec : ∀ i k : Int, jwy i k → g2 i k = g1 i k := fun i k w => f2 i k (by unfold jwy at w; unfold w_X12_days; omega)
  have pl : ∀ b : Int, g2 32 b = h 32 b ∧ g2 203 b = h 203 b := fun b => ⟨(f2 32 b (by unfold w_X12_days; omega)).trans (f1 32 b (by unfold w_X11_days; omega)), (f2 203 b (by unfold w_X12_days; omega)).trans (f1 203 b (by unfold w_X11_days; omega))⟩
  have yd : jYd2 g2 g2 := by
    rcases p2 with ⟨c, e⟩ | ⟨c1, c2, e⟩
    · rcases q2 with ⟨d, r⟩ | ⟨d1, d2, r⟩
      · exact jYd2_fr (fun i k w => by unfold jwy at w; exact (r i k (by omega)).trans (e i k (by omega))) (fun i k w => by unfold jmy at w; exact (r i k (by omega)).trans (e i k (by omega))) s14
      · exfalso; omega
    · rcases q2 with ⟨d, r⟩ | ⟨d1, d2, r⟩
      · have z : a1 = 0 := by omega
        have k := (e False h S).1
        rw [z] at k
        have k' : jDR False g1 h := k
        obtain ⟨⟨_, _, _, _, _, nd⟩, R, _, K, _, _⟩ := k'
        have Y1 : jYd2 g1 h := ⟨R, K, fun b a c => by rw [show g1 32 b = h 32 b from f1 32 b (by unfold w_X11_days; omega)]; exact s14.2.2.1 b a c, nd⟩
        exact jYd2_fr ec (fun i k w => by unfold jmy at w; exact (r i k (by omega)).trans (em i k (by omega) (by omega))) Y1
      · have S1 : jDR False h g1 := jDR_fr (fun _ _ _ => rfl) (fun i k w => by unfold jmk at w; exact em i k (by omega) (by omega)) S
        obtain ⟨k, ra⟩ := e False g1 S1
        rw [← r] at k ra
        obtain ⟨⟨_, _, _, _, _, nd⟩, R, _, K, _, _⟩ := k
        have Y1 : jYd2 g1 g2 := ⟨R, K, fun b a c => by
          rw [(pl b).2, show g1 32 b = h 32 b from f1 32 b (by unfold w_X11_days; omega)]
          have x1 := ra b
          rw [em 202 b (by decide) (by decide)] at x1
          have x2 := s14.2.2.1 b a c
          exact ⟨fun y => x2.1 (x1.1 y), fun y => x2.2 (fun w => y (x1.2 w))⟩, nd⟩
        exact jYd2_fr ec (fun _ _ _ => rfl) Y1
  exact ⟨jSm_fr (fun t => ((f2 3 t (by unfold w_X12_days; omega)).trans (f1 3 t (by unfold w_X11_days; omega)))) (fun t => ((f2 177 t (by unfold w_X12_days; omega)).trans (f1 177 t (by unfold w_X11_days; omega)))) s0, jSm_fr (fun t => ((f2 4 t (by unfold w_X12_days; omega)).trans (f1 4 t (by unfold w_X11_days; omega)))) (fun t => ((f2 178 t (by unfold w_X12_days; omega)).trans (f1 178 t (by unfold w_X11_days; omega)))) s1, jSm_fr (fun t => ((f2 10 t (by unfold w_X12_days; omega)).trans (f1 10 t (by unfold w_X11_days; omega)))) (fun t => ((f2 179 t (by unfold w_X12_days; omega)).trans (f1 179 t (by unfold w_X11_days; omega)))) s2, jSm_fr (fun t => ((f2 90 t (by unfold w_X12_days; omega)).trans (f1 90 t (by unfold w_X11_days; omega)))) (fun t => ((f2 204 t (by unfold w_X12_days; omega)).trans (f1 204 t (by unfold w_X11_days; omega)))) s3, jSm_fr (fun t => ((f2 92 t (by unfold w_X12_days; omega)).trans (f1 92 t (by unfold w_X11_days; omega)))) (fun t => ((f2 210 t (by unfold w_X12_days; omega)).trans (f1 210 t (by unfold w_X11_days; omega)))) s4, jT6_fr (fun i k p1 p2 => ((f2 i k (by unfold w_X12_days; omega)).trans (f1 i k (by unfold w_X11_days; omega)))) (fun k => ((f2 187 k (by unfold w_X12_days; omega)).trans (f1 187 k (by unfold w_X11_days; omega)))) s5, jTN_fr (fun i k p1 p2 => ((f2 i k (by unfold w_X12_days; omega)).trans (f1 i k (by unfold w_X11_days; omega)))) (fun k => ((f2 188 k (by unfold w_X12_days; omega)).trans (f1 188 k (by unfold w_X11_days; omega)))) s6, (((f2 29 4 (by unfold w_X12_days; omega)).trans (f1 29 4 (by unfold w_X11_days; omega))).trans s7).trans ((f2 176 14 (by unfold w_X12_days; omega)).trans (f1 176 14 (by unfold w_X11_days; omega))).symm, (((f2 84 0 (by unfold w_X12_days; omega)).trans (f1 84 0 (by unfold w_X11_days; omega))).trans s8).trans ((f2 176 34 (by unfold w_X12_days; omega)).trans (f1 176 34 (by unfold w_X11_days; omega))).symm, (((f2 11 0 (by unfold w_X12_days; omega)).trans (f1 11 0 (by unfold w_X11_days; omega))).trans s9).trans ((f2 176 6 (by unfold w_X12_days; omega)).trans (f1 176 6 (by unfold w_X11_days; omega))).symm, key, jRo_fr (fun i k p1 p2 => ((f2 i k (by unfold w_X12_days; omega)).trans (f1 i k (by unfold w_X11_days; omega)))) (fun k => ((f2 180 k (by unfold w_X12_days; omega)).trans (f1 180 k (by unfold w_X11_days; omega)))) s11, jDe_fr (fun i k p1 p2 => ((f2 i k (by unfold w_X12_days; omega)).trans (f1 i k (by unfold w_X11_days; omega)))) ((f2 11 0 (by unfold w_X12_days; omega)).trans (f1 11 0 (by unfold w_X11_days; omega))) (fun i k p1 p2 => ((f2 i k (by unfold w_X12_days; omega)).trans (f1 i k (by unfold w_X11_days; omega)))) ((f2 176 6 (by unfold w_X12_days; omega)).trans (f1 176 6 (by unfold w_X11_days; omega))) s12, jTC_fr (fun i k p1 p2 => ((f2 i k (by unfold w_X12_days; omega)).trans (f1 i k (by unfold w_X11_days; omega)))) (fun k => ((f2 186 k (by unfold w_X12_days; omega)).trans (f1 186 k (by unfold w_X11_days; omega)))) s13, yd, jLe_fr ((f2 101 0 (by unfold w_X12_days; omega)).trans (f1 101 0 (by unfold w_X11_days; omega))) (fun i k p1 p2 => ((f2 i k (by unfold w_X12_days; omega)).trans (f1 i k (by unfold w_X11_days; omega)))) ((f2 176 45 (by unfold w_X12_days; omega)).trans (f1 176 45 (by unfold w_X11_days; omega))) (fun i k p1 p2 => ((f2 i k (by unfold w_X12_days; omega)).trans (f1 i k (by unfold w_X11_days; omega)))) s15⟩
