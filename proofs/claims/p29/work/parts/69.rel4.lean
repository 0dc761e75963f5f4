set_option maxHeartbeats 4000000 in
theorem pr_part {h g1 g2 : JH} {a1 a2 a3 a4 a5 x y : Int} (f1 : jfr w_X11_part h g1) (f2 : jfr w_X12_part g1 g2) (p : P_X11_part a1 a2 a3 a4 a5 x h g1) (q : P_X12_part a1 a2 a3 a4 a5 y g1 g2) (s : jI h) (hs : ∀ k : Int, 0 ≤ h 92 k ∧ h 92 k ≤ 6) : x = y ∧ jI g2 := by
  obtain ⟨s0, s1, s2, s3, s4, s5, s6, s7, s8, s9, s10, s11, s12, s13, s14, s15, s16, s17, s18⟩ := s
  unfold P_X11_part at p
  unfold P_X12_part at q
  have e21 : g1 210 a1 = h 210 a1 := f1 210 a1 (by unfold w_X11_part; omega)
  have A5 : ¬ (0 ≤ a1 ∧ a1 < 3) ∨ h 92 a1 = h 210 a1 := by
    by_cases z : 0 ≤ a1 ∧ a1 < 3
    · exact Or.inr (s4 a1 z.1 z.2)
    · exact Or.inl z
  have key : x = y ∧ jSm 92 210 3 g2 ∧ jGv g2 := by
    rcases p with ⟨c, e⟩ | ⟨c, e⟩ | ⟨c, e⟩ | ⟨c, cx, e⟩ <;> rcases q with ⟨d, r⟩ | ⟨d, r⟩ | ⟨d, r⟩ | ⟨d, dx, r⟩
    · exact ⟨by omega, jSm_fr (fun t => (r 92 t (by decide)).trans (e 92 t (by decide) (by decide))) (fun t => (r 210 t (by decide)).trans (e 210 t (by decide) (by decide))) s4, jGv_fr (fun i k p1 p2 => ((r i k (by omega)).trans (e i k (by omega) (by omega)))) (fun i k p1 p2 => ((r i k (by omega)).trans (e i k (by omega) (by omega)))) ((r 176 34 (by omega)).trans (e 176 34 (by omega) (by omega))) ((r 176 0 (by omega)).trans (e 176 0 (by omega) (by omega))) (fun i k p1 p2 => ((r i k (by omega)).trans (e i k (by omega) (by omega)))) (fun i k p1 p2 => ((r i k (by omega)).trans (e i k (by omega) (by omega)))) (fun i p1 p2 => ((r i 10 (by omega)).trans (e i 10 (by omega) (by omega)))) (fun k => ((r 201 k (by omega)).trans (e 201 k (by omega) (by omega)))) s16⟩
    · exfalso; omega
    · exfalso; omega
    · exfalso; omega
    · exfalso; omega
    · exact ⟨by omega, jSm_fr (fun t => (r 92 t (by decide)).trans (e 92 t (by decide) (by decide))) (fun t => (r 210 t (by decide)).trans (e 210 t (by decide) (by decide))) s4, jGv_fr (fun i k p1 p2 => ((r i k (by omega)).trans (e i k (by omega) (by omega)))) (fun i k p1 p2 => ((r i k (by omega)).trans (e i k (by omega) (by omega)))) ((r 176 34 (by omega)).trans (e 176 34 (by omega) (by omega))) ((r 176 0 (by omega)).trans (e 176 0 (by omega) (by omega))) (fun i k p1 p2 => ((r i k (by omega)).trans (e i k (by omega) (by omega)))) (fun i k p1 p2 => ((r i k (by omega)).trans (e i k (by omega) (by omega)))) (fun i p1 p2 => ((r i 10 (by omega)).trans (e i 10 (by omega) (by omega)))) (fun k => ((r 201 k (by omega)).trans (e 201 k (by omega) (by omega)))) s16⟩
    · exfalso; omega
    · exfalso; omega
    · exfalso; omega
    · exfalso; omega
    · exact ⟨by omega, jSm_fr (fun t => (r 92 t (by decide)).trans (e 92 t (by decide) (by decide))) (fun t => (r 210 t (by decide)).trans (e 210 t (by decide) (by decide))) s4, jGv_fr (fun i k p1 p2 => ((r i k (by omega)).trans (e i k (by omega) (by omega)))) (fun i k p1 p2 => ((r i k (by omega)).trans (e i k (by omega) (by omega)))) ((r 176 34 (by omega)).trans (e 176 34 (by omega) (by omega))) ((r 176 0 (by omega)).trans (e 176 0 (by omega) (by omega))) (fun i k p1 p2 => ((r i k (by omega)).trans (e i k (by omega) (by omega)))) (fun i k p1 p2 => ((r i k (by omega)).trans (e i k (by omega) (by omega)))) (fun i p1 p2 => ((r i 10 (by omega)).trans (e i 10 (by omega) (by omega)))) (fun k => ((r 201 k (by omega)).trans (e 201 k (by omega) (by omega)))) s16⟩
    · exfalso; omega
    · exfalso; omega
    · exfalso; omega
    · exfalso; omega
    · have tc : ∀ i k : Int, ¬ i = 1 → ¬ i = 111 → g1 i k = if i = 92 ∧ k = a1 then h 92 a1 + 1 else if i = 96 ∧ k = a1 * 6 + h 92 a1 then a5 else if i = 95 ∧ k = a1 * 6 + h 92 a1 then a4 else if i = 94 ∧ k = a1 * 6 + h 92 a1 then a3 else if i = 93 ∧ k = a1 * 6 + h 92 a1 then a2 else h i k := fun i k u w => (e i k u w).trans rfl
      have tm : ∀ i k : Int, ¬ i = 219 → g2 i k = if i = 210 ∧ k = a1 then g1 210 a1 + 1 else if i = 214 ∧ k = 6 * a1 + g1 210 a1 then a5 else if i = 213 ∧ k = 6 * a1 + g1 210 a1 then a4 else if i = 212 ∧ k = 6 * a1 + g1 210 a1 then a3 else if i = 211 ∧ k = 6 * a1 + g1 210 a1 then a2 else g1 i k := fun i k u => (r i k u).trans rfl
      have e21 : g1 210 a1 = h 210 a1 := f1 210 a1 (by unfold w_X11_part; omega)
      have e22 := s4 a1 (by omega) (by omega)
      have hb := hs a1
      have oc : ∀ i k : Int, ¬ i = 1 → ¬ i = 111 → ¬ i = 219 → ¬ (i = 92 ∧ k = a1) → ¬ (i = 210 ∧ k = a1) → ¬ (93 ≤ i ∧ i ≤ 96 ∧ k = a1 * 6 + h 92 a1) → ¬ (211 ≤ i ∧ i ≤ 214 ∧ k = 6 * a1 + h 92 a1) → g2 i k = h i k := fun i k w1 w2 w3 w4 w5 w6 w7 => by rw [tm i k w3, if_neg (by omega), if_neg (by omega), if_neg (by omega), if_neg (by omega), if_neg (by omega), tc i k w1 w2, if_neg (by omega), if_neg (by omega), if_neg (by omega), if_neg (by omega), if_neg (by omega)]
      have n1 : ∀ s : Int, g2 92 s = if s = a1 then h 92 a1 + 1 else h 92 s := fun s => by
        by_cases z : s = a1
        · rw [if_pos z, z, tm 92 a1 (by decide), if_neg (by omega), if_neg (by omega), if_neg (by omega), if_neg (by omega), if_neg (by omega), tc 92 a1 (by decide) (by decide), if_pos ⟨rfl, rfl⟩]
        · rw [if_neg z, oc 92 s (by decide) (by decide) (by decide) (by omega) (by omega) (by omega) (by omega)]
      refine ⟨by omega, fun t a b => ?_, fun t a b => ?_, jG9_fr (fun t => oc 207 t (by decide) (by decide) (by decide) (by omega) (by omega) (by omega) (by omega)) (oc 176 0 (by decide) (by decide) (by decide) (by omega) (by omega) (by omega) (by omega)) s16.2.1, fun s i a b c f => ?_, fun k a b => ?_⟩
      · rw [n1 t]
        by_cases z : t = a1
        · rw [if_pos z, z, tm 210 a1 (by decide), if_pos ⟨rfl, rfl⟩]; omega
        · rw [if_neg z, oc 210 t (by decide) (by decide) (by decide) (by omega) (by omega) (by omega) (by omega)]; exact s4 t a b
      · rw [oc 176 34 (by decide) (by decide) (by decide) (by omega) (by omega) (by omega) (by omega)] at b
        rw [oc 85 t (by decide) (by decide) (by decide) (by omega) (by omega) (by omega) (by omega), oc 86 t (by decide) (by decide) (by decide) (by omega) (by omega) (by omega) (by omega), oc 87 t (by decide) (by decide) (by decide) (by omega) (by omega) (by omega) (by omega), oc 88 t (by decide) (by decide) (by decide) (by omega) (by omega) (by omega) (by omega), oc 89 t (by decide) (by decide) (by decide) (by omega) (by omega) (by omega) (by omega), oc 205 t (by decide) (by decide) (by decide) (by omega) (by omega) (by omega) (by omega), oc 206 t (by decide) (by decide) (by decide) (by omega) (by omega) (by omega) (by omega), oc 207 t (by decide) (by decide) (by decide) (by omega) (by omega) (by omega) (by omega), oc 208 t (by decide) (by decide) (by decide) (by omega) (by omega) (by omega) (by omega), oc 209 t (by decide) (by decide) (by decide) (by omega) (by omega) (by omega) (by omega)]
        exact s16.1 t a b
      · rw [n1 s] at f
        by_cases z : s = a1 ∧ i = h 92 a1
        · obtain ⟨z1, z2⟩ := z
          have v : g2 93 (s * 6 + i) = a2 ∧ g2 94 (s * 6 + i) = a3 ∧ g2 95 (s * 6 + i) = a4 ∧ g2 96 (s * 6 + i) = a5 ∧ g2 211 (6 * s + i) = a2 ∧ g2 212 (6 * s + i) = a3 ∧ g2 213 (6 * s + i) = a4 ∧ g2 214 (6 * s + i) = a5 := by
            refine ⟨?_, ?_, ?_, ?_, ?_, ?_, ?_, ?_⟩
            · rw [tm 93 _ (by decide), if_neg (by omega), if_neg (by omega), if_neg (by omega), if_neg (by omega), if_neg (by omega), tc 93 _ (by decide) (by decide), if_neg (by omega), if_neg (by omega), if_neg (by omega), if_neg (by omega), if_pos ⟨rfl, by rw [z1, z2]⟩]
            · rw [tm 94 _ (by decide), if_neg (by omega), if_neg (by omega), if_neg (by omega), if_neg (by omega), if_neg (by omega), tc 94 _ (by decide) (by decide), if_neg (by omega), if_neg (by omega), if_neg (by omega), if_pos ⟨rfl, by rw [z1, z2]⟩]
            · rw [tm 95 _ (by decide), if_neg (by omega), if_neg (by omega), if_neg (by omega), if_neg (by omega), if_neg (by omega), tc 95 _ (by decide) (by decide), if_neg (by omega), if_neg (by omega), if_pos ⟨rfl, by rw [z1, z2]⟩]
            · rw [tm 96 _ (by decide), if_neg (by omega), if_neg (by omega), if_neg (by omega), if_neg (by omega), if_neg (by omega), tc 96 _ (by decide) (by decide), if_neg (by omega), if_pos ⟨rfl, by rw [z1, z2]⟩]
            · rw [tm 211 _ (by decide), if_neg (by omega), if_neg (by omega), if_neg (by omega), if_neg (by omega), if_pos ⟨rfl, by rw [z1, z2]; omega⟩]
            · rw [tm 212 _ (by decide), if_neg (by omega), if_neg (by omega), if_neg (by omega), if_pos ⟨rfl, by rw [z1, z2]; omega⟩]
            · rw [tm 213 _ (by decide), if_neg (by omega), if_neg (by omega), if_pos ⟨rfl, by rw [z1, z2]; omega⟩]
            · rw [tm 214 _ (by decide), if_neg (by omega), if_pos ⟨rfl, by rw [z1, z2]; omega⟩]
          omega
        · have f2 : i < h 92 s := by
            by_cases y : s = a1
            · rw [if_pos y] at f; rw [y]; omega
            · rw [if_neg y] at f; exact f
          have hb2 := hs s
          rw [oc 93 (s * 6 + i) (by decide) (by decide) (by decide) (by omega) (by omega) (by omega) (by omega), oc 94 (s * 6 + i) (by decide) (by decide) (by decide) (by omega) (by omega) (by omega) (by omega), oc 95 (s * 6 + i) (by decide) (by decide) (by decide) (by omega) (by omega) (by omega) (by omega), oc 96 (s * 6 + i) (by decide) (by decide) (by decide) (by omega) (by omega) (by omega) (by omega)]
          rw [oc 211 (6 * s + i) (by decide) (by decide) (by decide) (by omega) (by omega) (by omega) (by omega), oc 212 (6 * s + i) (by decide) (by decide) (by decide) (by omega) (by omega) (by omega) (by omega), oc 213 (6 * s + i) (by decide) (by decide) (by decide) (by omega) (by omega) (by omega) (by omega), oc 214 (6 * s + i) (by decide) (by decide) (by decide) (by omega) (by omega) (by omega) (by omega)]
          exact s16.2.2.1 s i a b c f2
      · rw [oc _ 10 (by omega) (by omega) (by omega) (by omega) (by omega) (by omega) (by omega), oc 201 k (by decide) (by decide) (by decide) (by omega) (by omega) (by omega) (by omega)]; exact s16.2.2.2 k a b
  try clear p
  try clear q
  exact ⟨key.1, jSm_fr (fun t => ((f2 3 t (by unfold w_X12_part; omega)).trans (f1 3 t (by unfold w_X11_part; omega)))) (fun t => ((f2 177 t (by unfold w_X12_part; omega)).trans (f1 177 t (by unfold w_X11_part; omega)))) s0, jSm_fr (fun t => ((f2 4 t (by unfold w_X12_part; omega)).trans (f1 4 t (by unfold w_X11_part; omega)))) (fun t => ((f2 178 t (by unfold w_X12_part; omega)).trans (f1 178 t (by unfold w_X11_part; omega)))) s1, jSm_fr (fun t => ((f2 10 t (by unfold w_X12_part; omega)).trans (f1 10 t (by unfold w_X11_part; omega)))) (fun t => ((f2 179 t (by unfold w_X12_part; omega)).trans (f1 179 t (by unfold w_X11_part; omega)))) s2, jSm_fr (fun t => ((f2 90 t (by unfold w_X12_part; omega)).trans (f1 90 t (by unfold w_X11_part; omega)))) (fun t => ((f2 204 t (by unfold w_X12_part; omega)).trans (f1 204 t (by unfold w_X11_part; omega)))) s3, key.2.1, jT6_fr (fun i k p1 p2 => ((f2 i k (by unfold w_X12_part; omega)).trans (f1 i k (by unfold w_X11_part; omega)))) (fun k => ((f2 187 k (by unfold w_X12_part; omega)).trans (f1 187 k (by unfold w_X11_part; omega)))) s5, jTN_fr (fun i k p1 p2 => ((f2 i k (by unfold w_X12_part; omega)).trans (f1 i k (by unfold w_X11_part; omega)))) (fun k => ((f2 188 k (by unfold w_X12_part; omega)).trans (f1 188 k (by unfold w_X11_part; omega)))) s6, (((f2 29 4 (by unfold w_X12_part; omega)).trans (f1 29 4 (by unfold w_X11_part; omega))).trans s7).trans ((f2 176 14 (by unfold w_X12_part; omega)).trans (f1 176 14 (by unfold w_X11_part; omega))).symm, (((f2 84 0 (by unfold w_X12_part; omega)).trans (f1 84 0 (by unfold w_X11_part; omega))).trans s8).trans ((f2 176 34 (by unfold w_X12_part; omega)).trans (f1 176 34 (by unfold w_X11_part; omega))).symm, (((f2 11 0 (by unfold w_X12_part; omega)).trans (f1 11 0 (by unfold w_X11_part; omega))).trans s9).trans ((f2 176 6 (by unfold w_X12_part; omega)).trans (f1 176 6 (by unfold w_X11_part; omega))).symm, (((f2 0 0 (by unfold w_X12_part; omega)).trans (f1 0 0 (by unfold w_X11_part; omega))).trans s10).trans ((f2 176 0 (by unfold w_X12_part; omega)).trans (f1 176 0 (by unfold w_X11_part; omega))).symm, jRo_fr (fun i k p1 p2 => ((f2 i k (by unfold w_X12_part; omega)).trans (f1 i k (by unfold w_X11_part; omega)))) (fun k => ((f2 180 k (by unfold w_X12_part; omega)).trans (f1 180 k (by unfold w_X11_part; omega)))) s11, jDe_fr (fun i k p1 p2 => ((f2 i k (by unfold w_X12_part; omega)).trans (f1 i k (by unfold w_X11_part; omega)))) ((f2 11 0 (by unfold w_X12_part; omega)).trans (f1 11 0 (by unfold w_X11_part; omega))) (fun i k p1 p2 => ((f2 i k (by unfold w_X12_part; omega)).trans (f1 i k (by unfold w_X11_part; omega)))) ((f2 176 6 (by unfold w_X12_part; omega)).trans (f1 176 6 (by unfold w_X11_part; omega))) s12, jTC_fr (fun i k p1 p2 => ((f2 i k (by unfold w_X12_part; omega)).trans (f1 i k (by unfold w_X11_part; omega)))) (fun k => ((f2 186 k (by unfold w_X12_part; omega)).trans (f1 186 k (by unfold w_X11_part; omega)))) s13, jYd2_fr (fun i k q => by unfold jwy at q; exact ((f2 i k (by unfold w_X12_part; omega)).trans (f1 i k (by unfold w_X11_part; omega)))) (fun i k q => by unfold jmy at q; exact ((f2 i k (by unfold w_X12_part; omega)).trans (f1 i k (by unfold w_X11_part; omega)))) s14, jLe_fr ((f2 101 0 (by unfold w_X12_part; omega)).trans (f1 101 0 (by unfold w_X11_part; omega))) (fun i k p1 p2 => ((f2 i k (by unfold w_X12_part; omega)).trans (f1 i k (by unfold w_X11_part; omega)))) ((f2 176 45 (by unfold w_X12_part; omega)).trans (f1 176 45 (by unfold w_X11_part; omega))) (fun i k p1 p2 => ((f2 i k (by unfold w_X12_part; omega)).trans (f1 i k (by unfold w_X11_part; omega)))) s15, key.2.2, jAh_fr (fun i k q => by unfold jma at q; exact ((f2 i k (by unfold w_X12_part; omega)).trans (f1 i k (by unfold w_X11_part; omega)))) (fun i k q => by unfold jwh3 at q; exact ((f2 i k (by unfold w_X12_part; omega)).trans (f1 i k (by unfold w_X11_part; omega)))) s17, jS9_fr (fun k p1 p2 => ((f2 198 k (by unfold w_X12_part; omega)).trans (f1 198 k (by unfold w_X11_part; omega)))) ((f2 176 0 (by unfold w_X12_part; omega)).trans (f1 176 0 (by unfold w_X11_part; omega))) s18⟩
theorem jDR_of {h : JH} (s : jI h) (B : ∀ i k : Int, jbd i k (h i k)) : jDR True h h := by
  have s' := s
  obtain ⟨s0, s1, s2, s3, s4, s5, s6, s7, s8, s9, s10, s11, s12, s13, s14, s15, s16, s17, s18⟩ := s
  have b14 := (jbf_12_14 jo_176 _).1 (B 176 14)
  have b0 := (jbf_12_0 jo_176 _).1 (B 176 0)
  refine ⟨⟨s7, b14.1, b14.2, s10, b0.1, s14.2.2.2⟩, s14.1, fun t b h0 h1 h2 h3 => ⟨⟨s13 t b h0 h1 h2 h3, (jba_186 _ _).1 (B 186 _)⟩, ⟨s5 t b h0 h1 h2 h3, (jba_187 _ _).1 (B 187 _)⟩, fun g a c => ?_⟩, s14.2.1, ⟨fun c d h0 h1 h2 => ?_, s12.1, fun k c d h0 h1 h2 h3 => ?_⟩, fun _ => ⟨s8, fun t a b => ?_, fun w a b => s3 w a b⟩⟩
  · have z := s6 t (b * 6 + g) h0 h1 (by omega) (by omega)
    rw [show 36 * t + (b * 6 + g) = 6 * (6 * t + b) + g by omega] at z
    exact ⟨z, (jba_188 _ _).1 (B 188 _)⟩
  · have b4 := (jba_4 c _).1 (B 4 c)
    exact ⟨jHd_eq s' h0 h1 b4.1 b4.2 (by
      by_cases z : h 4 c < 0
      · exact Or.inl z
      · exact Or.inr ((jba_10 _ _).1 (B 10 _)).2) h2, b4⟩
  · exact congrArg Prod.fst (s12.2.2 k c d h0 h1 h2 h3)
  · obtain ⟨⟨r1, r2, r3, r4, r5⟩, r6⟩ := s16.1 t a b
    exact ⟨r1, r3, by omega, r4, r5⟩
theorem jDF_of {h : JH} (s : jI h) (B : ∀ i k : Int, jbd i k (h i k)) : jDR False h h := by
  obtain ⟨a, b, c, d, e, _⟩ := jDR_of s B
  exact ⟨a, b, c, d, e, fun f => f.elim⟩
theorem jI_ah {h : JH} (s : jI h) : jAh h := by
  obtain ⟨s0, s1, s2, s3, s4, s5, s6, s7, s8, s9, s10, s11, s12, s13, s14, s15, s16, s17, s18⟩ := s
  exact s17
theorem jI_bk {h g1 : JH} {a1 : Int} (s : jI h) (f1 : jfr w_X11_breakUp h g1) (h16 : h 29 4 ≤ 16) (b : ¬ (0 ≤ a1 ∧ a1 < h 29 4 ∧ h (36 + 3 * a1) 3 = 2)) : ¬ (0 ≤ a1 ∧ a1 < g1 176 14 ∧ g1 192 a1 = 2) := by
  obtain ⟨s0, s1, s2, s3, s4, s5, s6, s7, s8, s9, s10, s11, s12, s13, s14, s15, s16, s17, s18⟩ := s
  rw [f1 176 14 (by unfold w_X11_breakUp; omega), f1 192 a1 (by unfold w_X11_breakUp; omega)]
  rintro ⟨z1, z2, z3⟩
  have u : h (36 + 3 * a1) 3 = h 192 a1 := (s14.1.2.2 a1 ⟨z1, by omega⟩).1.2.1
  exact b ⟨z1, by omega, by omega⟩
set_option maxHeartbeats 4000000 in
theorem pr_days {h g1 g2 : JH} {a1 : Int} (f1 : jfr w_X11_days h g1) (f2 : jfr w_X12_days g1 g2) (p : P_X11_days a1 h g1) (p2 : ((a1 < 0 ∨ 2000 - h 0 0 < a1) ∧ ∀ i k : Int, ¬ i = 1 → g1 i k = h i k) ∨ (0 ≤ a1 ∧ a1 ≤ 2000 - h 0 0 ∧ ∀ (fl : Prop) (hm : JH), jDR fl h hm → jDR fl g1 (jit jmDy a1.toNat hm) ∧ jRft hm (jit jmDy a1.toNat hm)))
    (q : P_X12_days a1 g1 g2) (q2 : ((a1 < 1 ∨ 2000 - g1 176 0 < a1) ∧ ∀ i k : Int, ¬ i = 219 → g2 i k = g1 i k) ∨ (1 ≤ a1 ∧ a1 ≤ 2000 - g1 176 0 ∧ g2 = jit jmDy a1.toNat g1)) (s : jI h) (B : ∀ i k : Int, jbd i k (h i k)) (t10 : ∀ i : Int, 36 ≤ i → i ≤ 83 → g1 i 10 = h i 10) (q9 : jG9 g1 → jG9 g2) (fg : jFg (a1 < 0 ∨ 2000 - h 0 0 < a1) h g1) : jI g2 := by
  have S := jDR_of s B
  obtain ⟨s0, s1, s2, s3, s4, s5, s6, s7, s8, s9, s10, s11, s12, s13, s14, s15, s16, s17, s18⟩ := s
  unfold P_X11_days at p
  unfold P_X12_days at q
  have A3 : g2 0 0 = g1 0 0 := f2 0 0 (by unfold w_X12_days; omega)
  have A4 : g1 176 0 = h 176 0 := f1 176 0 (by unfold w_X11_days; omega)
  have key : g2 0 0 = g2 176 0 := by rcases p with p | p | p <;> rcases q with q | q | q <;> omega
  have em : ∀ i k : Int, 176 ≤ i → i ≤ 228 → g1 i k = h i k := fun i k a b => f1 i k (by unfold w_X11_days; omega)
  have ec : ∀ i k : Int, jwy i k → g2 i k = g1 i k := fun i k w => f2 i k (by unfold jwy at w; unfold w_X12_days; omega)
  have pl : ∀ b : Int, g2 32 b = h 32 b ∧ g2 203 b = h 203 b := fun b => ⟨(f2 32 b (by unfold w_X12_days; omega)).trans (f1 32 b (by unfold w_X11_days; omega)), (f2 203 b (by unfold w_X12_days; omega)).trans (f1 203 b (by unfold w_X11_days; omega))⟩
  have yd : jYd2 g2 g2 ∧ ∀ t : Int, 0 ≤ t → t < h 176 34 → g2 87 t = g2 207 t := by
    rcases p2 with ⟨c, e⟩ | ⟨c1, c2, e⟩
    · rcases q2 with ⟨d, r⟩ | ⟨d1, d2, r⟩
      · exact ⟨jYd2_fr (fun i k w => by unfold jwy at w; exact (r i k (by omega)).trans (e i k (by omega))) (fun i k w => by unfold jmy at w; exact (r i k (by omega)).trans (e i k (by omega))) s14, fun t a b => by rw [r 87 t (by decide), r 207 t (by decide), e 87 t (by decide), e 207 t (by decide)]; exact (s16.1 t a b).1.2.2.1⟩
      · exfalso; omega
    · rcases q2 with ⟨d, r⟩ | ⟨d1, d2, r⟩
      · have z : a1 = 0 := by omega
        have k := (e True h S).1
        rw [z] at k
        have k' : jDR True g1 h := k
        obtain ⟨⟨_, _, _, _, _, nd⟩, R, _, K, _, tr⟩ := k'
        have Y1 : jYd2 g1 h := ⟨R, K, fun b a c => by rw [show g1 32 b = h 32 b from f1 32 b (by unfold w_X11_days; omega)]; exact s14.2.2.1 b a c, nd⟩
        exact ⟨jYd2_fr ec (fun i k w => by unfold jmy at w; exact (r i k (by omega)).trans (em i k (by omega) (by omega))) Y1, fun t a b => by rw [r 87 t (by decide), r 207 t (by decide), em 207 t (by decide) (by decide)]; exact ((tr trivial).2.1 t a b).2.1⟩
      · have S1 : jDR True h g1 := jDR_fr (fun _ _ _ => rfl) (fun i k w => by unfold jmk at w; exact em i k (by omega) (by omega)) S
        obtain ⟨k, ra⟩ := e True g1 S1
        rw [← r] at k ra
        obtain ⟨⟨_, _, _, _, _, nd⟩, R, _, K, _, tr⟩ := k
        have Y1 : jYd2 g1 g2 := ⟨R, K, fun b a c => by
          rw [(pl b).2, show g1 32 b = h 32 b from f1 32 b (by unfold w_X11_days; omega)]
          have x1 := ra b
          rw [em 202 b (by decide) (by decide)] at x1
          have x2 := s14.2.2.1 b a c
          exact ⟨fun y => x2.1 (x1.1 y), fun y => x2.2 (fun w => y (x1.2 w))⟩, nd⟩
        exact ⟨jYd2_fr ec (fun _ _ _ => rfl) Y1, fun t a b => by
          have t34 : g2 176 34 = h 176 34 := (f2 176 34 (by unfold w_X12_days; omega)).trans (em 176 34 (by decide) (by decide))
          rw [f2 87 t (by unfold w_X12_days; omega)]; exact ((tr trivial).2.1 t a (by omega)).2.1⟩
  have t34 : g2 176 34 = h 176 34 := (f2 176 34 (by unfold w_X12_days; omega)).trans (em 176 34 (by decide) (by decide))
  have c5 : ∀ i k : Int, (84 ≤ i ∧ i ≤ 86) ∨ (88 ≤ i ∧ i ≤ 96) → g2 i k = h i k := fun i k w => (f2 i k (by unfold w_X12_days; omega)).trans (f1 i k (by unfold w_X11_days; omega))
  have m5 : ∀ i k : Int, i = 201 ∨ (205 ≤ i ∧ i ≤ 206) ∨ (208 ≤ i ∧ i ≤ 214) → g2 i k = h i k := fun i k w => (f2 i k (by unfold w_X12_days; omega)).trans (em i k (by omega) (by omega))
  have gv : jGv g2 := by
    refine ⟨fun t a b => ?_, q9 (jG9_fr (fun t => em 207 t (by decide) (by decide)) A4 s16.2.1), fun s i a b c d => ?_, fun k a b => ?_⟩
    · rw [t34] at b
      obtain ⟨⟨r1, r2, r3, r4, r5⟩, r6⟩ := s16.1 t a b
      rw [c5 85 t (by omega), c5 86 t (by omega), c5 88 t (by omega), c5 89 t (by omega), m5 205 t (by omega), m5 206 t (by omega), m5 208 t (by omega), m5 209 t (by omega)]
      exact ⟨⟨r1, r2, yd.2 t a b, r4, r5⟩, r6⟩
    · rw [c5 93 _ (by omega), c5 94 _ (by omega), c5 95 _ (by omega), c5 96 _ (by omega), m5 211 _ (by omega), m5 212 _ (by omega), m5 213 _ (by omega), m5 214 _ (by omega)]
      exact s16.2.2.1 s i a b c (by rw [← c5 92 s (by omega)]; exact d)
    · rw [(f2 _ 10 (by unfold w_X12_days; omega) : g2 (36 + 3 * k) 10 = g1 (36 + 3 * k) 10), t10 _ (by omega) (by omega), m5 201 k (by omega)]
      exact s16.2.2.2 k a b
  have ah : jAh g2 := jAh_m fg (fun b i k w => by
    rcases q2 with ⟨d, r⟩ | ⟨d1, d2, r⟩
    · exact r i k (by unfold jma at w; omega)
    · exfalso; omega) (fun k => f2 111 k (by unfold w_X12_days; omega)) (fun i k w => f2 i k (by unfold jwh3 at w; unfold w_X12_days; omega)) s17
  have n9 : jS9 g2 := by
    have i9 : jS9 g1 := jS9_fr (fun k _ _ => em 198 k (by decide) (by decide)) A4 s18
    rcases q2 with ⟨d, r⟩ | ⟨d1, d2, r⟩
    · exact jS9_fr (fun k _ _ => r 198 k (by decide)) (r 176 0 (by decide)) i9
    · rw [r]; exact (jS9_dy (by rw [A4]; exact ((jbf_12_0 jo_176 _).1 (B 176 0)).1) i9 _).1
  exact ⟨jSm_fr (fun t => ((f2 3 t (by unfold w_X12_days; omega)).trans (f1 3 t (by unfold w_X11_days; omega)))) (fun t => ((f2 177 t (by unfold w_X12_days; omega)).trans (f1 177 t (by unfold w_X11_days; omega)))) s0, jSm_fr (fun t => ((f2 4 t (by unfold w_X12_days; omega)).trans (f1 4 t (by unfold w_X11_days; omega)))) (fun t => ((f2 178 t (by unfold w_X12_days; omega)).trans (f1 178 t (by unfold w_X11_days; omega)))) s1, jSm_fr (fun t => ((f2 10 t (by unfold w_X12_days; omega)).trans (f1 10 t (by unfold w_X11_days; omega)))) (fun t => ((f2 179 t (by unfold w_X12_days; omega)).trans (f1 179 t (by unfold w_X11_days; omega)))) s2, jSm_fr (fun t => ((f2 90 t (by unfold w_X12_days; omega)).trans (f1 90 t (by unfold w_X11_days; omega)))) (fun t => ((f2 204 t (by unfold w_X12_days; omega)).trans (f1 204 t (by unfold w_X11_days; omega)))) s3, jSm_fr (fun t => ((f2 92 t (by unfold w_X12_days; omega)).trans (f1 92 t (by unfold w_X11_days; omega)))) (fun t => ((f2 210 t (by unfold w_X12_days; omega)).trans (f1 210 t (by unfold w_X11_days; omega)))) s4, jT6_fr (fun i k p1 p2 => ((f2 i k (by unfold w_X12_days; omega)).trans (f1 i k (by unfold w_X11_days; omega)))) (fun k => ((f2 187 k (by unfold w_X12_days; omega)).trans (f1 187 k (by unfold w_X11_days; omega)))) s5, jTN_fr (fun i k p1 p2 => ((f2 i k (by unfold w_X12_days; omega)).trans (f1 i k (by unfold w_X11_days; omega)))) (fun k => ((f2 188 k (by unfold w_X12_days; omega)).trans (f1 188 k (by unfold w_X11_days; omega)))) s6, (((f2 29 4 (by unfold w_X12_days; omega)).trans (f1 29 4 (by unfold w_X11_days; omega))).trans s7).trans ((f2 176 14 (by unfold w_X12_days; omega)).trans (f1 176 14 (by unfold w_X11_days; omega))).symm, (((f2 84 0 (by unfold w_X12_days; omega)).trans (f1 84 0 (by unfold w_X11_days; omega))).trans s8).trans ((f2 176 34 (by unfold w_X12_days; omega)).trans (f1 176 34 (by unfold w_X11_days; omega))).symm, (((f2 11 0 (by unfold w_X12_days; omega)).trans (f1 11 0 (by unfold w_X11_days; omega))).trans s9).trans ((f2 176 6 (by unfold w_X12_days; omega)).trans (f1 176 6 (by unfold w_X11_days; omega))).symm, key, jRo_fr (fun i k p1 p2 => ((f2 i k (by unfold w_X12_days; omega)).trans (f1 i k (by unfold w_X11_days; omega)))) (fun k => ((f2 180 k (by unfold w_X12_days; omega)).trans (f1 180 k (by unfold w_X11_days; omega)))) s11, jDe_fr (fun i k p1 p2 => ((f2 i k (by unfold w_X12_days; omega)).trans (f1 i k (by unfold w_X11_days; omega)))) ((f2 11 0 (by unfold w_X12_days; omega)).trans (f1 11 0 (by unfold w_X11_days; omega))) (fun i k p1 p2 => ((f2 i k (by unfold w_X12_days; omega)).trans (f1 i k (by unfold w_X11_days; omega)))) ((f2 176 6 (by unfold w_X12_days; omega)).trans (f1 176 6 (by unfold w_X11_days; omega))) s12, jTC_fr (fun i k p1 p2 => ((f2 i k (by unfold w_X12_days; omega)).trans (f1 i k (by unfold w_X11_days; omega)))) (fun k => ((f2 186 k (by unfold w_X12_days; omega)).trans (f1 186 k (by unfold w_X11_days; omega)))) s13, yd.1, jLe_fr ((f2 101 0 (by unfold w_X12_days; omega)).trans (f1 101 0 (by unfold w_X11_days; omega))) (fun i k p1 p2 => ((f2 i k (by unfold w_X12_days; omega)).trans (f1 i k (by unfold w_X11_days; omega)))) ((f2 176 45 (by unfold w_X12_days; omega)).trans (f1 176 45 (by unfold w_X11_days; omega))) (fun i k p1 p2 => ((f2 i k (by unfold w_X12_days; omega)).trans (f1 i k (by unfold w_X11_days; omega)))) s15, gv, ah, n9⟩
theorem pf_ready {h g1 g2 : JH} (f1 : jfr w_X11_ready h g1) (f2 : jfr w_X12_ready g1 g2) (P : jAP h g1) (q : g2 176 0 = g1 176 0 ∧ ∀ L k : Int, jlv L k → g2 L k = g1 L k) (s : jI h) (B : ∀ i k : Int, jbd i k (h i k)) : jI g2 := by
  have live : ∀ i k : Int, jma i k → g2 i k = h i k := fun i k w => by
    unfold jma at w
    have e1 : g1 i k = h i k := f1 i k (by unfold w_X11_ready; omega)
    by_cases z : (i = 176 ∧ k = 0) ∨ ((i = 181 ∨ i = 202) ∧ 0 ≤ k ∧ k < 6) ∨ ((i = 190 ∨ (192 ≤ i ∧ i ≤ 198)) ∧ 0 ≤ k ∧ k < 16) ∨ ((i = 199 ∨ i = 200) ∧ 0 ≤ k ∧ k < 96)
    · exact (q.2 i k (jlv_mk z)).trans e1
    · exact (f2 i k (by unfold w_X12_ready; omega)).trans e1
  refine jI_fr (fun i k hs => ?_) (fun i k hs => ?_) (jAh_P (jDF_of s B) P live (fun i k w => by unfold jwh3 at w; exact f2 i k (by unfold w_X12_ready; omega))) (jS9_fr (fun k a b => live 198 k (by unfold jma; omega)) (live 176 0 (by unfold jma; omega))) s
  rotate_left
  · have e1 : g1 i k = h i k := f1 i k (by unfold jSupG at hs; unfold w_X11_ready; omega)
    by_cases z : i = 176 ∧ k = 0
    · rw [z.1, z.2] at e1 ⊢; exact q.1.trans e1
    · exact (f2 i k (by unfold jSupG at hs; unfold w_X12_ready; omega)).trans e1
  have e1 : g1 i k = h i k := f1 i k (by unfold jSup jSupA jwy jmy at hs; unfold w_X11_ready; omega)
  by_cases z : (i = 176 ∧ k = 0) ∨ ((i = 181 ∨ i = 202) ∧ 0 ≤ k ∧ k < 6) ∨ ((i = 190 ∨ (192 ≤ i ∧ i ≤ 198)) ∧ 0 ≤ k ∧ k < 16) ∨ ((i = 199 ∨ i = 200) ∧ 0 ≤ k ∧ k < 96)
  · exact (q.2 i k (jlv_mk z)).trans e1
  · exact (f2 i k (by unfold jSup jSupA jwy jmy at hs; unfold w_X12_ready; omega)).trans e1
theorem pf_late {h g1 g2 : JH} (f1 : jfr w_X11_late h g1) (f2 : jfr w_X12_late g1 g2) (P : jAP h g1) (q : g2 176 0 = g1 176 0 ∧ ∀ L k : Int, jlv L k → g2 L k = g1 L k) (s : jI h) (B : ∀ i k : Int, jbd i k (h i k)) : jI g2 := by
  have live : ∀ i k : Int, jma i k → g2 i k = h i k := fun i k w => by
    unfold jma at w
    have e1 : g1 i k = h i k := f1 i k (by unfold w_X11_late; omega)
    by_cases z : (i = 176 ∧ k = 0) ∨ ((i = 181 ∨ i = 202) ∧ 0 ≤ k ∧ k < 6) ∨ ((i = 190 ∨ (192 ≤ i ∧ i ≤ 198)) ∧ 0 ≤ k ∧ k < 16) ∨ ((i = 199 ∨ i = 200) ∧ 0 ≤ k ∧ k < 96)
    · exact (q.2 i k (jlv_mk z)).trans e1
    · exact (f2 i k (by unfold w_X12_late; omega)).trans e1
  refine jI_fr (fun i k hs => ?_) (fun i k hs => ?_) (jAh_P (jDF_of s B) P live (fun i k w => by unfold jwh3 at w; exact f2 i k (by unfold w_X12_late; omega))) (jS9_fr (fun k a b => live 198 k (by unfold jma; omega)) (live 176 0 (by unfold jma; omega))) s
  rotate_left
  · have e1 : g1 i k = h i k := f1 i k (by unfold jSupG at hs; unfold w_X11_late; omega)
    by_cases z : i = 176 ∧ k = 0
    · rw [z.1, z.2] at e1 ⊢; exact q.1.trans e1
    · exact (f2 i k (by unfold jSupG at hs; unfold w_X12_late; omega)).trans e1
  have e1 : g1 i k = h i k := f1 i k (by unfold jSup jSupA jwy jmy at hs; unfold w_X11_late; omega)
  by_cases z : (i = 176 ∧ k = 0) ∨ ((i = 181 ∨ i = 202) ∧ 0 ≤ k ∧ k < 6) ∨ ((i = 190 ∨ (192 ≤ i ∧ i ≤ 198)) ∧ 0 ≤ k ∧ k < 16) ∨ ((i = 199 ∨ i = 200) ∧ 0 ≤ k ∧ k < 96)
  · exact (q.2 i k (jlv_mk z)).trans e1
  · exact (f2 i k (by unfold jSup jSupA jwy jmy at hs; unfold w_X12_late; omega)).trans e1
theorem pf_least {h g1 g2 : JH} (f1 : jfr w_X11_least h g1) (f2 : jfr w_X12_least g1 g2) (P : jAP h g1) (q : g2 176 0 = g1 176 0 ∧ ∀ L k : Int, jlv L k → g2 L k = g1 L k) (s : jI h) (B : ∀ i k : Int, jbd i k (h i k)) : jI g2 := by
  have live : ∀ i k : Int, jma i k → g2 i k = h i k := fun i k w => by
    unfold jma at w
    have e1 : g1 i k = h i k := f1 i k (by unfold w_X11_least; omega)
    by_cases z : (i = 176 ∧ k = 0) ∨ ((i = 181 ∨ i = 202) ∧ 0 ≤ k ∧ k < 6) ∨ ((i = 190 ∨ (192 ≤ i ∧ i ≤ 198)) ∧ 0 ≤ k ∧ k < 16) ∨ ((i = 199 ∨ i = 200) ∧ 0 ≤ k ∧ k < 96)
    · exact (q.2 i k (jlv_mk z)).trans e1
    · exact (f2 i k (by unfold w_X12_least; omega)).trans e1
  refine jI_fr (fun i k hs => ?_) (fun i k hs => ?_) (jAh_P (jDF_of s B) P live (fun i k w => by unfold jwh3 at w; exact f2 i k (by unfold w_X12_least; omega))) (jS9_fr (fun k a b => live 198 k (by unfold jma; omega)) (live 176 0 (by unfold jma; omega))) s
  rotate_left
  · have e1 : g1 i k = h i k := f1 i k (by unfold jSupG at hs; unfold w_X11_least; omega)
    by_cases z : i = 176 ∧ k = 0
    · rw [z.1, z.2] at e1 ⊢; exact q.1.trans e1
    · exact (f2 i k (by unfold jSupG at hs; unfold w_X12_least; omega)).trans e1
  have e1 : g1 i k = h i k := f1 i k (by unfold jSup jSupA jwy jmy at hs; unfold w_X11_least; omega)
  by_cases z : (i = 176 ∧ k = 0) ∨ ((i = 181 ∨ i = 202) ∧ 0 ≤ k ∧ k < 6) ∨ ((i = 190 ∨ (192 ≤ i ∧ i ≤ 198)) ∧ 0 ≤ k ∧ k < 16) ∨ ((i = 199 ∨ i = 200) ∧ 0 ≤ k ∧ k < 96)
  · exact (q.2 i k (jlv_mk z)).trans e1
  · exact (f2 i k (by unfold jSup jSupA jwy jmy at hs; unfold w_X12_least; omega)).trans e1
theorem pf_order {h g1 g2 : JH} (f1 : jfr w_X11_order h g1) (f2 : jfr w_X12_order g1 g2) (P : jAP h g1) (q : g2 176 0 = g1 176 0 ∧ ∀ L k : Int, jlv L k → g2 L k = g1 L k) (s : jI h) (B : ∀ i k : Int, jbd i k (h i k)) : jI g2 := by
  have live : ∀ i k : Int, jma i k → g2 i k = h i k := fun i k w => by
    unfold jma at w
    have e1 : g1 i k = h i k := f1 i k (by unfold w_X11_order; omega)
    by_cases z : (i = 176 ∧ k = 0) ∨ ((i = 181 ∨ i = 202) ∧ 0 ≤ k ∧ k < 6) ∨ ((i = 190 ∨ (192 ≤ i ∧ i ≤ 198)) ∧ 0 ≤ k ∧ k < 16) ∨ ((i = 199 ∨ i = 200) ∧ 0 ≤ k ∧ k < 96)
    · exact (q.2 i k (jlv_mk z)).trans e1
    · exact (f2 i k (by unfold w_X12_order; omega)).trans e1
  refine jI_fr (fun i k hs => ?_) (fun i k hs => ?_) (jAh_P (jDF_of s B) P live (fun i k w => by unfold jwh3 at w; exact f2 i k (by unfold w_X12_order; omega))) (jS9_fr (fun k a b => live 198 k (by unfold jma; omega)) (live 176 0 (by unfold jma; omega))) s
  rotate_left
  · have e1 : g1 i k = h i k := f1 i k (by unfold jSupG at hs; unfold w_X11_order; omega)
    by_cases z : i = 176 ∧ k = 0
    · rw [z.1, z.2] at e1 ⊢; exact q.1.trans e1
    · exact (f2 i k (by unfold jSupG at hs; unfold w_X12_order; omega)).trans e1
  have e1 : g1 i k = h i k := f1 i k (by unfold jSup jSupA jwy jmy at hs; unfold w_X11_order; omega)
  by_cases z : (i = 176 ∧ k = 0) ∨ ((i = 181 ∨ i = 202) ∧ 0 ≤ k ∧ k < 6) ∨ ((i = 190 ∨ (192 ≤ i ∧ i ≤ 198)) ∧ 0 ≤ k ∧ k < 16) ∨ ((i = 199 ∨ i = 200) ∧ 0 ≤ k ∧ k < 96)
  · exact (q.2 i k (jlv_mk z)).trans e1
  · exact (f2 i k (by unfold jSup jSupA jwy jmy at hs; unfold w_X12_order; omega)).trans e1
set_option maxHeartbeats 4000000 in
theorem pr_ready {h g1 g2 : JH} {a1 x y : Int} (f1 : jfr w_X11_ready h g1) (f2 : jfr w_X12_ready g1 g2) (p : P_X11_ready a1 x h g1) (q : (g2 176 0 = g1 176 0 ∧ ∀ L k : Int, jlv L k → g2 L k = g1 L k) ∧ P_X12_ready a1 y g1) (s : jI h) (B : ∀ i k : Int, jbd i k (h i k)) (hd : h 176 0 ≤ 2000) : x = y ∧ jI g2 := by
  unfold P_X11_ready at p
  have AP : jAP h g1 := by
    rcases p with ⟨_, p⟩ | ⟨_, p⟩ | ⟨_, p⟩ | ⟨_, _, _, p⟩
    · exact p
    · exact p
    · exact p
    · exact p.2
  refine ⟨?_, pf_ready f1 f2 AP q.1 s B⟩
  have Sd := jDF_of s B
  have q := q.2
  unfold P_X12_ready at q
  obtain ⟨s0, s1, s2, s3, s4, s5, s6, s7, s8, s9, s10, s11, s12, s13, s14, s15, s16, s17, s18⟩ := s
  have em : ∀ i k : Int, 176 ≤ i → i ≤ 228 → g1 i k = h i k := fun i k a b => f1 i k (by unfold w_X11_ready; omega)
  have h16 := ((jbf_10_4 jo_29 _).1 (B 29 4)).2
  have d0 := ((jbf_12_0 jo_176 _).1 (B 176 0)).1
  rw [em 176 14 (by decide) (by decide), em 192 a1 (by decide) (by decide), em 198 a1 (by decide) (by decide)] at q
  have st : ¬ (0 ≤ a1 ∧ a1 < 16) ∨ (h (36 + 3 * a1) 3 = h 192 a1 ∧ h (36 + 3 * a1) 9 = h 198 a1 ∧ h (36 + 3 * a1) 2 = h 191 a1 ∧ 0 ≤ h 192 a1 ∧ h 192 a1 ≤ 3) := by
    by_cases z : 0 ≤ a1 ∧ a1 < 16
    · have u := (s14.1.2.2 a1 z).1
      exact Or.inr ⟨u.2.1, u.2.2.2.2.1, (s14.2.1 a1 z.1 z.2).2, (jba_192 _ _).1 (B 192 a1)⟩
    · exact Or.inl z
  rcases p with ⟨p, _⟩ | ⟨p, _⟩ | ⟨p, _⟩ | ⟨p, y0, ex, RA, _⟩ <;> rcases q with q | q | q | ⟨q, ey⟩
  · omega
  · omega
  · omega
  · omega
  · omega
  · omega
  · omega
  · omega
  · omega
  · omega
  · omega
  · omega
  · omega
  · omega
  · omega
  · have hb9 : ∀ k : Int, 0 ≤ k → k < 16 → g1 196 k = 0 ∨ g1 196 k = 1 := fun k _ _ => by rw [em 196 k (by decide) (by decide)]; have := (jba_196 k _).1 (B 196 k); omega
    have al := (jAs_save hb9).2
    have lk : ∀ i k : Int, jma i k → jAs 0 g1 i k = h i k := fun i k w => by unfold jma at w; exact (al i k (by omega) (by omega)).trans (em i k (by omega) (by omega))
    have k1 := RA (jAs 0 g1) (jDF_fr (fun _ _ _ => rfl) lk Sd) (s17 _ lk) ⟨by omega, by rw [lk 176 14 (by unfold jma; omega)]; omega, by rw [lk 192 a1 (by unfold jma; omega)]; omega⟩
    have k2 : jit jmPi 300 (jAs 0 g1) 198 a1 = jSin (jAs 0 g1) a1 := rfl
    rw [ex, k1, ey, k2]
set_option maxHeartbeats 4000000 in
theorem pr_late {h g1 g2 : JH} {a1 x y : Int} (f1 : jfr w_X11_late h g1) (f2 : jfr w_X12_late g1 g2) (p : P_X11_late a1 x h g1) (q : (g2 176 0 = g1 176 0 ∧ ∀ L k : Int, jlv L k → g2 L k = g1 L k) ∧ P_X12_late a1 y g1) (s : jI h) (B : ∀ i k : Int, jbd i k (h i k)) (hd : h 176 0 ≤ 2000) : x = y ∧ jI g2 := by
  unfold P_X11_late at p
  have AP : jAP h g1 := by
    rcases p with ⟨_, p⟩ | ⟨_, p⟩ | ⟨_, _, _, p⟩
    · exact p
    · exact p
    · exact p.2
  refine ⟨?_, pf_late f1 f2 AP q.1 s B⟩
  have Sd := jDF_of s B
  have q := q.2
  unfold P_X12_late at q
  obtain ⟨s0, s1, s2, s3, s4, s5, s6, s7, s8, s9, s10, s11, s12, s13, s14, s15, s16, s17, s18⟩ := s
  have em : ∀ i k : Int, 176 ≤ i → i ≤ 228 → g1 i k = h i k := fun i k a b => f1 i k (by unfold w_X11_late; omega)
  have h16 := ((jbf_10_4 jo_29 _).1 (B 29 4)).2
  have d0 := ((jbf_12_0 jo_176 _).1 (B 176 0)).1
  rw [em 176 14 (by decide) (by decide), em 192 a1 (by decide) (by decide), em 191 a1 (by decide) (by decide), em 176 0 (by decide) (by decide)] at q
  have st : ¬ (0 ≤ a1 ∧ a1 < 16) ∨ (h (36 + 3 * a1) 3 = h 192 a1 ∧ h (36 + 3 * a1) 9 = h 198 a1 ∧ h (36 + 3 * a1) 2 = h 191 a1 ∧ 0 ≤ h 192 a1 ∧ h 192 a1 ≤ 3) := by
    by_cases z : 0 ≤ a1 ∧ a1 < 16
    · have u := (s14.1.2.2 a1 z).1
      exact Or.inr ⟨u.2.1, u.2.2.2.2.1, (s14.2.1 a1 z.1 z.2).2, (jba_192 _ _).1 (B 192 a1)⟩
    · exact Or.inl z
  rcases p with ⟨p, _⟩ | ⟨p, _⟩ | ⟨p, y0, ex, RA, _⟩ <;> rcases q with q | q | ⟨q, ey⟩
  · omega
  · omega
  · omega
  · omega
  · omega
  · omega
  · omega
  · omega
  · have hb9 : ∀ k : Int, 0 ≤ k → k < 16 → g1 196 k = 0 ∨ g1 196 k = 1 := fun k _ _ => by rw [em 196 k (by decide) (by decide)]; have := (jba_196 k _).1 (B 196 k); omega
    have al := (jAs_save hb9).2
    have lk : ∀ i k : Int, jma i k → jAs 0 g1 i k = h i k := fun i k w => by unfold jma at w; exact (al i k (by omega) (by omega)).trans (em i k (by omega) (by omega))
    have k1 := RA (jAs 0 g1) (jDF_fr (fun _ _ _ => rfl) lk Sd) (s17 _ lk) ⟨by omega, by rw [lk 176 14 (by unfold jma; omega)]; omega, by rw [lk 192 a1 (by unfold jma; omega)]; omega⟩
    have k2 : jit jmPi 300 (jAs 0 g1) 198 a1 = jSin (jAs 0 g1) a1 := rfl
    have d2 := (jba_191 _ _).1 (B 191 a1)
    have rg := jS9_in (h := jAs 0 g1) (by rw [lk 176 0 (by unfold jma; omega)]; omega) (jS9_fr (fun k a b => lk 198 k (by unfold jma; omega)) (lk 176 0 (by unfold jma; omega)) s18) (k := a1) (by omega)
    rw [ex, k1, ey, k2, show h (36 + 3 * a1) 2 = h 191 a1 by omega, s10, jlt_b rg (by omega) (by omega), jlbw_b rg (by omega) (by omega)]
set_option maxHeartbeats 4000000 in
theorem pr_least {h g1 g2 : JH} {x y : Int} (f1 : jfr w_X11_least h g1) (f2 : jfr w_X12_least g1 g2) (p : ((x = -3 ∧ 5 < (jull (jcS h) (h 29 4).toNat).length) ∨ ((jull (jcS h) (h 29 4).toNat).length ≤ 5 ∧ ¬ g1 111 11 = 0 ∧ ¬ g1 111 9 = 0 ∧ x = g1 111 0)) ∧ jAP h g1) (q : ((g2 176 0 = g1 176 0) ∧ (((y = -3 ∧ 5 < (jUL g1).length) ∨ ((jUL g1).length ≤ 5 ∧ ∃ o : Nat → Int, jRLs g1 y o)))) ∧ ∀ L k : Int, jlv L k → g2 L k = g1 L k) (s : jI h) (B : ∀ i k : Int, jbd i k (h i k)) (hd : h 176 0 ≤ 2000) : x = y ∧ jI g2 := by
  refine ⟨?_, pf_least f1 f2 p.2 ⟨q.1.1, q.2⟩ s B⟩
  have Sd := jDF_of s B
  obtain ⟨s0, s1, s2, s3, s4, s5, s6, s7, s8, s9, s10, s11, s12, s13, s14, s15, s16, s17, s18⟩ := s
  have em : ∀ i k : Int, jma i k → g1 i k = h i k := fun i k w => f1 i k (by unfold jma at w; unfold w_X11_least; omega)
  have S : jDR False h g1 := jDF_fr (fun _ _ _ => rfl) em Sd
  have S1 : jDR False g1 g1 := jDF_fr (fun i k w => f1 i k (by unfold jwk at w; unfold w_X11_least; omega)) (fun _ _ _ => rfl) S
  have H := p.2 g1 S (s17 g1 em)
  have n9 : jS9 g1 := jS9_fr (fun k a b => em 198 k (by unfold jma; omega)) (em 176 0 (by unfold jma; omega)) s18
  have h2 : g1 176 0 ≤ 2000 := by rw [em 176 0 (by unfold jma; omega)]; exact hd
  have L := jcS_e S
  obtain ⟨p, _⟩ := p
  obtain ⟨⟨_, q⟩, _⟩ := q
  rw [L] at p
  rcases p with ⟨p, p5⟩ | ⟨p5, k1, k2, p⟩ <;> rcases q with ⟨q, q5⟩ | ⟨q5, q⟩
  · omega
  · omega
  · omega
  · obtain ⟨u1, u2, u3⟩ := H.1 k2
    obtain ⟨w1, w2, w3⟩ := H.2.2 k1 n9 q5
    obtain ⟨o, R⟩ := q
    have r := jRLs_k S1 u1 u2 u3 n9 h2 q5 R
    rw [p, w2, r.1]
set_option maxHeartbeats 4000000 in
theorem pr_order {h g1 g2 : JH} {a1 x y : Int} (f1 : jfr w_X11_order h g1) (f2 : jfr w_X12_order g1 g2) (p : ((x = -3 ∧ 5 < (jull (jcS h) (h 29 4).toNat).length) ∨ ((jull (jcS h) (h 29 4).toNat).length ≤ 5 ∧ ¬ g1 111 11 = 0 ∧ ¬ g1 111 9 = 0 ∧ ((0 ≤ a1 ∧ a1 < g1 111 2 ∧ x = g1 112 a1) ∨ (¬ (0 ≤ a1 ∧ a1 < g1 111 2) ∧ x = -9)))) ∧ jAP h g1) (q : ((g2 176 0 = g1 176 0) ∧ (((y = -3 ∧ 5 < (jUL g1).length) ∨ ((jUL g1).length ≤ 5 ∧ ((¬ (0 ≤ a1 ∧ a1 < ((jUL g1).length : Int)) ∧ y = -9) ∨ (0 ≤ a1 ∧ a1 < ((jUL g1).length : Int) ∧ ∃ (t : Int) (o : Nat → Int), jRLs g1 t o ∧ y = o a1.toNat)))))) ∧ ∀ L k : Int, jlv L k → g2 L k = g1 L k) (s : jI h) (B : ∀ i k : Int, jbd i k (h i k)) (hd : h 176 0 ≤ 2000) : x = y ∧ jI g2 := by
  refine ⟨?_, pf_order f1 f2 p.2 ⟨q.1.1, q.2⟩ s B⟩
  have Sd := jDF_of s B
  obtain ⟨s0, s1, s2, s3, s4, s5, s6, s7, s8, s9, s10, s11, s12, s13, s14, s15, s16, s17, s18⟩ := s
  have em : ∀ i k : Int, jma i k → g1 i k = h i k := fun i k w => f1 i k (by unfold jma at w; unfold w_X11_order; omega)
  have S : jDR False h g1 := jDF_fr (fun _ _ _ => rfl) em Sd
  have S1 : jDR False g1 g1 := jDF_fr (fun i k w => f1 i k (by unfold jwk at w; unfold w_X11_order; omega)) (fun _ _ _ => rfl) S
  have H := p.2 g1 S (s17 g1 em)
  have n9 : jS9 g1 := jS9_fr (fun k a b => em 198 k (by unfold jma; omega)) (em 176 0 (by unfold jma; omega)) s18
  have h2 : g1 176 0 ≤ 2000 := by rw [em 176 0 (by unfold jma; omega)]; exact hd
  have L := jcS_e S
  obtain ⟨p, _⟩ := p
  obtain ⟨⟨_, q⟩, _⟩ := q
  rw [L] at p
  rcases p with ⟨p, p5⟩ | ⟨p5, k1, k2, p⟩ <;> rcases q with ⟨q, q5⟩ | ⟨q5, q⟩
  · omega
  · omega
  · omega
  · obtain ⟨u1, u2, u3⟩ := H.1 k2
    obtain ⟨w1, w2, w3⟩ := H.2.2 k1 n9 q5
    rcases p with ⟨p1, p2, p⟩ | ⟨p1, p⟩ <;> rcases q with ⟨q1, q⟩ | ⟨q1, q2, t, o, R, q⟩
    · omega
    · have r := jRLs_k S1 u1 u2 u3 n9 h2 q5 R
      have i := w3 a1.toNat (by omega)
      have j := r.2 a1.toNat (by omega)
      rw [Int.toNat_of_nonneg q1] at i
      rw [p, q, i, j]
    · omega
    · omega
theorem rx_bring {h g1 g2 : JH} {a1 a2 y : Int} (f1 : jfr w_X11_bring h g1) (q : P_X12_bring a1 a2 y g1 g2) (s : jI h) (b : y < 0) : ∀ i k : Int, jma i k → g2 i k = g1 i k := by
  obtain ⟨s0, s1, s2, s3, s4, s5, s6, s7, s8, s9, s10, s11, s12, s13, s14, s15, s16, s17, s18⟩ := s
  unfold P_X12_bring at q
  rcases q with ⟨_, r⟩ | ⟨_, r⟩ | ⟨_, r⟩ | ⟨c, d, _⟩
  · exact fun i k w => r i k (by unfold jma at w; omega)
  · exact fun i k w => r i k (by unfold jma at w; omega)
  · exact fun i k w => r i k (by unfold jma at w; omega)
  · exfalso
    have u := s14.1.1 a1 c.1 c.2.1
    have e181 := f1 181 a1 (by unfold w_X11_bring; omega)
    have j1 := j32e (x := 1000000 - g1 181 a1) (by omega) (by omega)
    have j2 := j32e (x := g1 181 a1 + a2) (by omega) (by omega)
    omega
theorem rx_unraft {h g1 g2 : JH} {a1 y : Int} (f1 : jfr w_X11_unraft h g1) (q : P_X12_unraft a1 y g1 g2) (s : jI h) (b : y < 0) : ∀ i k : Int, jma i k → g2 i k = g1 i k := by
  obtain ⟨s0, s1, s2, s3, s4, s5, s6, s7, s8, s9, s10, s11, s12, s13, s14, s15, s16, s17, s18⟩ := s
  unfold P_X12_unraft at q
  rcases q with ⟨_, r⟩ | ⟨_, r⟩ | ⟨_, r⟩ | ⟨c, d, _⟩
  · exact fun i k w => r i k (by unfold jma at w; omega)
  · exact fun i k w => r i k (by unfold jma at w; omega)
  · exact fun i k w => r i k (by unfold jma at w; omega)
  · exfalso
    have u := s14.1.1 0 (by decide) (by decide)
    have e202 := f1 202 a1 (by unfold w_X11_unraft; omega)
    have e203 := f1 203 a1 (by unfold w_X11_unraft; omega)
    have v := s14.1.2.1 a1 c.1 c.2.1
    unfold jBR at v
    have w := (s14.2.2.1 a1 c.1 c.2.1).1 (by omega)
    omega
theorem rx_count {h g1 g2 : JH} {a1 a2 y : Int} (f1 : jfr w_X11_count h g1) (q : P_X12_count a1 a2 y g1 g2) (s : jI h) (b : 2000000000 < y) : ∀ i k : Int, jma i k → g2 i k = g1 i k := by
  obtain ⟨s0, s1, s2, s3, s4, s5, s6, s7, s8, s9, s10, s11, s12, s13, s14, s15, s16, s17, s18⟩ := s
  unfold P_X12_count at q
  rcases q with ⟨_, r⟩ | ⟨_, r⟩ | ⟨_, r⟩ | ⟨c, d, _⟩
  · exact fun i k w => r i k (by unfold jma at w; omega)
  · exact fun i k w => r i k (by unfold jma at w; omega)
  · exact fun i k w => r i k (by unfold jma at w; omega)
  · exfalso
    have u := s14.1.1 a1 c.1 c.2.1
    have e181 := f1 181 a1 (by unfold w_X11_count; omega)
    have j2 := j32e (x := g1 181 a1 - a2) (by omega) (by omega)
    omega
