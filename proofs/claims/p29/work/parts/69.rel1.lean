set_option maxHeartbeats 4000000 in
theorem pr_lead {h g1 g2 : JH} {a1 a2 x y : Int} (f1 : jfr w_X11_lead h g1) (f2 : jfr w_X12_lead g1 g2) (p : P_X11_lead a1 a2 x h g1) (q : P_X12_lead a1 a2 y g1 g2) (s : jI h) (A7 : x = y → jAh g2) : x = y ∧ jI g2 := by
  obtain ⟨s0, s1, s2, s3, s4, s5, s6, s7, s8, s9, s10, s11, s12, s13, s14, s15, s16, s17, s18⟩ := s
  unfold P_X11_lead at p
  unfold P_X12_lead at q
  have fA : ∀ t : Int, g2 4 t = g1 4 t := fun t => (f2 4 t (by unfold w_X12_lead; omega))
  have fB : ∀ t : Int, g1 178 t = h 178 t := fun t => (f1 178 t (by unfold w_X11_lead; omega))
  have A4 := fB a1; have A3 := fA a1
  have A5 : ¬ (0 ≤ a1 ∧ a1 < 4) ∨ h 4 a1 = h 178 a1 := by
    by_cases z : 0 ≤ a1 ∧ a1 < 4
    · exact Or.inr (s1 a1 z.1 z.2)
    · exact Or.inl z
  have key : x = y ∧ jSm 4 178 4 g2 := by
    rcases p with ⟨c, e⟩ | ⟨c, e, ee⟩ <;> rcases q with ⟨d, r⟩ | ⟨d, r, rr⟩
    · refine ⟨by omega, fun t h0 h1 => ?_⟩
      have E3 := fA t; have E4 := fB t; have E5 := s1 t h0 h1
      have E1 := e 4 t (by omega) (by omega); have E2 := r 178 t (by omega) (by omega)
      omega
    · exfalso; omega
    · exfalso; omega
    · refine ⟨by omega, fun t h0 h1 => ?_⟩
      have E3 := fA t; have E4 := fB t; have E5 := s1 t h0 h1
      by_cases z : t = a1
      · rw [z] at E3 E4 E5 ⊢; omega
      · have E1 := ee 4 t (by omega) (by omega) (by omega); have E2 := rr 178 t (by omega) (by omega) (by omega); omega
  try clear p
  try clear q
  exact ⟨key.1, jSm_fr (fun t => ((f2 3 t (by unfold w_X12_lead; omega)).trans (f1 3 t (by unfold w_X11_lead; omega)))) (fun t => ((f2 177 t (by unfold w_X12_lead; omega)).trans (f1 177 t (by unfold w_X11_lead; omega)))) s0, key.2, jSm_fr (fun t => ((f2 10 t (by unfold w_X12_lead; omega)).trans (f1 10 t (by unfold w_X11_lead; omega)))) (fun t => ((f2 179 t (by unfold w_X12_lead; omega)).trans (f1 179 t (by unfold w_X11_lead; omega)))) s2, jSm_fr (fun t => ((f2 90 t (by unfold w_X12_lead; omega)).trans (f1 90 t (by unfold w_X11_lead; omega)))) (fun t => ((f2 204 t (by unfold w_X12_lead; omega)).trans (f1 204 t (by unfold w_X11_lead; omega)))) s3, jSm_fr (fun t => ((f2 92 t (by unfold w_X12_lead; omega)).trans (f1 92 t (by unfold w_X11_lead; omega)))) (fun t => ((f2 210 t (by unfold w_X12_lead; omega)).trans (f1 210 t (by unfold w_X11_lead; omega)))) s4, jT6_fr (fun i k p1 p2 => ((f2 i k (by unfold w_X12_lead; omega)).trans (f1 i k (by unfold w_X11_lead; omega)))) (fun k => ((f2 187 k (by unfold w_X12_lead; omega)).trans (f1 187 k (by unfold w_X11_lead; omega)))) s5, jTN_fr (fun i k p1 p2 => ((f2 i k (by unfold w_X12_lead; omega)).trans (f1 i k (by unfold w_X11_lead; omega)))) (fun k => ((f2 188 k (by unfold w_X12_lead; omega)).trans (f1 188 k (by unfold w_X11_lead; omega)))) s6, (((f2 29 4 (by unfold w_X12_lead; omega)).trans (f1 29 4 (by unfold w_X11_lead; omega))).trans s7).trans ((f2 176 14 (by unfold w_X12_lead; omega)).trans (f1 176 14 (by unfold w_X11_lead; omega))).symm, (((f2 84 0 (by unfold w_X12_lead; omega)).trans (f1 84 0 (by unfold w_X11_lead; omega))).trans s8).trans ((f2 176 34 (by unfold w_X12_lead; omega)).trans (f1 176 34 (by unfold w_X11_lead; omega))).symm, (((f2 11 0 (by unfold w_X12_lead; omega)).trans (f1 11 0 (by unfold w_X11_lead; omega))).trans s9).trans ((f2 176 6 (by unfold w_X12_lead; omega)).trans (f1 176 6 (by unfold w_X11_lead; omega))).symm, (((f2 0 0 (by unfold w_X12_lead; omega)).trans (f1 0 0 (by unfold w_X11_lead; omega))).trans s10).trans ((f2 176 0 (by unfold w_X12_lead; omega)).trans (f1 176 0 (by unfold w_X11_lead; omega))).symm, jRo_fr (fun i k p1 p2 => ((f2 i k (by unfold w_X12_lead; omega)).trans (f1 i k (by unfold w_X11_lead; omega)))) (fun k => ((f2 180 k (by unfold w_X12_lead; omega)).trans (f1 180 k (by unfold w_X11_lead; omega)))) s11, jDe_fr (fun i k p1 p2 => ((f2 i k (by unfold w_X12_lead; omega)).trans (f1 i k (by unfold w_X11_lead; omega)))) ((f2 11 0 (by unfold w_X12_lead; omega)).trans (f1 11 0 (by unfold w_X11_lead; omega))) (fun i k p1 p2 => ((f2 i k (by unfold w_X12_lead; omega)).trans (f1 i k (by unfold w_X11_lead; omega)))) ((f2 176 6 (by unfold w_X12_lead; omega)).trans (f1 176 6 (by unfold w_X11_lead; omega))) s12, jTC_fr (fun i k p1 p2 => ((f2 i k (by unfold w_X12_lead; omega)).trans (f1 i k (by unfold w_X11_lead; omega)))) (fun k => ((f2 186 k (by unfold w_X12_lead; omega)).trans (f1 186 k (by unfold w_X11_lead; omega)))) s13, jYd2_fr (fun i k q => by unfold jwy at q; exact ((f2 i k (by unfold w_X12_lead; omega)).trans (f1 i k (by unfold w_X11_lead; omega)))) (fun i k q => by unfold jmy at q; exact ((f2 i k (by unfold w_X12_lead; omega)).trans (f1 i k (by unfold w_X11_lead; omega)))) s14, jLe_fr ((f2 101 0 (by unfold w_X12_lead; omega)).trans (f1 101 0 (by unfold w_X11_lead; omega))) (fun i k p1 p2 => ((f2 i k (by unfold w_X12_lead; omega)).trans (f1 i k (by unfold w_X11_lead; omega)))) ((f2 176 45 (by unfold w_X12_lead; omega)).trans (f1 176 45 (by unfold w_X11_lead; omega))) (fun i k p1 p2 => ((f2 i k (by unfold w_X12_lead; omega)).trans (f1 i k (by unfold w_X11_lead; omega)))) s15, jGv_fr (fun i k p1 p2 => ((f2 i k (by unfold w_X12_lead; omega)).trans (f1 i k (by unfold w_X11_lead; omega)))) (fun i k p1 p2 => ((f2 i k (by unfold w_X12_lead; omega)).trans (f1 i k (by unfold w_X11_lead; omega)))) ((f2 176 34 (by unfold w_X12_lead; omega)).trans (f1 176 34 (by unfold w_X11_lead; omega))) ((f2 176 0 (by unfold w_X12_lead; omega)).trans (f1 176 0 (by unfold w_X11_lead; omega))) (fun i k p1 p2 => ((f2 i k (by unfold w_X12_lead; omega)).trans (f1 i k (by unfold w_X11_lead; omega)))) (fun i k p1 p2 => ((f2 i k (by unfold w_X12_lead; omega)).trans (f1 i k (by unfold w_X11_lead; omega)))) (fun i p1 p2 => ((f2 i 10 (by unfold w_X12_lead; omega)).trans (f1 i 10 (by unfold w_X11_lead; omega)))) (fun k => ((f2 201 k (by unfold w_X12_lead; omega)).trans (f1 201 k (by unfold w_X11_lead; omega)))) s16, (A7 key.1), jS9_fr (fun k p1 p2 => ((f2 198 k (by unfold w_X12_lead; omega)).trans (f1 198 k (by unfold w_X11_lead; omega)))) ((f2 176 0 (by unfold w_X12_lead; omega)).trans (f1 176 0 (by unfold w_X11_lead; omega))) s18⟩
theorem pf_handsOn {h g1 g2 : JH} (f1 : jfr w_X11_handsOn h g1) (f2 : jfr w_X12_handsOn g1 g2) (s : jI h) : jI g2 := jI_fr (fun i k hs => (f2 i k (by unfold jSup jSupA jwy jmy at hs; unfold w_X12_handsOn; omega)).trans (f1 i k (by unfold jSup jSupA jwy jmy at hs; unfold w_X11_handsOn; omega))) (fun i k hs => (f2 i k (by unfold jSupG at hs; unfold w_X12_handsOn; omega)).trans (f1 i k (by unfold jSupG at hs; unfold w_X11_handsOn; omega))) (jAh_fr (fun i k q => by unfold jma at q; exact (f2 i k (by unfold w_X12_handsOn; omega)).trans (f1 i k (by unfold w_X11_handsOn; omega))) (fun i k q => by unfold jwh3 at q; exact (f2 i k (by unfold w_X12_handsOn; omega)).trans (f1 i k (by unfold w_X11_handsOn; omega)))) (jS9_fr (fun k _ _ => (f2 198 k (by unfold w_X12_handsOn; omega)).trans (f1 198 k (by unfold w_X11_handsOn; omega))) ((f2 176 0 (by unfold w_X12_handsOn; omega)).trans (f1 176 0 (by unfold w_X11_handsOn; omega)))) s
set_option maxHeartbeats 4000000 in
theorem jHd_eq {h : JH} (s : jI h) {c d : Int} (h0 : 0 ≤ c) (h1 : c < 4) (h2 : -1 ≤ h 4 c) (h3 : h 4 c ≤ 3) (h4 : h 4 c < 0 ∨ h 10 (h 4 c) ≤ 30) (hd : 0 ≤ d) : jHd h c d = jHm h c d := by
  obtain ⟨s0, s1, s2, s3, s4, s5, s6, s7, s8, s9, s10, s11, s12, s13, s14, s15, s16, s17, s18⟩ := s
  have e1 := s1 c h0 h1
  have e0 := s0 c h0 h1
  unfold jHd jHm
  rw [← e1]
  generalize h 4 c = r at h2 h3 h4 ⊢
  by_cases z : r = -1
  · rw [if_pos (Or.inl z), if_pos (Or.inl (by omega))]; exact e0
  have e2 := s2 r (by omega) (by omega)
  rw [← e2]
  generalize hl : h 10 r = n at h4 ⊢
  by_cases z2 : n ≤ 0
  · rw [if_pos (Or.inr z2), if_pos (Or.inr z2)]; exact e0
  rw [if_neg (by omega), if_neg (by omega)]
  have t1 := Int.tmod_nonneg n hd
  have t2 := Int.tmod_lt_of_pos d (show 0 < n by omega)
  exact s11 r (d.tmod n) (by omega) (by omega) t1 (by omega) (by omega)
theorem jHd_fr {h g : JH} {c d : Int} (f : ∀ i k : Int, 3 ≤ i → i ≤ 10 → g i k = h i k) (h2 : -1 ≤ h 4 c) (h3 : h 4 c ≤ 3) : jHd g c d = jHd h c d := by
  unfold jHd
  rw [f 4 c (by decide) (by decide), f 3 c (by decide) (by decide), f 10 _ (by decide) (by decide), f (6 + h 4 c) _ (by omega) (by omega)]
theorem pr_handsOn {h g1 g2 : JH} {a1 a2 x y : Int} (f1 : jfr w_X11_handsOn h g1) (f2 : jfr w_X12_handsOn g1 g2) (p : P_X11_handsOn a1 a2 x h) (q : P_X12_handsOn a1 a2 y g1) (s : jI h) : x = y ∧ jI g2 := by
  have s1 : jI g1 := jI_fr (fun i k hs => f1 i k (by unfold jSup jSupA jwy jmy at hs; unfold w_X11_handsOn; omega)) (fun i k hs => f1 i k (by unfold jSupG at hs; unfold w_X11_handsOn; omega)) (jAh_fr (fun i k q => by unfold jma at q; exact f1 i k (by unfold w_X11_handsOn; omega)) (fun i k q => by unfold jwh3 at q; exact f1 i k (by unfold w_X11_handsOn; omega))) (jS9_fr (fun k _ _ => f1 198 k (by unfold w_X11_handsOn; omega)) (f1 176 0 (by unfold w_X11_handsOn; omega))) s
  refine ⟨?_, pf_handsOn f1 f2 s⟩
  have e1 : ∀ i k : Int, 3 ≤ i → i ≤ 10 → g1 i k = h i k := fun i k p1 p2 => f1 i k (by unfold w_X11_handsOn; omega)
  unfold P_X11_handsOn at p
  unfold P_X12_handsOn at q
  have F4 := e1 4 a1 (by decide) (by decide)
  rcases p with p | p | p | p <;> rcases q with q | q | q | q <;> first
    | (exfalso; omega)
    | omega
    | (have e2 := jHd_fr (c := a1) (d := a2) e1 p.2.2.2.2.2.1 p.2.2.2.2.2.2.1
       have e3 := jHd_eq s1 (c := a1) (d := a2) p.1 p.2.1 (by omega) (by omega) (by rw [F4, e1 10 _ (by decide) (by decide)]; exact p.2.2.2.2.2.2.2) (by omega)
       omega)

set_option maxHeartbeats 4000000 in
theorem jsl_iff {a b k c : Int} (h0 : 0 ≤ a) (h1 : a < 4) (h2 : 0 ≤ b) (h3 : b < 4) (g0 : 0 ≤ k) (g1 : k < 4) (g2 : 0 ≤ c) (g3 : c < 4) : jsl a b = jsl k c ↔ (a = k ∧ (1 < k ∨ b = c)) := by
  unfold jsl
  constructor
  · intro q; omega
  · intro q; omega
set_option maxHeartbeats 4000000 in
theorem jDe_ins {h g1 g2 : JH} {a1 a2 a3 a4 : Int} (r1 : 0 ≤ a1 ∧ a1 < 4 ∧ 0 ≤ a2 ∧ a2 < 4) (r4 : 0 ≤ a4) (s9 : h 11 0 = h 176 6) (s : jDe h) (p : jIns (jsl a1 a2) a3 a4 h g1) (fA : ∀ i k : Int, 11 ≤ i → i ≤ 14 → g2 i k = g1 i k) (fB : ∀ i k : Int, 182 ≤ i → i ≤ 185 → g1 i k = h i k) (n1 : g1 176 6 = h 176 6) (n2 : g2 176 6 = h 176 6 + 1)
    (q : g2 182 (g1 176 6) = a1 ∧ g2 183 (g1 176 6) = a2 ∧ g2 184 (g1 176 6) = a3 ∧ g2 185 (g1 176 6) = a4 ∧ ∀ i k : Int, 182 ≤ i → i ≤ 185 → ¬ k = g1 176 6 → g2 i k = g1 i k) : jDe g2 := by
  unfold jDe at s ⊢
  obtain ⟨t1, t0, t2⟩ := s
  unfold jIns at p
  obtain ⟨u0, p, u1, u2, u3, u4, u5, u6, u7, u8, u9⟩ := p
  rw [n1, ← s9] at q
  rw [n2, ← s9, jfn (fun k => fA 12 k (by decide) (by decide)), jfn (fun k => fA 13 k (by decide) (by decide)), jfn (fun k => fA 14 k (by decide) (by decide)), fA 11 0 (by decide) (by decide), u0]
  rw [← s9] at t2
  obtain ⟨n, hn⟩ := Int.eq_ofNat_of_zero_le t0
  obtain ⟨pn, hp⟩ := Int.eq_ofNat_of_zero_le u1
  subst hp
  rw [hn] at u2 u5 u6 t1 q t2 ⊢
  have low : ∀ j : Nat, j < pn → h 14 j ≤ a4 := fun j hj => by
    rcases u3 with z | z
    · omega
    · by_cases y : (j : Int) = (pn : Int) - 1
      · rw [y]; exact z
      · have := t1 j ((pn : Int) - 1) (by omega) (by omega) (by omega); omega
  refine ⟨fun i j c0 c1 c2 => ?_, by omega, fun k c d c0 c1 c2 c3 => ?_⟩
  · -- the days still rise
    have V : ∀ i : Int, 0 ≤ i → i < (n : Int) + 1 → (i < pn ∧ g1 14 i = h 14 i) ∨ (i = pn ∧ g1 14 i = a4) ∨ (pn < i ∧ g1 14 i = h 14 (i - 1)) := fun i b0 b1 => by
      rcases Int.lt_trichotomy i pn with z | z | z
      · exact Or.inl ⟨z, u4 14 i (by decide) (by decide) b0 z⟩
      · exact Or.inr (Or.inl ⟨z, by rw [z]; exact u9⟩)
      · have := u5 14 (i - 1) (by decide) (by decide) (by omega) (by omega)
        rw [show i - 1 + 1 = i by omega] at this
        exact Or.inr (Or.inr ⟨z, this⟩)
    have lowI : ∀ i : Int, 0 ≤ i → i < pn → h 14 i ≤ a4 := fun i b0 b1 => by
      have := low i.toNat (by omega)
      rw [Int.toNat_of_nonneg b0] at this
      exact this
    rcases V i c0 (by omega) with ⟨y1, y2⟩ | ⟨y1, y2⟩ | ⟨y1, y2⟩ <;> rcases V j (by omega) c2 with ⟨w1, w2⟩ | ⟨w1, w2⟩ | ⟨w1, w2⟩ <;> rw [y2, w2]
    · exact t1 i j c0 c1 (by omega)
    · exact lowI i c0 y1
    · have a := lowI i c0 y1; have b := u6 (j - 1) (by omega) (by omega); omega
    · exfalso; omega
    · exfalso; omega
    · have b := u6 (j - 1) (by omega) (by omega); omega
    · exfalso; omega
    · exfalso; omega
    · exact t1 (i - 1) (j - 1) (by omega) (by omega) (by omega)
  · have I := jcv_ins (S := h 12) (N := h 13) (D := h 14) (S' := g1 12) (N' := g1 13) (D' := g1 14) (s := jsl k c) (d := d) (s0 := jsl a1 a2) (n0 := a3) (d0 := a4) (p := pn) (n := n) (by omega)
      (fun j hj => ⟨u4 12 j (by decide) (by decide) (by omega) (by omega), u4 13 j (by decide) (by decide) (by omega) (by omega), u4 14 j (by decide) (by decide) (by omega) (by omega)⟩) ⟨u7, u8, u9⟩
      (fun j b0 b1 => ⟨(by rw [show ((j + 1 : Nat) : Int) = (j : Int) + 1 by omega]; exact u5 12 j (by decide) (by decide) (by omega) (by omega)), (by rw [show ((j + 1 : Nat) : Int) = (j : Int) + 1 by omega]; exact u5 13 j (by decide) (by decide) (by omega) (by omega)), (by rw [show ((j + 1 : Nat) : Int) = (j : Int) + 1 by omega]; exact u5 14 j (by decide) (by decide) (by omega) (by omega))⟩) low (fun j b0 b1 => u6 j (by omega) (by omega)) n (by omega) (Nat.le_refl _)
    have T := t2 k c d c0 c1 c2 c3
    rw [show ((n : Int) + 1).toNat = n + 1 by omega]
    rw [show ((n : Int)).toNat = n by omega] at T
    rw [I, T]
    have J : jmv (g2 182) (g2 183) (g2 184) (g2 185) k c d n = jmv (h 182) (h 183) (h 184) (h 185) k c d n := jmv_eq n (fun j hj => by
      have y : ∀ i : Int, 182 ≤ i → i ≤ 185 → g2 i j = h i j := fun i b0 b1 => (q.2.2.2.2 i j b0 b1 (by omega)).trans (fB i j b0 b1)
      exact ⟨y 182 (by decide) (by decide), y 183 (by decide) (by decide), y 184 (by decide) (by decide), y 185 (by decide) (by decide)⟩)
    show _ = if (g2 182 n = k ∧ (1 < k ∨ g2 183 n = c) ∧ g2 185 n ≤ d) ∧ (jmv (g2 182) (g2 183) (g2 184) (g2 185) k c d n).2 ≤ g2 185 n then (g2 184 n, g2 185 n) else jmv (g2 182) (g2 183) (g2 184) (g2 185) k c d n
    rw [J, q.1, q.2.1, q.2.2.1, q.2.2.2.1]
    have W := jsl_iff r1.1 r1.2.1 r1.2.2.1 r1.2.2.2 c0 c1 c2 c3
    by_cases z : (a1 = k ∧ (1 < k ∨ a2 = c) ∧ a4 ≤ d) ∧ (jmv (h 182) (h 183) (h 184) (h 185) k c d n).2 ≤ a4
    · rw [if_pos z, if_pos ⟨⟨W.2 ⟨z.1.1, z.1.2.1⟩, z.1.2.2⟩, z.2⟩]
    · rw [if_neg z, if_neg (fun y => z ⟨⟨(W.1 y.1.1).1, (W.1 y.1.1).2, y.1.2⟩, y.2⟩)]
set_option maxHeartbeats 4000000 in
theorem pr_decree {h g1 g2 : JH} {a1 a2 a3 a4 x y : Int} (f1 : jfr w_X11_decree h g1) (f2 : jfr w_X12_decree g1 g2) (p : P_X11_decree a1 a2 a3 a4 x h g1) (q : P_X12_decree a1 a2 a3 a4 y g1 g2) (s : jI h) (hday : 0 ≤ h 0 0) (A7 : x = y → jAh g2) : x = y ∧ jI g2 := by
  obtain ⟨s0, s1, s2, s3, s4, s5, s6, s7, s8, s9, s10, s11, s12, s13, s14, s15, s16, s17, s18⟩ := s
  unfold P_X11_decree at p
  unfold P_X12_decree at q
  have A3 : g2 11 0 = g1 11 0 := (f2 11 0 (by unfold w_X12_decree; omega))
  have A4 : g1 176 6 = h 176 6 := (f1 176 6 (by unfold w_X11_decree; omega))
  have A6 : g1 176 0 = h 176 0 := (f1 176 0 (by unfold w_X11_decree; omega))
  have fA : ∀ i k : Int, 11 ≤ i → i ≤ 14 → g2 i k = g1 i k := fun i k p1 p2 => f2 i k (by unfold w_X12_decree; omega)
  have fB : ∀ i k : Int, 182 ≤ i → i ≤ 185 → g1 i k = h i k := fun i k p1 p2 => f1 i k (by unfold w_X11_decree; omega)
  have key : x = y ∧ g2 11 0 = g2 176 6 ∧ jDe g2 := by
    rcases p with ⟨c, e, e2⟩ | ⟨c, e, e2⟩ | ⟨c, e, e2⟩ | ⟨c, e, e1, e2⟩ <;> rcases q with ⟨d, r, r2⟩ | ⟨d, r, r2⟩ | ⟨d, r, r2⟩ | ⟨d, r, r1, r2⟩ <;> first
      | (exfalso; omega)
      | exact ⟨by omega, by omega, jDe_fr (fun i k p1 p2 => (fA i k (by omega) p2).trans (e2 i k p1 p2)) (by omega) (fun i k p1 p2 => (r2 i k p1 p2).trans (fB i k p1 p2)) (by omega) s12⟩
      | exact ⟨by omega, by omega, jDe_ins (by omega) (by omega) s9 s12 e2 fA fB A4 (by omega) r2⟩
  try clear p
  try clear q
  exact ⟨key.1, jSm_fr (fun t => ((f2 3 t (by unfold w_X12_decree; omega)).trans (f1 3 t (by unfold w_X11_decree; omega)))) (fun t => ((f2 177 t (by unfold w_X12_decree; omega)).trans (f1 177 t (by unfold w_X11_decree; omega)))) s0, jSm_fr (fun t => ((f2 4 t (by unfold w_X12_decree; omega)).trans (f1 4 t (by unfold w_X11_decree; omega)))) (fun t => ((f2 178 t (by unfold w_X12_decree; omega)).trans (f1 178 t (by unfold w_X11_decree; omega)))) s1, jSm_fr (fun t => ((f2 10 t (by unfold w_X12_decree; omega)).trans (f1 10 t (by unfold w_X11_decree; omega)))) (fun t => ((f2 179 t (by unfold w_X12_decree; omega)).trans (f1 179 t (by unfold w_X11_decree; omega)))) s2, jSm_fr (fun t => ((f2 90 t (by unfold w_X12_decree; omega)).trans (f1 90 t (by unfold w_X11_decree; omega)))) (fun t => ((f2 204 t (by unfold w_X12_decree; omega)).trans (f1 204 t (by unfold w_X11_decree; omega)))) s3, jSm_fr (fun t => ((f2 92 t (by unfold w_X12_decree; omega)).trans (f1 92 t (by unfold w_X11_decree; omega)))) (fun t => ((f2 210 t (by unfold w_X12_decree; omega)).trans (f1 210 t (by unfold w_X11_decree; omega)))) s4, jT6_fr (fun i k p1 p2 => ((f2 i k (by unfold w_X12_decree; omega)).trans (f1 i k (by unfold w_X11_decree; omega)))) (fun k => ((f2 187 k (by unfold w_X12_decree; omega)).trans (f1 187 k (by unfold w_X11_decree; omega)))) s5, jTN_fr (fun i k p1 p2 => ((f2 i k (by unfold w_X12_decree; omega)).trans (f1 i k (by unfold w_X11_decree; omega)))) (fun k => ((f2 188 k (by unfold w_X12_decree; omega)).trans (f1 188 k (by unfold w_X11_decree; omega)))) s6, (((f2 29 4 (by unfold w_X12_decree; omega)).trans (f1 29 4 (by unfold w_X11_decree; omega))).trans s7).trans ((f2 176 14 (by unfold w_X12_decree; omega)).trans (f1 176 14 (by unfold w_X11_decree; omega))).symm, (((f2 84 0 (by unfold w_X12_decree; omega)).trans (f1 84 0 (by unfold w_X11_decree; omega))).trans s8).trans ((f2 176 34 (by unfold w_X12_decree; omega)).trans (f1 176 34 (by unfold w_X11_decree; omega))).symm, key.2.1, (((f2 0 0 (by unfold w_X12_decree; omega)).trans (f1 0 0 (by unfold w_X11_decree; omega))).trans s10).trans ((f2 176 0 (by unfold w_X12_decree; omega)).trans (f1 176 0 (by unfold w_X11_decree; omega))).symm, jRo_fr (fun i k p1 p2 => ((f2 i k (by unfold w_X12_decree; omega)).trans (f1 i k (by unfold w_X11_decree; omega)))) (fun k => ((f2 180 k (by unfold w_X12_decree; omega)).trans (f1 180 k (by unfold w_X11_decree; omega)))) s11, key.2.2, jTC_fr (fun i k p1 p2 => ((f2 i k (by unfold w_X12_decree; omega)).trans (f1 i k (by unfold w_X11_decree; omega)))) (fun k => ((f2 186 k (by unfold w_X12_decree; omega)).trans (f1 186 k (by unfold w_X11_decree; omega)))) s13, jYd2_fr (fun i k q => by unfold jwy at q; exact ((f2 i k (by unfold w_X12_decree; omega)).trans (f1 i k (by unfold w_X11_decree; omega)))) (fun i k q => by unfold jmy at q; exact ((f2 i k (by unfold w_X12_decree; omega)).trans (f1 i k (by unfold w_X11_decree; omega)))) s14, jLe_fr ((f2 101 0 (by unfold w_X12_decree; omega)).trans (f1 101 0 (by unfold w_X11_decree; omega))) (fun i k p1 p2 => ((f2 i k (by unfold w_X12_decree; omega)).trans (f1 i k (by unfold w_X11_decree; omega)))) ((f2 176 45 (by unfold w_X12_decree; omega)).trans (f1 176 45 (by unfold w_X11_decree; omega))) (fun i k p1 p2 => ((f2 i k (by unfold w_X12_decree; omega)).trans (f1 i k (by unfold w_X11_decree; omega)))) s15, jGv_fr (fun i k p1 p2 => ((f2 i k (by unfold w_X12_decree; omega)).trans (f1 i k (by unfold w_X11_decree; omega)))) (fun i k p1 p2 => ((f2 i k (by unfold w_X12_decree; omega)).trans (f1 i k (by unfold w_X11_decree; omega)))) ((f2 176 34 (by unfold w_X12_decree; omega)).trans (f1 176 34 (by unfold w_X11_decree; omega))) ((f2 176 0 (by unfold w_X12_decree; omega)).trans (f1 176 0 (by unfold w_X11_decree; omega))) (fun i k p1 p2 => ((f2 i k (by unfold w_X12_decree; omega)).trans (f1 i k (by unfold w_X11_decree; omega)))) (fun i k p1 p2 => ((f2 i k (by unfold w_X12_decree; omega)).trans (f1 i k (by unfold w_X11_decree; omega)))) (fun i p1 p2 => ((f2 i 10 (by unfold w_X12_decree; omega)).trans (f1 i 10 (by unfold w_X11_decree; omega)))) (fun k => ((f2 201 k (by unfold w_X12_decree; omega)).trans (f1 201 k (by unfold w_X11_decree; omega)))) s16, (A7 key.1), jS9_fr (fun k p1 p2 => ((f2 198 k (by unfold w_X12_decree; omega)).trans (f1 198 k (by unfold w_X11_decree; omega)))) ((f2 176 0 (by unfold w_X12_decree; omega)).trans (f1 176 0 (by unfold w_X11_decree; omega))) s18⟩
theorem pf_force {h g1 g2 : JH} (f1 : jfr w_X11_force h g1) (f2 : jfr w_X12_force g1 g2) (s : jI h) : jI g2 := jI_fr (fun i k hs => (f2 i k (by unfold jSup jSupA jwy jmy at hs; unfold w_X12_force; omega)).trans (f1 i k (by unfold jSup jSupA jwy jmy at hs; unfold w_X11_force; omega))) (fun i k hs => (f2 i k (by unfold jSupG at hs; unfold w_X12_force; omega)).trans (f1 i k (by unfold jSupG at hs; unfold w_X11_force; omega))) (jAh_fr (fun i k q => by unfold jma at q; exact (f2 i k (by unfold w_X12_force; omega)).trans (f1 i k (by unfold w_X11_force; omega))) (fun i k q => by unfold jwh3 at q; exact (f2 i k (by unfold w_X12_force; omega)).trans (f1 i k (by unfold w_X11_force; omega)))) (jS9_fr (fun k _ _ => (f2 198 k (by unfold w_X12_force; omega)).trans (f1 198 k (by unfold w_X11_force; omega))) ((f2 176 0 (by unfold w_X12_force; omega)).trans (f1 176 0 (by unfold w_X11_force; omega)))) s
set_option maxHeartbeats 4000000 in
theorem pr_force {h g1 g2 : JH} {a1 a2 a3 x y : Int} (f1 : jfr w_X11_force h g1) (f2 : jfr w_X12_force g1 g2) (p : P_X11_force a1 a2 a3 x h) (q : P_X12_force a1 a2 a3 y g1) (s : jI h) : x = y ∧ jI g2 := by
  refine ⟨?_, pf_force f1 f2 s⟩
  obtain ⟨s0, s1, s2, s3, s4, s5, s6, s7, s8, s9, s10, s11, s12, s13, s14, s15, s16, s17, s18⟩ := s
  unfold P_X11_force at p
  unfold P_X12_force at q
  have e : ∀ i k : Int, 182 ≤ i → i ≤ 185 → g1 i k = h i k := fun i k p1 p2 => f1 i k (by unfold w_X11_force; omega)
  rw [jfn (fun k => e 182 k (by decide) (by decide)), jfn (fun k => e 183 k (by decide) (by decide)), jfn (fun k => e 184 k (by decide) (by decide)), jfn (fun k => e 185 k (by decide) (by decide)), f1 176 6 (by unfold w_X11_force; omega)] at q
  rcases p with p | p | p | ⟨p, pp, v0, v1, v2, v3, v4⟩ <;> rcases q with q | q | q | q <;> first
    | (exfalso; omega)
    | omega
    | skip
  unfold jDe at s12
  obtain ⟨t1, t0, t2⟩ := s12
  have T := t2 a1 a2 a3 (by omega) (by omega) (by omega) (by omega)
  obtain ⟨n, hn⟩ := Int.eq_ofNat_of_zero_le t0
  obtain ⟨pn, hp⟩ := Int.eq_ofNat_of_zero_le v0
  subst hp
  have C := jov_cv (S := h 12) (N := h 13) (D := h 14) (s := jsl a1 a2) (d := a3) (p := pn) (fun j hj => v2 j (by omega) (by omega)) n (by omega) (fun j b0 b1 => by
    rcases v3 with z | z
    · omega
    · by_cases y : (j : Int) = pn
      · rw [y]; exact z
      · have := t1 pn j (by omega) (by omega) (by omega); omega)
  rw [show (h 11 0).toNat = n by omega] at T
  rw [v4, q.2.2.2.2.2.2, ← T, show ((pn : Int)).toNat = pn by omega]
  exact C.symm
set_option maxHeartbeats 4000000 in
theorem pr_task {h g1 g2 : JH} {a1 a2 a3 a4 x y : Int} (f1 : jfr w_X11_task h g1) (f2 : jfr w_X12_task g1 g2) (p : P_X11_task a1 a2 a3 a4 x h g1) (q : P_X12_task a1 a2 a3 a4 y g1 g2) (s : jI h) (A7 : x = y → jAh g2) : x = y ∧ jI g2 := by
  obtain ⟨s0, s1, s2, s3, s4, s5, s6, s7, s8, s9, s10, s11, s12, s13, s14, s15, s16, s17, s18⟩ := s
  unfold P_X11_task at p
  unfold P_X12_task at q
  have fA6 : ∀ i k : Int, 22 ≤ i → i ≤ 24 → g2 i k = g1 i k := fun i k p1 p2 => (f2 i k (by unfold w_X12_task; omega))
  have fB6 : ∀ t : Int, g1 187 t = h 187 t := fun t => (f1 187 t (by unfold w_X11_task; omega))
  have fAC : ∀ i k : Int, 18 ≤ i → i ≤ 20 → g2 i k = g1 i k := fun i k p1 p2 => (f2 i k (by unfold w_X12_task; omega))
  have fBC : ∀ t : Int, g1 186 t = h 186 t := fun t => (f1 186 t (by unfold w_X11_task; omega))
  have A4 := fB6 (6 * a1 + a2)
  have A5 : ¬ (0 ≤ a1 ∧ a1 < 3 ∧ 0 ≤ a2 ∧ a2 < 6) ∨ h (22 + a1) a2 = h 187 (6 * a1 + a2) := by
    by_cases z : 0 ≤ a1 ∧ a1 < 3 ∧ 0 ≤ a2 ∧ a2 < 6
    · exact Or.inr (s5 a1 a2 z.1 z.2.1 z.2.2.1 z.2.2.2)
    · exact Or.inl z
  have key : x = y ∧ jT6 g2 ∧ jTC g2 := by
    rcases p with ⟨c, e, e9⟩ | ⟨c, e, e9⟩ | ⟨c, e, e9⟩ | ⟨c, ⟨e, ee⟩, e9, ee9⟩ <;> rcases q with ⟨d, r, r9⟩ | ⟨d, r, r9⟩ | ⟨d, r, r9⟩ | ⟨d, ⟨r, rr⟩, r9, rr9⟩
    · refine ⟨by omega, fun s b h0 h1 h2 h3 => ?_, fun s b h0 h1 h2 h3 => ?_⟩
      · have E3 := fA6 (22 + s) b (by omega) (by omega); have E4 := fB6 (6 * s + b); have E5 := s5 s b h0 h1 h2 h3
        have E1 := e (22 + s) b (by omega) (by omega); have E2 := r 187 (6 * s + b) (by omega) (by omega)
        omega
      · have E3 := fAC (18 + s) b (by omega) (by omega); have E4 := fBC (6 * s + b); have E5 := s13 s b h0 h1 h2 h3
        have E1 := e9 (18 + s) b (by omega) (by omega); have E2 := r9 186 (6 * s + b) (by omega) (by omega)
        omega
    · exfalso; omega
    · exfalso; omega
    · exfalso; omega
    · exfalso; omega
    · refine ⟨by omega, fun s b h0 h1 h2 h3 => ?_, fun s b h0 h1 h2 h3 => ?_⟩
      · have E3 := fA6 (22 + s) b (by omega) (by omega); have E4 := fB6 (6 * s + b); have E5 := s5 s b h0 h1 h2 h3
        have E1 := e (22 + s) b (by omega) (by omega); have E2 := r 187 (6 * s + b) (by omega) (by omega)
        omega
      · have E3 := fAC (18 + s) b (by omega) (by omega); have E4 := fBC (6 * s + b); have E5 := s13 s b h0 h1 h2 h3
        have E1 := e9 (18 + s) b (by omega) (by omega); have E2 := r9 186 (6 * s + b) (by omega) (by omega)
        omega
    · exfalso; omega
    · exfalso; omega
    · exfalso; omega
    · exfalso; omega
    · refine ⟨by omega, fun s b h0 h1 h2 h3 => ?_, fun s b h0 h1 h2 h3 => ?_⟩
      · have E3 := fA6 (22 + s) b (by omega) (by omega); have E4 := fB6 (6 * s + b); have E5 := s5 s b h0 h1 h2 h3
        have E1 := e (22 + s) b (by omega) (by omega); have E2 := r 187 (6 * s + b) (by omega) (by omega)
        omega
      · have E3 := fAC (18 + s) b (by omega) (by omega); have E4 := fBC (6 * s + b); have E5 := s13 s b h0 h1 h2 h3
        have E1 := e9 (18 + s) b (by omega) (by omega); have E2 := r9 186 (6 * s + b) (by omega) (by omega)
        omega
    · exfalso; omega
    · exfalso; omega
    · exfalso; omega
    · exfalso; omega
    · refine ⟨by omega, fun s b h0 h1 h2 h3 => ?_, fun s b h0 h1 h2 h3 => ?_⟩
      · have E3 := fA6 (22 + s) b (by omega) (by omega); have E4 := fB6 (6 * s + b); have E5 := s5 s b h0 h1 h2 h3
        by_cases z : s = a1 ∧ b = a2
        · rw [z.1, z.2] at E3; rw [z.1, z.2]; omega
        · have E1 := ee (22 + s) b (by omega) (by omega) (by omega); have E2 := rr 187 (6 * s + b) (by omega) (by omega) (by omega); omega
      · have E3 := fAC (18 + s) b (by omega) (by omega); have E4 := fBC (6 * s + b); have E5 := s13 s b h0 h1 h2 h3
        by_cases z : s = a1 ∧ b = a2
        · rw [z.1, z.2] at E3; rw [z.1, z.2]; omega
        · have E1 := ee9 (18 + s) b (by omega) (by omega) (by omega); have E2 := rr9 186 (6 * s + b) (by omega) (by omega) (by omega); omega
  try clear p
  try clear q
  exact ⟨key.1, jSm_fr (fun t => ((f2 3 t (by unfold w_X12_task; omega)).trans (f1 3 t (by unfold w_X11_task; omega)))) (fun t => ((f2 177 t (by unfold w_X12_task; omega)).trans (f1 177 t (by unfold w_X11_task; omega)))) s0, jSm_fr (fun t => ((f2 4 t (by unfold w_X12_task; omega)).trans (f1 4 t (by unfold w_X11_task; omega)))) (fun t => ((f2 178 t (by unfold w_X12_task; omega)).trans (f1 178 t (by unfold w_X11_task; omega)))) s1, jSm_fr (fun t => ((f2 10 t (by unfold w_X12_task; omega)).trans (f1 10 t (by unfold w_X11_task; omega)))) (fun t => ((f2 179 t (by unfold w_X12_task; omega)).trans (f1 179 t (by unfold w_X11_task; omega)))) s2, jSm_fr (fun t => ((f2 90 t (by unfold w_X12_task; omega)).trans (f1 90 t (by unfold w_X11_task; omega)))) (fun t => ((f2 204 t (by unfold w_X12_task; omega)).trans (f1 204 t (by unfold w_X11_task; omega)))) s3, jSm_fr (fun t => ((f2 92 t (by unfold w_X12_task; omega)).trans (f1 92 t (by unfold w_X11_task; omega)))) (fun t => ((f2 210 t (by unfold w_X12_task; omega)).trans (f1 210 t (by unfold w_X11_task; omega)))) s4, key.2.1, jTN_fr (fun i k p1 p2 => ((f2 i k (by unfold w_X12_task; omega)).trans (f1 i k (by unfold w_X11_task; omega)))) (fun k => ((f2 188 k (by unfold w_X12_task; omega)).trans (f1 188 k (by unfold w_X11_task; omega)))) s6, (((f2 29 4 (by unfold w_X12_task; omega)).trans (f1 29 4 (by unfold w_X11_task; omega))).trans s7).trans ((f2 176 14 (by unfold w_X12_task; omega)).trans (f1 176 14 (by unfold w_X11_task; omega))).symm, (((f2 84 0 (by unfold w_X12_task; omega)).trans (f1 84 0 (by unfold w_X11_task; omega))).trans s8).trans ((f2 176 34 (by unfold w_X12_task; omega)).trans (f1 176 34 (by unfold w_X11_task; omega))).symm, (((f2 11 0 (by unfold w_X12_task; omega)).trans (f1 11 0 (by unfold w_X11_task; omega))).trans s9).trans ((f2 176 6 (by unfold w_X12_task; omega)).trans (f1 176 6 (by unfold w_X11_task; omega))).symm, (((f2 0 0 (by unfold w_X12_task; omega)).trans (f1 0 0 (by unfold w_X11_task; omega))).trans s10).trans ((f2 176 0 (by unfold w_X12_task; omega)).trans (f1 176 0 (by unfold w_X11_task; omega))).symm, jRo_fr (fun i k p1 p2 => ((f2 i k (by unfold w_X12_task; omega)).trans (f1 i k (by unfold w_X11_task; omega)))) (fun k => ((f2 180 k (by unfold w_X12_task; omega)).trans (f1 180 k (by unfold w_X11_task; omega)))) s11, jDe_fr (fun i k p1 p2 => ((f2 i k (by unfold w_X12_task; omega)).trans (f1 i k (by unfold w_X11_task; omega)))) ((f2 11 0 (by unfold w_X12_task; omega)).trans (f1 11 0 (by unfold w_X11_task; omega))) (fun i k p1 p2 => ((f2 i k (by unfold w_X12_task; omega)).trans (f1 i k (by unfold w_X11_task; omega)))) ((f2 176 6 (by unfold w_X12_task; omega)).trans (f1 176 6 (by unfold w_X11_task; omega))) s12, key.2.2, jYd2_fr (fun i k q => by unfold jwy at q; exact ((f2 i k (by unfold w_X12_task; omega)).trans (f1 i k (by unfold w_X11_task; omega)))) (fun i k q => by unfold jmy at q; exact ((f2 i k (by unfold w_X12_task; omega)).trans (f1 i k (by unfold w_X11_task; omega)))) s14, jLe_fr ((f2 101 0 (by unfold w_X12_task; omega)).trans (f1 101 0 (by unfold w_X11_task; omega))) (fun i k p1 p2 => ((f2 i k (by unfold w_X12_task; omega)).trans (f1 i k (by unfold w_X11_task; omega)))) ((f2 176 45 (by unfold w_X12_task; omega)).trans (f1 176 45 (by unfold w_X11_task; omega))) (fun i k p1 p2 => ((f2 i k (by unfold w_X12_task; omega)).trans (f1 i k (by unfold w_X11_task; omega)))) s15, jGv_fr (fun i k p1 p2 => ((f2 i k (by unfold w_X12_task; omega)).trans (f1 i k (by unfold w_X11_task; omega)))) (fun i k p1 p2 => ((f2 i k (by unfold w_X12_task; omega)).trans (f1 i k (by unfold w_X11_task; omega)))) ((f2 176 34 (by unfold w_X12_task; omega)).trans (f1 176 34 (by unfold w_X11_task; omega))) ((f2 176 0 (by unfold w_X12_task; omega)).trans (f1 176 0 (by unfold w_X11_task; omega))) (fun i k p1 p2 => ((f2 i k (by unfold w_X12_task; omega)).trans (f1 i k (by unfold w_X11_task; omega)))) (fun i k p1 p2 => ((f2 i k (by unfold w_X12_task; omega)).trans (f1 i k (by unfold w_X11_task; omega)))) (fun i p1 p2 => ((f2 i 10 (by unfold w_X12_task; omega)).trans (f1 i 10 (by unfold w_X11_task; omega)))) (fun k => ((f2 201 k (by unfold w_X12_task; omega)).trans (f1 201 k (by unfold w_X11_task; omega)))) s16, (A7 key.1), jS9_fr (fun k p1 p2 => ((f2 198 k (by unfold w_X12_task; omega)).trans (f1 198 k (by unfold w_X11_task; omega)))) ((f2 176 0 (by unfold w_X12_task; omega)).trans (f1 176 0 (by unfold w_X11_task; omega))) s18⟩
set_option maxHeartbeats 4000000 in
theorem pr_needs {h g1 g2 : JH} {a1 a2 a3 a4 x y : Int} (f1 : jfr w_X11_needs h g1) (f2 : jfr w_X12_needs g1 g2) (p : P_X11_needs a1 a2 a3 a4 x h g1) (q : P_X12_needs a1 a2 a3 a4 y g1 g2) (s : jI h) (A7 : x = y → jAh g2) : x = y ∧ jI g2 := by
  obtain ⟨s0, s1, s2, s3, s4, s5, s6, s7, s8, s9, s10, s11, s12, s13, s14, s15, s16, s17, s18⟩ := s
  unfold P_X11_needs at p
  unfold P_X12_needs at q
  have fA : ∀ i k : Int, 26 ≤ i → i ≤ 28 → g2 i k = g1 i k := fun i k p1 p2 => (f2 i k (by unfold w_X12_needs; omega))
  have fB : ∀ t : Int, g1 188 t = h 188 t := fun t => (f1 188 t (by unfold w_X11_needs; omega))
  have A4 := fB (6 * (6 * a1 + a2) + a3)
  have A5 : ¬ (0 ≤ a1 ∧ a1 < 3 ∧ 0 ≤ a2 * 6 + a3 ∧ a2 * 6 + a3 < 36) ∨ h (26 + a1) (a2 * 6 + a3) = h 188 (6 * (6 * a1 + a2) + a3) := by
    by_cases z : 0 ≤ a1 ∧ a1 < 3 ∧ 0 ≤ a2 * 6 + a3 ∧ a2 * 6 + a3 < 36
    · have z2 := s6 a1 (a2 * 6 + a3) z.1 z.2.1 z.2.2.1 z.2.2.2; rw [show 36 * a1 + (a2 * 6 + a3) = 6 * (6 * a1 + a2) + a3 by omega] at z2; exact Or.inr z2
    · exact Or.inl z
  have key : x = y ∧ jTN g2 := by
    rcases p with ⟨c, e⟩ | ⟨c, e⟩ | ⟨c, e⟩ | ⟨c, ⟨e, ee⟩⟩ <;> rcases q with ⟨d, r⟩ | ⟨d, r⟩ | ⟨d, r⟩ | ⟨d, ⟨r, rr⟩⟩
    · refine ⟨by omega, fun s b h0 h1 h2 h3 => ?_⟩
      have E3 := fA (26 + s) b (by omega) (by omega); have E4 := fB (36 * s + b); have E5 := s6 s b h0 h1 h2 h3
      have E1 := e (26 + s) b (by omega) (by omega); have E2 := r 188 (36 * s + b) (by omega) (by omega)
      omega
    · exfalso; omega
    · exfalso; omega
    · exfalso; omega
    · exfalso; omega
    · refine ⟨by omega, fun s b h0 h1 h2 h3 => ?_⟩
      have E3 := fA (26 + s) b (by omega) (by omega); have E4 := fB (36 * s + b); have E5 := s6 s b h0 h1 h2 h3
      have E1 := e (26 + s) b (by omega) (by omega); have E2 := r 188 (36 * s + b) (by omega) (by omega)
      omega
    · exfalso; omega
    · exfalso; omega
    · exfalso; omega
    · exfalso; omega
    · refine ⟨by omega, fun s b h0 h1 h2 h3 => ?_⟩
      have E3 := fA (26 + s) b (by omega) (by omega); have E4 := fB (36 * s + b); have E5 := s6 s b h0 h1 h2 h3
      have E1 := e (26 + s) b (by omega) (by omega); have E2 := r 188 (36 * s + b) (by omega) (by omega)
      omega
    · exfalso; omega
    · exfalso; omega
    · exfalso; omega
    · exfalso; omega
    · refine ⟨by omega, fun s b h0 h1 h2 h3 => ?_⟩
      have E3 := fA (26 + s) b (by omega) (by omega); have E4 := fB (36 * s + b); have E5 := s6 s b h0 h1 h2 h3
      by_cases z : s = a1 ∧ b = a2 * 6 + a3
      · rw [show 26 + s = 26 + a1 by omega, show b = a2 * 6 + a3 by omega] at E3; rw [show 26 + s = 26 + a1 by omega, show 36 * s + b = 6 * (6 * a1 + a2) + a3 by omega, show b = a2 * 6 + a3 by omega]; omega
      · have E1 := ee (26 + s) b (by omega) (by omega) (by omega); have E2 := rr 188 (36 * s + b) (by omega) (by omega) (by omega); omega
  try clear p
  try clear q
  exact ⟨key.1, jSm_fr (fun t => ((f2 3 t (by unfold w_X12_needs; omega)).trans (f1 3 t (by unfold w_X11_needs; omega)))) (fun t => ((f2 177 t (by unfold w_X12_needs; omega)).trans (f1 177 t (by unfold w_X11_needs; omega)))) s0, jSm_fr (fun t => ((f2 4 t (by unfold w_X12_needs; omega)).trans (f1 4 t (by unfold w_X11_needs; omega)))) (fun t => ((f2 178 t (by unfold w_X12_needs; omega)).trans (f1 178 t (by unfold w_X11_needs; omega)))) s1, jSm_fr (fun t => ((f2 10 t (by unfold w_X12_needs; omega)).trans (f1 10 t (by unfold w_X11_needs; omega)))) (fun t => ((f2 179 t (by unfold w_X12_needs; omega)).trans (f1 179 t (by unfold w_X11_needs; omega)))) s2, jSm_fr (fun t => ((f2 90 t (by unfold w_X12_needs; omega)).trans (f1 90 t (by unfold w_X11_needs; omega)))) (fun t => ((f2 204 t (by unfold w_X12_needs; omega)).trans (f1 204 t (by unfold w_X11_needs; omega)))) s3, jSm_fr (fun t => ((f2 92 t (by unfold w_X12_needs; omega)).trans (f1 92 t (by unfold w_X11_needs; omega)))) (fun t => ((f2 210 t (by unfold w_X12_needs; omega)).trans (f1 210 t (by unfold w_X11_needs; omega)))) s4, jT6_fr (fun i k p1 p2 => ((f2 i k (by unfold w_X12_needs; omega)).trans (f1 i k (by unfold w_X11_needs; omega)))) (fun k => ((f2 187 k (by unfold w_X12_needs; omega)).trans (f1 187 k (by unfold w_X11_needs; omega)))) s5, key.2, (((f2 29 4 (by unfold w_X12_needs; omega)).trans (f1 29 4 (by unfold w_X11_needs; omega))).trans s7).trans ((f2 176 14 (by unfold w_X12_needs; omega)).trans (f1 176 14 (by unfold w_X11_needs; omega))).symm, (((f2 84 0 (by unfold w_X12_needs; omega)).trans (f1 84 0 (by unfold w_X11_needs; omega))).trans s8).trans ((f2 176 34 (by unfold w_X12_needs; omega)).trans (f1 176 34 (by unfold w_X11_needs; omega))).symm, (((f2 11 0 (by unfold w_X12_needs; omega)).trans (f1 11 0 (by unfold w_X11_needs; omega))).trans s9).trans ((f2 176 6 (by unfold w_X12_needs; omega)).trans (f1 176 6 (by unfold w_X11_needs; omega))).symm, (((f2 0 0 (by unfold w_X12_needs; omega)).trans (f1 0 0 (by unfold w_X11_needs; omega))).trans s10).trans ((f2 176 0 (by unfold w_X12_needs; omega)).trans (f1 176 0 (by unfold w_X11_needs; omega))).symm, jRo_fr (fun i k p1 p2 => ((f2 i k (by unfold w_X12_needs; omega)).trans (f1 i k (by unfold w_X11_needs; omega)))) (fun k => ((f2 180 k (by unfold w_X12_needs; omega)).trans (f1 180 k (by unfold w_X11_needs; omega)))) s11, jDe_fr (fun i k p1 p2 => ((f2 i k (by unfold w_X12_needs; omega)).trans (f1 i k (by unfold w_X11_needs; omega)))) ((f2 11 0 (by unfold w_X12_needs; omega)).trans (f1 11 0 (by unfold w_X11_needs; omega))) (fun i k p1 p2 => ((f2 i k (by unfold w_X12_needs; omega)).trans (f1 i k (by unfold w_X11_needs; omega)))) ((f2 176 6 (by unfold w_X12_needs; omega)).trans (f1 176 6 (by unfold w_X11_needs; omega))) s12, jTC_fr (fun i k p1 p2 => ((f2 i k (by unfold w_X12_needs; omega)).trans (f1 i k (by unfold w_X11_needs; omega)))) (fun k => ((f2 186 k (by unfold w_X12_needs; omega)).trans (f1 186 k (by unfold w_X11_needs; omega)))) s13, jYd2_fr (fun i k q => by unfold jwy at q; exact ((f2 i k (by unfold w_X12_needs; omega)).trans (f1 i k (by unfold w_X11_needs; omega)))) (fun i k q => by unfold jmy at q; exact ((f2 i k (by unfold w_X12_needs; omega)).trans (f1 i k (by unfold w_X11_needs; omega)))) s14, jLe_fr ((f2 101 0 (by unfold w_X12_needs; omega)).trans (f1 101 0 (by unfold w_X11_needs; omega))) (fun i k p1 p2 => ((f2 i k (by unfold w_X12_needs; omega)).trans (f1 i k (by unfold w_X11_needs; omega)))) ((f2 176 45 (by unfold w_X12_needs; omega)).trans (f1 176 45 (by unfold w_X11_needs; omega))) (fun i k p1 p2 => ((f2 i k (by unfold w_X12_needs; omega)).trans (f1 i k (by unfold w_X11_needs; omega)))) s15, jGv_fr (fun i k p1 p2 => ((f2 i k (by unfold w_X12_needs; omega)).trans (f1 i k (by unfold w_X11_needs; omega)))) (fun i k p1 p2 => ((f2 i k (by unfold w_X12_needs; omega)).trans (f1 i k (by unfold w_X11_needs; omega)))) ((f2 176 34 (by unfold w_X12_needs; omega)).trans (f1 176 34 (by unfold w_X11_needs; omega))) ((f2 176 0 (by unfold w_X12_needs; omega)).trans (f1 176 0 (by unfold w_X11_needs; omega))) (fun i k p1 p2 => ((f2 i k (by unfold w_X12_needs; omega)).trans (f1 i k (by unfold w_X11_needs; omega)))) (fun i k p1 p2 => ((f2 i k (by unfold w_X12_needs; omega)).trans (f1 i k (by unfold w_X11_needs; omega)))) (fun i p1 p2 => ((f2 i 10 (by unfold w_X12_needs; omega)).trans (f1 i 10 (by unfold w_X11_needs; omega)))) (fun k => ((f2 201 k (by unfold w_X12_needs; omega)).trans (f1 201 k (by unfold w_X11_needs; omega)))) s16, (A7 key.1), jS9_fr (fun k p1 p2 => ((f2 198 k (by unfold w_X12_needs; omega)).trans (f1 198 k (by unfold w_X11_needs; omega)))) ((f2 176 0 (by unfold w_X12_needs; omega)).trans (f1 176 0 (by unfold w_X11_needs; omega))) s18⟩
set_option maxHeartbeats 4000000 in
theorem pr_growth {h g1 g2 : JH} {a1 a2 x y : Int} (f1 : jfr w_X11_growth h g1) (f2 : jfr w_X12_growth g1 g2) (p : P_X11_growth a1 a2 x h g1) (q : P_X12_growth a1 a2 y g1 g2) (s : jI h) : x = y ∧ jI g2 := by
  obtain ⟨s0, s1, s2, s3, s4, s5, s6, s7, s8, s9, s10, s11, s12, s13, s14, s15, s16, s17, s18⟩ := s
  unfold P_X11_growth at p
  unfold P_X12_growth at q
  have fA : ∀ t : Int, g2 90 t = g1 90 t := fun t => (f2 90 t (by unfold w_X12_growth; omega))
  have fB : ∀ t : Int, g1 204 t = h 204 t := fun t => (f1 204 t (by unfold w_X11_growth; omega))
  have A4 := fB a1; have A3 := fA a1
  have A5 : ¬ (0 ≤ a1 ∧ a1 < 3) ∨ h 90 a1 = h 204 a1 := by
    by_cases z : 0 ≤ a1 ∧ a1 < 3
    · exact Or.inr (s3 a1 z.1 z.2)
    · exact Or.inl z
  have key : x = y ∧ jSm 90 204 3 g2 := by
    rcases p with ⟨c, e⟩ | ⟨c, e⟩ | ⟨c, e⟩ | ⟨c, e, ee⟩ <;> rcases q with ⟨d, r⟩ | ⟨d, r⟩ | ⟨d, r⟩ | ⟨d, r, rr⟩
    · refine ⟨by omega, fun t h0 h1 => ?_⟩
      have E3 := fA t; have E4 := fB t; have E5 := s3 t h0 h1
      have E1 := e 90 t (by omega) (by omega); have E2 := r 204 t (by omega) (by omega)
      omega
    · exfalso; omega
    · exfalso; omega
    · exfalso; omega
    · exfalso; omega
    · refine ⟨by omega, fun t h0 h1 => ?_⟩
      have E3 := fA t; have E4 := fB t; have E5 := s3 t h0 h1
      have E1 := e 90 t (by omega) (by omega); have E2 := r 204 t (by omega) (by omega)
      omega
    · exfalso; omega
    · exfalso; omega
    · exfalso; omega
    · exfalso; omega
    · refine ⟨by omega, fun t h0 h1 => ?_⟩
      have E3 := fA t; have E4 := fB t; have E5 := s3 t h0 h1
      have E1 := e 90 t (by omega) (by omega); have E2 := r 204 t (by omega) (by omega)
      omega
    · exfalso; omega
    · exfalso; omega
    · exfalso; omega
    · exfalso; omega
    · refine ⟨by omega, fun t h0 h1 => ?_⟩
      have E3 := fA t; have E4 := fB t; have E5 := s3 t h0 h1
      by_cases z : t = a1
      · rw [z] at E3 E4 E5 ⊢; omega
      · have E1 := ee 90 t (by omega) (by omega) (by omega); have E2 := rr 204 t (by omega) (by omega) (by omega); omega
  try clear p
  try clear q
  exact ⟨key.1, jSm_fr (fun t => ((f2 3 t (by unfold w_X12_growth; omega)).trans (f1 3 t (by unfold w_X11_growth; omega)))) (fun t => ((f2 177 t (by unfold w_X12_growth; omega)).trans (f1 177 t (by unfold w_X11_growth; omega)))) s0, jSm_fr (fun t => ((f2 4 t (by unfold w_X12_growth; omega)).trans (f1 4 t (by unfold w_X11_growth; omega)))) (fun t => ((f2 178 t (by unfold w_X12_growth; omega)).trans (f1 178 t (by unfold w_X11_growth; omega)))) s1, jSm_fr (fun t => ((f2 10 t (by unfold w_X12_growth; omega)).trans (f1 10 t (by unfold w_X11_growth; omega)))) (fun t => ((f2 179 t (by unfold w_X12_growth; omega)).trans (f1 179 t (by unfold w_X11_growth; omega)))) s2, key.2, jSm_fr (fun t => ((f2 92 t (by unfold w_X12_growth; omega)).trans (f1 92 t (by unfold w_X11_growth; omega)))) (fun t => ((f2 210 t (by unfold w_X12_growth; omega)).trans (f1 210 t (by unfold w_X11_growth; omega)))) s4, jT6_fr (fun i k p1 p2 => ((f2 i k (by unfold w_X12_growth; omega)).trans (f1 i k (by unfold w_X11_growth; omega)))) (fun k => ((f2 187 k (by unfold w_X12_growth; omega)).trans (f1 187 k (by unfold w_X11_growth; omega)))) s5, jTN_fr (fun i k p1 p2 => ((f2 i k (by unfold w_X12_growth; omega)).trans (f1 i k (by unfold w_X11_growth; omega)))) (fun k => ((f2 188 k (by unfold w_X12_growth; omega)).trans (f1 188 k (by unfold w_X11_growth; omega)))) s6, (((f2 29 4 (by unfold w_X12_growth; omega)).trans (f1 29 4 (by unfold w_X11_growth; omega))).trans s7).trans ((f2 176 14 (by unfold w_X12_growth; omega)).trans (f1 176 14 (by unfold w_X11_growth; omega))).symm, (((f2 84 0 (by unfold w_X12_growth; omega)).trans (f1 84 0 (by unfold w_X11_growth; omega))).trans s8).trans ((f2 176 34 (by unfold w_X12_growth; omega)).trans (f1 176 34 (by unfold w_X11_growth; omega))).symm, (((f2 11 0 (by unfold w_X12_growth; omega)).trans (f1 11 0 (by unfold w_X11_growth; omega))).trans s9).trans ((f2 176 6 (by unfold w_X12_growth; omega)).trans (f1 176 6 (by unfold w_X11_growth; omega))).symm, (((f2 0 0 (by unfold w_X12_growth; omega)).trans (f1 0 0 (by unfold w_X11_growth; omega))).trans s10).trans ((f2 176 0 (by unfold w_X12_growth; omega)).trans (f1 176 0 (by unfold w_X11_growth; omega))).symm, jRo_fr (fun i k p1 p2 => ((f2 i k (by unfold w_X12_growth; omega)).trans (f1 i k (by unfold w_X11_growth; omega)))) (fun k => ((f2 180 k (by unfold w_X12_growth; omega)).trans (f1 180 k (by unfold w_X11_growth; omega)))) s11, jDe_fr (fun i k p1 p2 => ((f2 i k (by unfold w_X12_growth; omega)).trans (f1 i k (by unfold w_X11_growth; omega)))) ((f2 11 0 (by unfold w_X12_growth; omega)).trans (f1 11 0 (by unfold w_X11_growth; omega))) (fun i k p1 p2 => ((f2 i k (by unfold w_X12_growth; omega)).trans (f1 i k (by unfold w_X11_growth; omega)))) ((f2 176 6 (by unfold w_X12_growth; omega)).trans (f1 176 6 (by unfold w_X11_growth; omega))) s12, jTC_fr (fun i k p1 p2 => ((f2 i k (by unfold w_X12_growth; omega)).trans (f1 i k (by unfold w_X11_growth; omega)))) (fun k => ((f2 186 k (by unfold w_X12_growth; omega)).trans (f1 186 k (by unfold w_X11_growth; omega)))) s13, jYd2_fr (fun i k q => by unfold jwy at q; exact ((f2 i k (by unfold w_X12_growth; omega)).trans (f1 i k (by unfold w_X11_growth; omega)))) (fun i k q => by unfold jmy at q; exact ((f2 i k (by unfold w_X12_growth; omega)).trans (f1 i k (by unfold w_X11_growth; omega)))) s14, jLe_fr ((f2 101 0 (by unfold w_X12_growth; omega)).trans (f1 101 0 (by unfold w_X11_growth; omega))) (fun i k p1 p2 => ((f2 i k (by unfold w_X12_growth; omega)).trans (f1 i k (by unfold w_X11_growth; omega)))) ((f2 176 45 (by unfold w_X12_growth; omega)).trans (f1 176 45 (by unfold w_X11_growth; omega))) (fun i k p1 p2 => ((f2 i k (by unfold w_X12_growth; omega)).trans (f1 i k (by unfold w_X11_growth; omega)))) s15, jGv_fr (fun i k p1 p2 => ((f2 i k (by unfold w_X12_growth; omega)).trans (f1 i k (by unfold w_X11_growth; omega)))) (fun i k p1 p2 => ((f2 i k (by unfold w_X12_growth; omega)).trans (f1 i k (by unfold w_X11_growth; omega)))) ((f2 176 34 (by unfold w_X12_growth; omega)).trans (f1 176 34 (by unfold w_X11_growth; omega))) ((f2 176 0 (by unfold w_X12_growth; omega)).trans (f1 176 0 (by unfold w_X11_growth; omega))) (fun i k p1 p2 => ((f2 i k (by unfold w_X12_growth; omega)).trans (f1 i k (by unfold w_X11_growth; omega)))) (fun i k p1 p2 => ((f2 i k (by unfold w_X12_growth; omega)).trans (f1 i k (by unfold w_X11_growth; omega)))) (fun i p1 p2 => ((f2 i 10 (by unfold w_X12_growth; omega)).trans (f1 i 10 (by unfold w_X11_growth; omega)))) (fun k => ((f2 201 k (by unfold w_X12_growth; omega)).trans (f1 201 k (by unfold w_X11_growth; omega)))) s16, jAh_fr (fun i k q => by unfold jma at q; exact ((f2 i k (by unfold w_X12_growth; omega)).trans (f1 i k (by unfold w_X11_growth; omega)))) (fun i k q => by unfold jwh3 at q; exact ((f2 i k (by unfold w_X12_growth; omega)).trans (f1 i k (by unfold w_X11_growth; omega)))) s17, jS9_fr (fun k p1 p2 => ((f2 198 k (by unfold w_X12_growth; omega)).trans (f1 198 k (by unfold w_X11_growth; omega)))) ((f2 176 0 (by unfold w_X12_growth; omega)).trans (f1 176 0 (by unfold w_X11_growth; omega))) s18⟩
