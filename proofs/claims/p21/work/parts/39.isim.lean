/-! ===== THE DAYS' BEGINNING ===== -/
def jwk (i k : Int) : Prop := (i = 0 ∧ k = 0) ∨ (i = 29 ∧ k = 4) ∨ (3 ≤ i ∧ i ≤ 10) ∨ (i = 11 ∧ k = 0) ∨ (12 ≤ i ∧ i ≤ 14) ∨ (18 ≤ i ∧ i ≤ 28) ∨ i = 30 ∨ i = 31 ∨ (36 ≤ i ∧ i ≤ 83 ∧ ¬ k = 10) ∨ (84 ≤ i ∧ i ≤ 90)
def jmk (i k : Int) : Prop := (i = 176 ∧ (k = 0 ∨ k = 6 ∨ k = 14 ∨ k = 34)) ∨ (177 ≤ i ∧ i ≤ 200) ∨ i = 202 ∨ (204 ≤ i ∧ i ≤ 208)
theorem jDR_fr {fl : Prop} {hc hm hc' hm' : JH} (e : ∀ i k : Int, jwk i k → hc' i k = hc i k) (m : ∀ i k : Int, jmk i k → hm' i k = hm i k) (S : jDR fl hc hm) : jDR fl hc' hm' := by
  obtain ⟨⟨n1, n2, n3, n4, n5, nd⟩, R, T, K, C, Tr⟩ := S
  have w14 : hm' 176 14 = hm 176 14 := m _ _ (by unfold jmk; omega)
  have w0 : hm' 176 0 = hm 176 0 := m _ _ (by unfold jmk; omega)
  refine ⟨⟨by rw [e 29 4 (by unfold jwk; omega), w14]; exact n1, by omega, by omega, by rw [e 0 0 (by unfold jwk; omega), w0]; exact n4, by omega, jNd_fr (fun i j z => m i j (by unfold jmk; omega)) nd⟩, ?_, jTK_fr (fun i k _ _ => e i k (by unfold jwk; omega)) (fun i k _ _ => m i k (by unfold jmk; omega)) T, fun k a b => ?_, ?_, ?_⟩
  · exact jR2_fr jDn_16 (fun i k z z2 => e i k (by unfold jwk; omega)) (fun i k z => m i k (by unfold jmk; omega)) R
  · rw [e _ 1 (by unfold jwk; omega), m 190 k (by unfold jmk; omega), e _ 2 (by unfold jwk; omega), m 191 k (by unfold jmk; omega)]; exact K k a b
  · exact jCF_fr (fun i k _ _ => e i k (by unfold jwk; omega)) (fun i k _ _ => e i k (by unfold jwk; omega)) (e 11 0 (by unfold jwk; omega)) (fun i k _ _ => m i k (by unfold jmk; omega)) (fun i k _ _ => m i k (by unfold jmk; omega)) (m 176 6 (by unfold jmk; omega)) C
  · exact fun hf => jTr_fr (fun i k _ _ => e i k (by unfold jwk; omega)) (fun i k _ _ => m i k (by unfold jmk; omega)) (m 176 34 (by unfold jmk; omega)) (Tr hf)
theorem jDL_0 {fl : Prop} {h gf gl gr hm : JH} (S : jDR fl h hm) (ef : ∀ i k : Int, jwk i k → gf i k = h i k) (el : ∀ i k : Int, ¬ (i = 29 ∧ k = 6) → ¬ i = 34 → gl i k = gf i k) (H : jHo gf gl (gf 29 4) (gl 29 6) (gl 29 6) ∧ 0 ≤ gl 29 6 ∧ gl 29 6 ≤ 16) (er : ∀ i k : Int, ¬ (i = 11 ∧ k = 5) → ¬ i = 15 → gr i k = gl i k)
    (rw9 : (∀ t : Int, 0 ≤ t → t ≤ 9 → gr 15 t = if t = 9 then 60 else 0) ∧ gr 11 5 = 0) (b0 : 0 ≤ gr 11 0) : jDL fl gr hm := by
  have S1 : jDR fl gf hm := jDR_fr ef (fun _ _ _ => rfl) S
  have L := jLn_lu S1 H.1 H.2.2
  have eR : ∀ i k : Int, jwk i k → gr i k = h i k := fun i k q => by
    rw [er i k (by unfold jwk at q; omega) (by unfold jwk at q; omega), el i k (by unfold jwk at q; omega) (by unfold jwk at q; omega), ef i k q]
  refine ⟨jDR_fr eR (fun _ _ _ => rfl) S, jLn_fr (er _ _ (by omega) (by omega)) (fun i => er _ _ (by omega) (by omega)) rfl (fun _ => rfl) (fun _ _ _ z => z) L, by rw [er 29 6 (by omega) (by omega)]; exact H.2, ?_, by rw [rw9.2]; omega, by rw [rw9.2]; exact b0, fun i a b => ?_⟩
  · intro t a b
    rw [rw9.1 t a b, rw9.2]; rfl
  · rw [rw9.2] at b; omega
