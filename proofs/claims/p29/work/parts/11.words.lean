/-! ===== THE WORDS THAT INSTRUCTIONS WANT ARE IN THE TABLES (by program) ===== -/
theorem jztc_0 : ∀ j, j < 264 → jztok (264 * 0 + j) = true := by decide +kernel
theorem jztc_1 : ∀ j, j < 242 → jztok (264 * 1 + j) = true := by decide +kernel
theorem jztok_all {x : Nat} (h : x < jzTL) : jztok x = true := by
  unfold jzTL at h
  rcases Nat.lt_or_ge x 264 with q | q
  · have k := jztc_0 (x - 0) (by omega)
    rw [show 264 * 0 + (x - 0) = x by omega] at k
    exact k
  have k := jztc_1 (x - 264) (by omega)
  rw [show 264 * 1 + (x - 264) = x by omega] at k
  exact k
theorem jzMC_all : ∀ m, m < 180 → jzCN.getD (jzMC.getD m 0) "" = (jM m).1.cls := by decide +kernel
theorem jzNA_all : ∀ a, a < 179 → (parseMethodDescriptor (jM a).1.desc).map (fun d => d.parameters.length) = some (jzNA.getD a 999) := by decide +kernel
theorem jzCN_all : ∀ u, u < 13 → (vwCl[u]?).map (fun c => c.1) = some (jzCN.getD u "") := by decide +kernel
