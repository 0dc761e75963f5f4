/-! ===== THE WORDS THAT INSTRUCTIONS WANT ARE IN THE TABLES (by program) ===== -/
theorem jztc_0 : ∀ j, j < 88 → jztok (88 * 0 + j) = true := by decide +kernel
theorem jztc_1 : ∀ j, j < 88 → jztok (88 * 1 + j) = true := by decide +kernel
theorem jztc_2 : ∀ j, j < 88 → jztok (88 * 2 + j) = true := by decide +kernel
theorem jztc_3 : ∀ j, j < 88 → jztok (88 * 3 + j) = true := by decide +kernel
theorem jztc_4 : ∀ j, j < 88 → jztok (88 * 4 + j) = true := by decide +kernel
theorem jztc_5 : ∀ j, j < 66 → jztok (88 * 5 + j) = true := by decide +kernel
theorem jztok_all {x : Nat} (h : x < jzTL) : jztok x = true := by
  unfold jzTL at h
  rcases Nat.lt_or_ge x 88 with q | q
  · have k := jztc_0 (x - 0) (by omega)
    rw [show 88 * 0 + (x - 0) = x by omega] at k
    exact k
  rcases Nat.lt_or_ge x 176 with q | q
  · have k := jztc_1 (x - 88) (by omega)
    rw [show 88 * 1 + (x - 88) = x by omega] at k
    exact k
  rcases Nat.lt_or_ge x 264 with q | q
  · have k := jztc_2 (x - 176) (by omega)
    rw [show 88 * 2 + (x - 176) = x by omega] at k
    exact k
  rcases Nat.lt_or_ge x 352 with q | q
  · have k := jztc_3 (x - 264) (by omega)
    rw [show 88 * 3 + (x - 264) = x by omega] at k
    exact k
  rcases Nat.lt_or_ge x 440 with q | q
  · have k := jztc_4 (x - 352) (by omega)
    rw [show 88 * 4 + (x - 352) = x by omega] at k
    exact k
  have k := jztc_5 (x - 440) (by omega)
  rw [show 88 * 5 + (x - 440) = x by omega] at k
  exact k
theorem jzMC_all : ∀ m, m < 180 → jzCN.getD (jzMC.getD m 0) "" = (jM m).1.cls := by decide +kernel
theorem jzNA_all : ∀ a, a < 179 → (parseMethodDescriptor (jM a).1.desc).map (fun d => d.parameters.length) = some (jzNA.getD a 999) := by decide +kernel
theorem jzCN_all : ∀ u, u < 13 → (vwCl[u]?).map (fun c => c.1) = some (jzCN.getD u "") := by decide +kernel
