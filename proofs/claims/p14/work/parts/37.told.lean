/-! ===== ROWS THAT ARE ALIKE; WHAT THE CONSTANTS HOLD ===== -/
def jSm (A B N : Int) (h : JH) : Prop := ∀ t : Int, 0 ≤ t → t < N → h A t = h B t
theorem jSm_fr {A B N : Int} {h g : JH} (eA : ∀ t : Int, g A t = h A t) (eB : ∀ t : Int, g B t = h B t) (q : jSm A B N h) : jSm A B N g := fun t h0 h1 => by rw [eA, eB]; exact q t h0 h1
theorem jx_d3 (E : JE) (k : Int) (h0 : 0 ≤ k) (h1 : k < 4) : (k = 3 ∧ jxv E (-3) k = 1) ∨ (¬ k = 3 ∧ jxv E (-3) k = 0) := by
  rw [jx_e3]
  have q : k = 0 ∨ k = 1 ∨ k = 2 ∨ k = 3 := by omega
  rcases q with rfl | rfl | rfl | rfl <;> decide
theorem jx_d4 (E : JE) (k : Int) (h0 : 0 ≤ k) (h1 : k < 4) : (k = 0 ∧ jxv E (-4) k = 100) ∨ (k = 1 ∧ jxv E (-4) k = 9) ∨ (k = 2 ∧ jxv E (-4) k = 60) ∨ (k = 3 ∧ jxv E (-4) k = 200) := by
  rw [jx_e4]
  have q : k = 0 ∨ k = 1 ∨ k = 2 ∨ k = 3 := by omega
  rcases q with rfl | rfl | rfl | rfl <;> decide
