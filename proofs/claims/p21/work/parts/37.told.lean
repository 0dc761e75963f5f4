/-! ===== ROWS THAT ARE ALIKE; WHAT THE CONSTANTS HOLD ===== -/
def jSm (A B N : Int) (h : JH) : Prop := ∀ t : Int, 0 ≤ t → t < N → h A t = h B t
theorem jSm_fr {A B N : Int} {h g : JH} (eA : ∀ t : Int, g A t = h A t) (eB : ∀ t : Int, g B t = h B t) (q : jSm A B N h) : jSm A B N g := fun t h0 h1 => by rw [eA, eB]; exact q t h0 h1
theorem jx_d3 (E : JE) (k : Int) (h0 : 0 ≤ k) (h1 : k < 4) : (k = 3 ∧ jxv E (-3) k = 1) ∨ (¬ k = 3 ∧ jxv E (-3) k = 0) := by
  rw [jx_e3]
  have q : k = 0 ∨ k = 1 ∨ k = 2 ∨ k = 3 := by omega
  rcases q with rfl | rfl | rfl | rfl <;> decide
theorem jx_d4 (E : JE) (k : Int) (h0 : 0 ≤ k) (h1 : k < 4) : (k = 0 ∧ jxv E (-4) k = 100) ∨ (k = 1 ∧ jxv E (-4) k = 9) ∨ (k = 2 ∧ jxv E (-4) k = 60) ∨ (k = 3 ∧ jxv E (-4) k = 200) := by
  rw [jx_e4]
  have q : k = 0 ∨ k = 1 ∨ k = 2 ∨ k = 3 := by omega
  rcases q with rfl | rfl | rfl | rfl <;> decide
theorem jup_i {g g' : JH} {i k x : Int} (e : g' = jup g i k x) (a b : Int) : g' a b = if a = i ∧ b = k then x else g a b := by subst e; rfl
theorem jcp_s {g g' : JH} {s sp d dp c b : Int} (e : g' = jcp g s sp d dp c) (h0 : dp ≤ b) (h1 : b < dp + c) : g' d b = g s (sp + (b - dp)) := by subst e; exact if_pos ⟨rfl, h0, h1⟩
/-- hands of a craft on a day, by class and by reference -/
def jHd (h : JH) (c d : Int) : Int := if h 4 c = -1 ∨ h 10 (h 4 c) ≤ 0 then h 3 c else h (6 + h 4 c) (d.tmod (h 10 (h 4 c)))
def jHm (h : JH) (c d : Int) : Int := if h 178 c < 0 ∨ h 179 (h 178 c) ≤ 0 then h 177 c else h 180 (30 * h 178 c + d.tmod (h 179 (h 178 c)))
/-- orders: how many ways -/
def jWr (m w : Int) : Prop := (m ≤ 1 ∧ w = 1) ∨ (m = 2 ∧ w = 2) ∨ (m = 3 ∧ w = 6) ∨ (m = 4 ∧ w = 24) ∨ (m = 5 ∧ w = 120)
def jWf (i w : Int) : Prop := (i = 2 ∧ w = 1) ∨ (i = 3 ∧ w = 2) ∨ (i = 4 ∧ w = 6) ∨ (i = 5 ∧ w = 24) ∨ (i = 6 ∧ w = 120)
def jWq (m a : Int) : Prop := (m ≤ 1 ∧ a < 1) ∨ (m = 2 ∧ a < 2) ∨ (m = 3 ∧ a < 6) ∨ (m = 4 ∧ a < 24) ∨ (m = 5 ∧ a < 120)
def jWs (m w : Int) : Prop := (m ≤ 2 ∧ w = 1) ∨ (m = 3 ∧ w = 2) ∨ (m = 4 ∧ w = 6) ∨ (m = 5 ∧ w = 24)
