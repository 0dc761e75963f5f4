/-! ===== ANSWERS THAT TELL WHAT STOOD THERE ===== -/
/-- a row A of N numbers, told anew at a1: what is answered, what it holds then -/
def jTold (A N M a1 a2 x : Int) (h g : JH) : Prop :=
  (¬ (0 ≤ a1 ∧ a1 < N) ∧ x = -1 ∧ ∀ t : Int, g A t = h A t) ∨ (0 ≤ a1 ∧ a1 < N ∧ a2 < 0 ∧ x = -4 ∧ ∀ t : Int, g A t = h A t) ∨ (0 ≤ a1 ∧ a1 < N ∧ M < a2 ∧ x = -6 ∧ ∀ t : Int, g A t = h A t) ∨ (0 ≤ a1 ∧ a1 < N ∧ 0 ≤ a2 ∧ a2 ≤ M ∧ x = h A a1 ∧ ∀ t : Int, g A t = if t = a1 then a2 else h A t)
def jSm (A B N : Int) (h : JH) : Prop := ∀ t : Int, 0 ≤ t → t < N → h A t = h B t
theorem jSm_fr {A B N : Int} {h g : JH} (eA : ∀ t : Int, g A t = h A t) (eB : ∀ t : Int, g B t = h B t) (q : jSm A B N h) : jSm A B N g := fun t h0 h1 => by rw [eA, eB]; exact q t h0 h1
theorem jTold_eq {A B N M a1 a2 x y : Int} {h g k : JH} (hM : 0 ≤ M) (p : jTold A N M a1 a2 x h g) (q : jTold B N M a1 a2 y g k) (eB : ∀ t : Int, g B t = h B t) (eA : ∀ t : Int, k A t = g A t) (s : jSm A B N h) : x = y ∧ jSm A B N k := by
  rcases p with ⟨p1, p2, p3⟩ | ⟨p0, p1, p2, p3, p4⟩ | ⟨p0, p1, p2, p3, p4⟩ | ⟨p0, p1, p2, p3, p4, p5⟩ <;> rcases q with ⟨q1, q2, q3⟩ | ⟨q0, q1, q2, q3, q4⟩ | ⟨q0, q1, q2, q3, q4⟩ | ⟨q0, q1, q2, q3, q4, q5⟩ <;> first
    | (exfalso; omega)
    | exact ⟨by omega, fun t h0 h1 => by rw [eA, p3, q3, eB]; exact s t h0 h1⟩
    | exact ⟨by omega, fun t h0 h1 => by rw [eA, p4, q4, eB]; exact s t h0 h1⟩
    | exact ⟨by rw [p4, q4, eB]; exact s a1 p0 p1, fun t h0 h1 => by
        rw [eA, p5, q5, eB]
        by_cases z : t = a1
        · rw [if_pos z, if_pos z]
        · rw [if_neg z, if_neg z]; exact s t h0 h1⟩
