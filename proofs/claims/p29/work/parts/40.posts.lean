/-! ===== WHAT METHODS ANSWER AND TELL ANEW (by program) ===== -/
def P_X11_hands (a1 a2 x : Int) (h g : JH) : Prop :=
  ((x = -1 ∧ ¬ (0 ≤ a1 ∧ a1 < 4)) ∧ (∀ i k : Int, 3 ≤ i → i ≤ 3 → g i k = h i k)) ∨
  ((x = -4 ∧ 0 ≤ a1 ∧ a1 < 4 ∧ a2 < 0) ∧ (∀ i k : Int, 3 ≤ i → i ≤ 3 → g i k = h i k)) ∨
  ((x = -6 ∧ 0 ≤ a1 ∧ a1 < 4 ∧ 400 < a2) ∧ (∀ i k : Int, 3 ≤ i → i ≤ 3 → g i k = h i k)) ∨
  ((0 ≤ a1 ∧ a1 < 4 ∧ 0 ≤ a2 ∧ a2 ≤ 400 ∧ x = h 3 a1) ∧ (g (3) (a1) = a2 ∧ ∀ i k : Int, 3 ≤ i → i ≤ 3 → ¬ (i = 3 ∧ k = a1) → g i k = h i k))
def P_X12_hands (a1 a2 x : Int) (h g : JH) : Prop :=
  ((x = -1 ∧ ¬ (0 ≤ a1 ∧ a1 < 4)) ∧ (∀ i k : Int, 177 ≤ i → i ≤ 177 → g i k = h i k)) ∨
  ((x = -4 ∧ 0 ≤ a1 ∧ a1 < 4 ∧ a2 < 0) ∧ (∀ i k : Int, 177 ≤ i → i ≤ 177 → g i k = h i k)) ∨
  ((x = -6 ∧ 0 ≤ a1 ∧ a1 < 4 ∧ 400 < a2) ∧ (∀ i k : Int, 177 ≤ i → i ≤ 177 → g i k = h i k)) ∨
  ((0 ≤ a1 ∧ a1 < 4 ∧ 0 ≤ a2 ∧ a2 ≤ 400 ∧ x = h 177 a1) ∧ (g (177) (a1) = a2 ∧ ∀ i k : Int, 177 ≤ i → i ≤ 177 → ¬ (i = 177 ∧ k = a1) → g i k = h i k))
def P_X11_growth (a1 a2 x : Int) (h g : JH) : Prop :=
  ((x = -1 ∧ ¬ (0 ≤ a1 ∧ a1 < 3)) ∧ (∀ i k : Int, 90 ≤ i → i ≤ 90 → g i k = h i k)) ∨
  ((x = -4 ∧ 0 ≤ a1 ∧ a1 < 3 ∧ a2 < 0) ∧ (∀ i k : Int, 90 ≤ i → i ≤ 90 → g i k = h i k)) ∨
  ((x = -6 ∧ 0 ≤ a1 ∧ a1 < 3 ∧ 9 < a2) ∧ (∀ i k : Int, 90 ≤ i → i ≤ 90 → g i k = h i k)) ∨
  ((0 ≤ a1 ∧ a1 < 3 ∧ 0 ≤ a2 ∧ a2 ≤ 9 ∧ x = h 90 a1) ∧ (g (90) (a1) = a2 ∧ ∀ i k : Int, 90 ≤ i → i ≤ 90 → ¬ (i = 90 ∧ k = a1) → g i k = h i k))
def P_X12_growth (a1 a2 x : Int) (h g : JH) : Prop :=
  ((x = -1 ∧ ¬ (0 ≤ a1 ∧ a1 < 3)) ∧ (∀ i k : Int, 204 ≤ i → i ≤ 204 → g i k = h i k)) ∨
  ((x = -4 ∧ 0 ≤ a1 ∧ a1 < 3 ∧ a2 < 0) ∧ (∀ i k : Int, 204 ≤ i → i ≤ 204 → g i k = h i k)) ∨
  ((x = -6 ∧ 0 ≤ a1 ∧ a1 < 3 ∧ 9 < a2) ∧ (∀ i k : Int, 204 ≤ i → i ≤ 204 → g i k = h i k)) ∨
  ((0 ≤ a1 ∧ a1 < 3 ∧ 0 ≤ a2 ∧ a2 ≤ 9 ∧ x = h 204 a1) ∧ (g (204) (a1) = a2 ∧ ∀ i k : Int, 204 ≤ i → i ≤ 204 → ¬ (i = 204 ∧ k = a1) → g i k = h i k))
def P_X11_lead (a1 a2 x : Int) (h g : JH) : Prop :=
  ((x = 2000000001 ∧ ¬ (0 ≤ a1 ∧ a1 < 4 ∧ -1 ≤ a2 ∧ a2 ≤ 3)) ∧ (∀ i k : Int, 4 ≤ i → i ≤ 4 → g i k = h i k)) ∨
  ((0 ≤ a1 ∧ a1 < 4 ∧ -1 ≤ a2 ∧ a2 ≤ 3 ∧ x = h 4 a1) ∧ (g (4) (a1) = a2 ∧ ∀ i k : Int, 4 ≤ i → i ≤ 4 → ¬ (i = 4 ∧ k = a1) → g i k = h i k))
def P_X12_lead (a1 a2 x : Int) (h g : JH) : Prop :=
  ((x = 2000000001 ∧ ¬ (0 ≤ a1 ∧ a1 < 4 ∧ -1 ≤ a2 ∧ a2 ≤ 3)) ∧ (∀ i k : Int, 178 ≤ i → i ≤ 178 → g i k = h i k)) ∨
  ((0 ≤ a1 ∧ a1 < 4 ∧ -1 ≤ a2 ∧ a2 ≤ 3 ∧ x = h 178 a1) ∧ (g (178) (a1) = a2 ∧ ∀ i k : Int, 178 ≤ i → i ≤ 178 → ¬ (i = 178 ∧ k = a1) → g i k = h i k))
def P_X11_lose (a1 x : Int) (h g : JH) : Prop :=
  ((x = -1 ∧ ¬ (0 ≤ a1 ∧ a1 < 4)) ∧ (∀ i k : Int, 10 ≤ i → i ≤ 10 → g i k = h i k)) ∨
  ((x = 0 ∧ 0 ≤ a1 ∧ a1 < 4 ∧ h 10 a1 = -1) ∧ (∀ i k : Int, 10 ≤ i → i ≤ 10 → g i k = h i k)) ∨
  ((x = 1 ∧ 0 ≤ a1 ∧ a1 < 4 ∧ 0 ≤ h 10 a1) ∧ (g (10) (a1) = (-1) ∧ ∀ i k : Int, 10 ≤ i → i ≤ 10 → ¬ (i = 10 ∧ k = a1) → g i k = h i k))
def P_X12_lose (a1 x : Int) (h g : JH) : Prop :=
  ((x = -1 ∧ ¬ (0 ≤ a1 ∧ a1 < 4)) ∧ (∀ i k : Int, 179 ≤ i → i ≤ 179 → g i k = h i k)) ∨
  ((0 ≤ a1 ∧ a1 < 4 ∧ ((x = 0 ∧ h 179 a1 < 0) ∨ (x = 1 ∧ 0 ≤ h 179 a1))) ∧ (g (179) (a1) = (-1) ∧ ∀ i k : Int, 179 ≤ i → i ≤ 179 → ¬ (i = 179 ∧ k = a1) → g i k = h i k))
def P_X11_row (a1 a2 x : Int) (h g : JH) : Prop :=
  ((x = -1 ∧ ¬ (0 ≤ a1 ∧ a1 < 4)) ∧ (∀ i k : Int, 10 ≤ i → i ≤ 10 → g i k = h i k) ∧ (∀ i k : Int, 6 ≤ i → i ≤ 9 → g i k = h i k)) ∨
  ((x = -4 ∧ 0 ≤ a1 ∧ a1 < 4 ∧ a2 < 0) ∧ (∀ i k : Int, 10 ≤ i → i ≤ 10 → g i k = h i k) ∧ (∀ i k : Int, 6 ≤ i → i ≤ 9 → g i k = h i k)) ∨
  ((x = -6 ∧ 0 ≤ a1 ∧ a1 < 4 ∧ 30 < a2) ∧ (∀ i k : Int, 10 ≤ i → i ≤ 10 → g i k = h i k) ∧ (∀ i k : Int, 6 ≤ i → i ≤ 9 → g i k = h i k)) ∨
  ((0 ≤ a1 ∧ a1 < 4 ∧ 0 ≤ a2 ∧ a2 ≤ 30 ∧ x = a2) ∧ (g (10) (a1) = a2 ∧ ∀ i k : Int, 10 ≤ i → i ≤ 10 → ¬ (i = 10 ∧ k = a1) → g i k = h i k) ∧ ((∀ k : Int, 0 ≤ k → k < 30 → g (6 + a1) k = 0) ∧ ∀ i k : Int, 6 ≤ i → i ≤ 9 → ¬ i = 6 + a1 → g i k = h i k))
def P_X12_row (a1 a2 x : Int) (h g : JH) : Prop :=
  ((x = -1 ∧ ¬ (0 ≤ a1 ∧ a1 < 4)) ∧ (∀ i k : Int, 179 ≤ i → i ≤ 179 → g i k = h i k) ∧ (∀ i k : Int, 180 ≤ i → i ≤ 180 → g i k = h i k)) ∨
  ((x = -4 ∧ 0 ≤ a1 ∧ a1 < 4 ∧ a2 < 0) ∧ (∀ i k : Int, 179 ≤ i → i ≤ 179 → g i k = h i k) ∧ (∀ i k : Int, 180 ≤ i → i ≤ 180 → g i k = h i k)) ∨
  ((x = -6 ∧ 0 ≤ a1 ∧ a1 < 4 ∧ 30 < a2) ∧ (∀ i k : Int, 179 ≤ i → i ≤ 179 → g i k = h i k) ∧ (∀ i k : Int, 180 ≤ i → i ≤ 180 → g i k = h i k)) ∨
  ((0 ≤ a1 ∧ a1 < 4 ∧ 0 ≤ a2 ∧ a2 ≤ 30 ∧ x = a2) ∧ (g (179) (a1) = a2 ∧ ∀ i k : Int, 179 ≤ i → i ≤ 179 → ¬ (i = 179 ∧ k = a1) → g i k = h i k) ∧ ((∀ k : Int, 30 * a1 ≤ k → k < 30 * a1 + a2 → g 180 k = 0) ∧ ∀ i k : Int, 180 ≤ i → i ≤ 180 → ¬ (30 * a1 ≤ k ∧ k < 30 * a1 + a2) → g i k = h i k))
def P_X11_task (a1 a2 a3 a4 x : Int) (h g : JH) : Prop :=
  ((x = -1 ∧ ¬ (0 ≤ a1 ∧ a1 < 3 ∧ 0 ≤ a2 ∧ a2 < 6 ∧ 0 ≤ a3 ∧ a3 < 4)) ∧ (∀ i k : Int, 22 ≤ i → i ≤ 24 → g i k = h i k) ∧ (∀ i k : Int, 18 ≤ i → i ≤ 20 → g i k = h i k)) ∨
  ((x = -4 ∧ 0 ≤ a1 ∧ a1 < 3 ∧ 0 ≤ a2 ∧ a2 < 6 ∧ 0 ≤ a3 ∧ a3 < 4 ∧ a4 < 0) ∧ (∀ i k : Int, 22 ≤ i → i ≤ 24 → g i k = h i k) ∧ (∀ i k : Int, 18 ≤ i → i ≤ 20 → g i k = h i k)) ∨
  ((x = -6 ∧ 0 ≤ a1 ∧ a1 < 3 ∧ 0 ≤ a2 ∧ a2 < 6 ∧ 0 ≤ a3 ∧ a3 < 4 ∧ 2000 < a4) ∧ (∀ i k : Int, 22 ≤ i → i ≤ 24 → g i k = h i k) ∧ (∀ i k : Int, 18 ≤ i → i ≤ 20 → g i k = h i k)) ∨
  ((0 ≤ a1 ∧ a1 < 3 ∧ 0 ≤ a2 ∧ a2 < 6 ∧ 0 ≤ a3 ∧ a3 < 4 ∧ 0 ≤ a4 ∧ a4 ≤ 2000 ∧ x = h (22 + a1) a2) ∧ (g (22 + a1) (a2) = a4 ∧ ∀ i k : Int, 22 ≤ i → i ≤ 24 → ¬ (i = 22 + a1 ∧ k = a2) → g i k = h i k) ∧ (g (18 + a1) (a2) = a3 ∧ ∀ i k : Int, 18 ≤ i → i ≤ 20 → ¬ (i = 18 + a1 ∧ k = a2) → g i k = h i k))
def P_X12_task (a1 a2 a3 a4 x : Int) (h g : JH) : Prop :=
  ((x = -1 ∧ ¬ (0 ≤ a1 ∧ a1 < 3 ∧ 0 ≤ a2 ∧ a2 < 6 ∧ 0 ≤ a3 ∧ a3 < 4)) ∧ (∀ i k : Int, 187 ≤ i → i ≤ 187 → g i k = h i k) ∧ (∀ i k : Int, 186 ≤ i → i ≤ 186 → g i k = h i k)) ∨
  ((x = -4 ∧ 0 ≤ a1 ∧ a1 < 3 ∧ 0 ≤ a2 ∧ a2 < 6 ∧ 0 ≤ a3 ∧ a3 < 4 ∧ a4 < 0) ∧ (∀ i k : Int, 187 ≤ i → i ≤ 187 → g i k = h i k) ∧ (∀ i k : Int, 186 ≤ i → i ≤ 186 → g i k = h i k)) ∨
  ((x = -6 ∧ 0 ≤ a1 ∧ a1 < 3 ∧ 0 ≤ a2 ∧ a2 < 6 ∧ 0 ≤ a3 ∧ a3 < 4 ∧ 2000 < a4) ∧ (∀ i k : Int, 187 ≤ i → i ≤ 187 → g i k = h i k) ∧ (∀ i k : Int, 186 ≤ i → i ≤ 186 → g i k = h i k)) ∨
  ((0 ≤ a1 ∧ a1 < 3 ∧ 0 ≤ a2 ∧ a2 < 6 ∧ 0 ≤ a3 ∧ a3 < 4 ∧ 0 ≤ a4 ∧ a4 ≤ 2000 ∧ x = h 187 (6 * a1 + a2)) ∧ (g (187) (6 * a1 + a2) = a4 ∧ ∀ i k : Int, 187 ≤ i → i ≤ 187 → ¬ (i = 187 ∧ k = 6 * a1 + a2) → g i k = h i k) ∧ (g (186) (6 * a1 + a2) = a3 ∧ ∀ i k : Int, 186 ≤ i → i ≤ 186 → ¬ (i = 186 ∧ k = 6 * a1 + a2) → g i k = h i k))
def P_X11_needs (a1 a2 a3 a4 x : Int) (h g : JH) : Prop :=
  ((x = -1 ∧ ¬ (0 ≤ a1 ∧ a1 < 3 ∧ 0 ≤ a2 ∧ a2 < 6 ∧ 0 ≤ a3 ∧ a3 < 6)) ∧ (∀ i k : Int, 26 ≤ i → i ≤ 28 → g i k = h i k)) ∨
  ((x = -4 ∧ 0 ≤ a1 ∧ a1 < 3 ∧ 0 ≤ a2 ∧ a2 < 6 ∧ 0 ≤ a3 ∧ a3 < 6 ∧ a4 < 0) ∧ (∀ i k : Int, 26 ≤ i → i ≤ 28 → g i k = h i k)) ∨
  ((x = -6 ∧ 0 ≤ a1 ∧ a1 < 3 ∧ 0 ≤ a2 ∧ a2 < 6 ∧ 0 ≤ a3 ∧ a3 < 6 ∧ 500 < a4) ∧ (∀ i k : Int, 26 ≤ i → i ≤ 28 → g i k = h i k)) ∨
  ((0 ≤ a1 ∧ a1 < 3 ∧ 0 ≤ a2 ∧ a2 < 6 ∧ 0 ≤ a3 ∧ a3 < 6 ∧ 0 ≤ a4 ∧ a4 ≤ 500 ∧ x = h (26 + a1) (a2 * 6 + a3)) ∧ (g (26 + a1) (a2 * 6 + a3) = a4 ∧ ∀ i k : Int, 26 ≤ i → i ≤ 28 → ¬ (i = 26 + a1 ∧ k = a2 * 6 + a3) → g i k = h i k))
def P_X12_needs (a1 a2 a3 a4 x : Int) (h g : JH) : Prop :=
  ((x = -1 ∧ ¬ (0 ≤ a1 ∧ a1 < 3 ∧ 0 ≤ a2 ∧ a2 < 6 ∧ 0 ≤ a3 ∧ a3 < 6)) ∧ (∀ i k : Int, 188 ≤ i → i ≤ 188 → g i k = h i k)) ∨
  ((x = -4 ∧ 0 ≤ a1 ∧ a1 < 3 ∧ 0 ≤ a2 ∧ a2 < 6 ∧ 0 ≤ a3 ∧ a3 < 6 ∧ a4 < 0) ∧ (∀ i k : Int, 188 ≤ i → i ≤ 188 → g i k = h i k)) ∨
  ((x = -6 ∧ 0 ≤ a1 ∧ a1 < 3 ∧ 0 ≤ a2 ∧ a2 < 6 ∧ 0 ≤ a3 ∧ a3 < 6 ∧ 500 < a4) ∧ (∀ i k : Int, 188 ≤ i → i ≤ 188 → g i k = h i k)) ∨
  ((0 ≤ a1 ∧ a1 < 3 ∧ 0 ≤ a2 ∧ a2 < 6 ∧ 0 ≤ a3 ∧ a3 < 6 ∧ 0 ≤ a4 ∧ a4 ≤ 500 ∧ x = h 188 (6 * (6 * a1 + a2) + a3)) ∧ (g (188) (6 * (6 * a1 + a2) + a3) = a4 ∧ ∀ i k : Int, 188 ≤ i → i ≤ 188 → ¬ (i = 188 ∧ k = 6 * (6 * a1 + a2) + a3) → g i k = h i k))
def P_X11_hull (a1 a2 a3 x : Int) (h g : JH) : Prop :=
  ((x = -1 ∧ ¬ (0 ≤ a1 ∧ a1 ≤ 2)) ∧ jSx g h) ∨
  ((x = -4 ∧ 0 ≤ a1 ∧ a1 ≤ 2 ∧ (a2 < 0 ∨ a3 < 0)) ∧ jSx g h) ∨
  ((x = -6 ∧ 0 ≤ a1 ∧ a1 ≤ 2 ∧ 0 ≤ a2 ∧ 0 ≤ a3 ∧ (99 < a2 ∨ 2000 < a3 ∨ 16 ≤ h 29 4)) ∧ jSx g h) ∨
  ((0 ≤ a1 ∧ a1 ≤ 2 ∧ 0 ≤ a2 ∧ a2 ≤ 99 ∧ 0 ≤ a3 ∧ a3 ≤ 2000 ∧ h 29 4 ≤ 15) ∧ x = h 29 4 ∧ jSx g (jup (jBgn (36 + 3 * h 29 4) a1 a2 a3 h) 29 4 (h 29 4 + 1)))
def P_X12_hull (a1 a2 a3 x : Int) (h g : JH) : Prop :=
  ((x = -1 ∧ ¬ (0 ≤ a1 ∧ a1 ≤ 2)) ∧ jSy g h) ∨
  ((x = -4 ∧ 0 ≤ a1 ∧ a1 ≤ 2 ∧ (a2 < 0 ∨ a3 < 0)) ∧ jSy g h) ∨
  ((x = -6 ∧ 0 ≤ a1 ∧ a1 ≤ 2 ∧ 0 ≤ a2 ∧ 0 ≤ a3 ∧ (99 < a2 ∨ 2000 < a3 ∨ 16 ≤ h 176 14)) ∧ jSy g h) ∨
  ((0 ≤ a1 ∧ a1 ≤ 2 ∧ 0 ≤ a2 ∧ a2 ≤ 99 ∧ 0 ≤ a3 ∧ a3 ≤ 2000 ∧ h 176 14 ≤ 15) ∧ x = h 176 14 ∧ jSy g (jup (jup (jup (jup (jup (jup (jup h 189 (h 176 14) a1) 190 (h 176 14) a2) 191 (h 176 14) a3) 192 (h 176 14) 0) 193 (h 176 14) (-9)) 198 (h 176 14) (-9)) 176 14 (h 176 14 + 1)))
def P_X11_tree (a1 a2 a3 x : Int) (h g : JH) : Prop :=
  ((x = -1 ∧ ¬ (0 ≤ a1 ∧ a1 ≤ 2)) ∧ jSx g h) ∨
  ((x = -4 ∧ 0 ≤ a1 ∧ a1 ≤ 2 ∧ (a2 < -9 ∨ a3 < 1)) ∧ jSx g h) ∨
  ((x = -6 ∧ 0 ≤ a1 ∧ a1 ≤ 2 ∧ -9 ≤ a2 ∧ 1 ≤ a3 ∧ (9 < a2 ∨ 500 < a3 ∨ 40 ≤ h 84 0)) ∧ jSx g h) ∨
  ((0 ≤ a1 ∧ a1 ≤ 2 ∧ -9 ≤ a2 ∧ a2 ≤ 9 ∧ 1 ≤ a3 ∧ a3 ≤ 500 ∧ h 84 0 ≤ 39) ∧ x = h 84 0 ∧ jSx g (jup (jup (jup (jup (jup (jup h 85 (h 84 0) a1) 86 (h 84 0) a2) 87 (h 84 0) a3) 88 (h 84 0) (-9)) 89 (h 84 0) (-9)) 84 0 (h 84 0 + 1)))
def P_X12_tree (a1 a2 a3 x : Int) (h g : JH) : Prop :=
  ((x = -1 ∧ ¬ (0 ≤ a1 ∧ a1 ≤ 2)) ∧ jSy g h) ∨
  ((x = -4 ∧ 0 ≤ a1 ∧ a1 ≤ 2 ∧ (a2 < -9 ∨ a3 < 1)) ∧ jSy g h) ∨
  ((x = -6 ∧ 0 ≤ a1 ∧ a1 ≤ 2 ∧ -9 ≤ a2 ∧ 1 ≤ a3 ∧ (9 < a2 ∨ 500 < a3 ∨ 40 ≤ h 176 34)) ∧ jSy g h) ∨
  ((0 ≤ a1 ∧ a1 ≤ 2 ∧ -9 ≤ a2 ∧ a2 ≤ 9 ∧ 1 ≤ a3 ∧ a3 ≤ 500 ∧ h 176 34 ≤ 39) ∧ x = h 176 34 ∧ jSy g (jup (jup (jup (jup (jup (jup h 205 (h 176 34) a1) 206 (h 176 34) a2) 207 (h 176 34) a3) 208 (h 176 34) (-1)) 209 (h 176 34) (-1)) 176 34 (h 176 34 + 1)))
def P_X12_part (a1 a2 a3 a4 a5 x : Int) (h g : JH) : Prop :=
  ((x = -1 ∧ ¬ (0 ≤ a1 ∧ a1 ≤ 2 ∧ 0 ≤ a2 ∧ a2 ≤ 2)) ∧ jSy g h) ∨
  ((x = -4 ∧ 0 ≤ a1 ∧ a1 ≤ 2 ∧ 0 ≤ a2 ∧ a2 ≤ 2 ∧ (a3 < -9 ∨ a4 < 0 ∨ a5 < 1)) ∧ jSy g h) ∨
  ((x = -6 ∧ 0 ≤ a1 ∧ a1 ≤ 2 ∧ 0 ≤ a2 ∧ a2 ≤ 2 ∧ -9 ≤ a3 ∧ 0 ≤ a4 ∧ 1 ≤ a5 ∧ (9 < a3 ∨ 9 < a4 ∨ 500 < a5 ∨ 6 ≤ h 210 a1)) ∧ jSy g h) ∨
  ((0 ≤ a1 ∧ a1 ≤ 2 ∧ 0 ≤ a2 ∧ a2 ≤ 2 ∧ -9 ≤ a3 ∧ a3 ≤ 9 ∧ 0 ≤ a4 ∧ a4 ≤ 9 ∧ 1 ≤ a5 ∧ a5 ≤ 500 ∧ h 210 a1 ≤ 5) ∧ x = h 210 a1 ∧ jSy g (jup (jup (jup (jup (jup h 211 (6 * a1 + h 210 a1) a2) 212 (6 * a1 + h 210 a1) a3) 213 (6 * a1 + h 210 a1) a4) 214 (6 * a1 + h 210 a1) a5) 210 a1 (h 210 a1 + 1)))
def P_X11_part (a1 a2 a3 a4 a5 x : Int) (h g : JH) : Prop :=
  ((x = -1 ∧ ¬ (0 ≤ a1 ∧ a1 ≤ 2 ∧ 0 ≤ a2 ∧ a2 ≤ 2)) ∧ jSx g h) ∨
  ((x = -4 ∧ 0 ≤ a1 ∧ a1 ≤ 2 ∧ 0 ≤ a2 ∧ a2 ≤ 2 ∧ (a3 < -9 ∨ a4 < 0 ∨ a5 < 1)) ∧ jSx g h) ∨
  ((x = -6 ∧ 0 ≤ a1 ∧ a1 ≤ 2 ∧ 0 ≤ a2 ∧ a2 ≤ 2 ∧ -9 ≤ a3 ∧ 0 ≤ a4 ∧ 1 ≤ a5 ∧ (9 < a3 ∨ 9 < a4 ∨ 500 < a5 ∨ 6 ≤ h 92 a1)) ∧ jSx g h) ∨
  ((0 ≤ a1 ∧ a1 ≤ 2 ∧ 0 ≤ a2 ∧ a2 ≤ 2 ∧ -9 ≤ a3 ∧ a3 ≤ 9 ∧ 0 ≤ a4 ∧ a4 ≤ 9 ∧ 1 ≤ a5 ∧ a5 ≤ 500 ∧ h 92 a1 ≤ 5) ∧ x = h 92 a1 ∧ jSx g (jup (jup (jup (jup (jup h 93 (a1 * 6 + h 92 a1) a2) 94 (a1 * 6 + h 92 a1) a3) 95 (a1 * 6 + h 92 a1) a4) 96 (a1 * 6 + h 92 a1) a5) 92 a1 (h 92 a1 + 1)))
def P_X11_decree (a1 a2 a3 a4 x : Int) (h g : JH) : Prop :=
  ((x = -1 ∧ ¬ (0 ≤ a1 ∧ a1 < 4 ∧ 0 ≤ a2 ∧ a2 < 4)) ∧ g 11 0 = h 11 0 ∧ (∀ i k : Int, 12 ≤ i → i ≤ 14 → g i k = h i k)) ∨
  ((x = -4 ∧ 0 ≤ a1 ∧ a1 < 4 ∧ 0 ≤ a2 ∧ a2 < 4 ∧ ((a1 = 3 ∧ a3 < 1) ∨ (¬ a1 = 3 ∧ a3 < 0) ∨ a4 < h 0 0)) ∧ g 11 0 = h 11 0 ∧ (∀ i k : Int, 12 ≤ i → i ≤ 14 → g i k = h i k)) ∨
  ((x = -6 ∧ 0 ≤ a1 ∧ a1 < 4 ∧ 0 ≤ a2 ∧ a2 < 4 ∧ ¬ ((a1 = 3 ∧ a3 < 1) ∨ (¬ a1 = 3 ∧ a3 < 0) ∨ a4 < h 0 0) ∧ ((a1 = 0 ∧ 100 < a3) ∨ (a1 = 1 ∧ 9 < a3) ∨ (a1 = 2 ∧ 60 < a3) ∨ (a1 = 3 ∧ 200 < a3) ∨ 2000 < a4 ∨ 40 ≤ h 11 0)) ∧ g 11 0 = h 11 0 ∧ (∀ i k : Int, 12 ≤ i → i ≤ 14 → g i k = h i k)) ∨
  ((0 ≤ a1 ∧ a1 < 4 ∧ 0 ≤ a2 ∧ a2 < 4 ∧ ¬ ((a1 = 3 ∧ a3 < 1) ∨ (¬ a1 = 3 ∧ a3 < 0) ∨ a4 < h 0 0) ∧ ¬ ((a1 = 0 ∧ 100 < a3) ∨ (a1 = 1 ∧ 9 < a3) ∨ (a1 = 2 ∧ 60 < a3) ∨ (a1 = 3 ∧ 200 < a3) ∨ 2000 < a4 ∨ 40 ≤ h 11 0)) ∧ x = h 11 0 ∧ g 11 0 = h 11 0 + 1 ∧ jIns (jsl a1 a2) a3 a4 h g)
def P_X12_decree (a1 a2 a3 a4 x : Int) (h g : JH) : Prop :=
  ((x = -1 ∧ ¬ (0 ≤ a1 ∧ a1 < 4 ∧ 0 ≤ a2 ∧ a2 < 4)) ∧ g 176 6 = h 176 6 ∧ (∀ i k : Int, 182 ≤ i → i ≤ 185 → g i k = h i k)) ∨
  ((x = -4 ∧ 0 ≤ a1 ∧ a1 < 4 ∧ 0 ≤ a2 ∧ a2 < 4 ∧ ((a1 = 3 ∧ a3 < 1) ∨ (¬ a1 = 3 ∧ a3 < 0) ∨ a4 < h 176 0)) ∧ g 176 6 = h 176 6 ∧ (∀ i k : Int, 182 ≤ i → i ≤ 185 → g i k = h i k)) ∨
  ((x = -6 ∧ 0 ≤ a1 ∧ a1 < 4 ∧ 0 ≤ a2 ∧ a2 < 4 ∧ ¬ ((a1 = 3 ∧ a3 < 1) ∨ (¬ a1 = 3 ∧ a3 < 0) ∨ a4 < h 176 0) ∧ ((a1 = 0 ∧ 100 < a3) ∨ (a1 = 1 ∧ 9 < a3) ∨ (a1 = 2 ∧ 60 < a3) ∨ (a1 = 3 ∧ 200 < a3) ∨ 2000 < a4 ∨ 40 ≤ h 176 6)) ∧ g 176 6 = h 176 6 ∧ (∀ i k : Int, 182 ≤ i → i ≤ 185 → g i k = h i k)) ∨
  ((0 ≤ a1 ∧ a1 < 4 ∧ 0 ≤ a2 ∧ a2 < 4 ∧ ¬ ((a1 = 3 ∧ a3 < 1) ∨ (¬ a1 = 3 ∧ a3 < 0) ∨ a4 < h 176 0) ∧ ¬ ((a1 = 0 ∧ 100 < a3) ∨ (a1 = 1 ∧ 9 < a3) ∨ (a1 = 2 ∧ 60 < a3) ∨ (a1 = 3 ∧ 200 < a3) ∨ 2000 < a4 ∨ 40 ≤ h 176 6)) ∧ x = h 176 6 ∧ g 176 6 = h 176 6 + 1 ∧ (g 182 (h 176 6) = a1 ∧ g 183 (h 176 6) = a2 ∧ g 184 (h 176 6) = a3 ∧ g 185 (h 176 6) = a4 ∧ ∀ i k : Int, 182 ≤ i → i ≤ 185 → ¬ k = h 176 6 → g i k = h i k))
def P_X11_days (a1 : Int) (h g : JH) : Prop :=
  (a1 < 0 ∧ g 0 0 = h 0 0) ∨ (0 ≤ a1 ∧ 2000 - h 0 0 < a1 ∧ g 0 0 = h 0 0) ∨ (0 ≤ a1 ∧ a1 ≤ 2000 - h 0 0 ∧ g 0 0 = h 0 0 + a1)
def P_X12_days (a1 : Int) (h g : JH) : Prop :=
  (a1 < 1 ∧ g 176 0 = h 176 0) ∨ (1 ≤ a1 ∧ 2000 - h 176 0 < a1 ∧ g 176 0 = h 176 0) ∨ (1 ≤ a1 ∧ a1 ≤ 2000 - h 176 0 ∧ g 176 0 = h 176 0 + a1)
def P_X11_put (a1 a2 a3 x : Int) (h g : JH) : Prop :=
  ((x = -1 ∧ ¬ (0 ≤ a1 ∧ a1 < 4)) ∧ (∀ i k : Int, 6 ≤ i → i ≤ 9 → g i k = h i k)) ∨
  ((x = -5 ∧ 0 ≤ a1 ∧ a1 < 4 ∧ h 10 a1 = -1) ∧ (∀ i k : Int, 6 ≤ i → i ≤ 9 → g i k = h i k)) ∨
  ((x = -7 ∧ 0 ≤ a1 ∧ a1 < 4 ∧ 0 ≤ h 10 a1 ∧ ¬ (0 ≤ a2 ∧ a2 < h 10 a1)) ∧ (∀ i k : Int, 6 ≤ i → i ≤ 9 → g i k = h i k)) ∨
  ((x = -4 ∧ 0 ≤ a1 ∧ a1 < 4 ∧ 0 ≤ h 10 a1 ∧ 0 ≤ a2 ∧ a2 < h 10 a1 ∧ a3 < 0) ∧ (∀ i k : Int, 6 ≤ i → i ≤ 9 → g i k = h i k)) ∨
  ((x = -6 ∧ 0 ≤ a1 ∧ a1 < 4 ∧ 0 ≤ h 10 a1 ∧ 0 ≤ a2 ∧ a2 < h 10 a1 ∧ 400 < a3) ∧ (∀ i k : Int, 6 ≤ i → i ≤ 9 → g i k = h i k)) ∨
  ((0 ≤ a1 ∧ a1 < 4 ∧ 0 ≤ h 10 a1 ∧ 0 ≤ a2 ∧ a2 < h 10 a1 ∧ h 10 a1 ≤ 30 ∧ 0 ≤ a3 ∧ a3 ≤ 400 ∧ x = h (6 + a1) (a2)) ∧ (g (6 + a1) (a2) = a3 ∧ ∀ i k : Int, 6 ≤ i → i ≤ 9 → ¬ (i = 6 + a1 ∧ k = a2) → g i k = h i k))
def P_X12_put (a1 a2 a3 x : Int) (h g : JH) : Prop :=
  ((x = -1 ∧ ¬ (0 ≤ a1 ∧ a1 < 4)) ∧ (∀ i k : Int, 180 ≤ i → i ≤ 180 → g i k = h i k)) ∨
  ((x = -5 ∧ 0 ≤ a1 ∧ a1 < 4 ∧ h 179 a1 < 0) ∧ (∀ i k : Int, 180 ≤ i → i ≤ 180 → g i k = h i k)) ∨
  ((x = -7 ∧ 0 ≤ a1 ∧ a1 < 4 ∧ 0 ≤ h 179 a1 ∧ ¬ (0 ≤ a2 ∧ a2 < h 179 a1)) ∧ (∀ i k : Int, 180 ≤ i → i ≤ 180 → g i k = h i k)) ∨
  ((x = -4 ∧ 0 ≤ a1 ∧ a1 < 4 ∧ 0 ≤ h 179 a1 ∧ 0 ≤ a2 ∧ a2 < h 179 a1 ∧ a3 < 0) ∧ (∀ i k : Int, 180 ≤ i → i ≤ 180 → g i k = h i k)) ∨
  ((x = -6 ∧ 0 ≤ a1 ∧ a1 < 4 ∧ 0 ≤ h 179 a1 ∧ 0 ≤ a2 ∧ a2 < h 179 a1 ∧ 400 < a3) ∧ (∀ i k : Int, 180 ≤ i → i ≤ 180 → g i k = h i k)) ∨
  ((0 ≤ a1 ∧ a1 < 4 ∧ 0 ≤ h 179 a1 ∧ 0 ≤ a2 ∧ a2 < h 179 a1 ∧ h 179 a1 ≤ 30 ∧ 0 ≤ a3 ∧ a3 ≤ 400 ∧ x = h (180) (30 * a1 + a2)) ∧ (g (180) (30 * a1 + a2) = a3 ∧ ∀ i k : Int, 180 ≤ i → i ≤ 180 → ¬ (i = 180 ∧ k = 30 * a1 + a2) → g i k = h i k))
def P_X11_copy (a1 a2 a3 a4 a5 x : Int) (h g : JH) : Prop :=
  ((x = -1 ∧ ¬ (0 ≤ a1 ∧ a1 < 4 ∧ 0 ≤ a3 ∧ a3 < 4)) ∧ (∀ i k : Int, 6 ≤ i → i ≤ 9 → g i k = h i k)) ∨
  ((x = -5 ∧ 0 ≤ a1 ∧ a1 < 4 ∧ 0 ≤ a3 ∧ a3 < 4 ∧ (h 10 a1 = -1 ∨ h 10 a3 = -1)) ∧ (∀ i k : Int, 6 ≤ i → i ≤ 9 → g i k = h i k)) ∨
  ((x = -7 ∧ 0 ≤ a1 ∧ a1 < 4 ∧ 0 ≤ a3 ∧ a3 < 4 ∧ 0 ≤ h 10 a1 ∧ 0 ≤ h 10 a3 ∧ ¬ (0 ≤ a2 ∧ 0 ≤ a4 ∧ 0 ≤ a5 ∧ a2 + a5 ≤ h 10 a1 ∧ a4 + a5 ≤ h 10 a3)) ∧ (∀ i k : Int, 6 ≤ i → i ≤ 9 → g i k = h i k)) ∨
  ((0 ≤ a1 ∧ a1 < 4 ∧ 0 ≤ a3 ∧ a3 < 4 ∧ 0 ≤ a2 ∧ 0 ≤ a4 ∧ 0 ≤ a5 ∧ a2 + a5 ≤ h 10 a1 ∧ a4 + a5 ≤ h 10 a3 ∧ h 10 a1 ≤ 30 ∧ h 10 a3 ≤ 30 ∧ x = a5) ∧ ((∀ k : Int, a4 ≤ k → k < a4 + a5 → g (6 + a3) k = h (6 + a1) (a2 + (k - a4))) ∧ ∀ i k : Int, 6 ≤ i → i ≤ 9 → ¬ (i = 6 + a3 ∧ a4 ≤ k ∧ k < a4 + a5) → g i k = h i k))
def P_X12_copy (a1 a2 a3 a4 a5 x : Int) (h g : JH) : Prop :=
  ((x = -1 ∧ ¬ (0 ≤ a1 ∧ a1 < 4 ∧ 0 ≤ a3 ∧ a3 < 4)) ∧ (∀ i k : Int, 180 ≤ i → i ≤ 180 → g i k = h i k)) ∨
  ((x = -5 ∧ 0 ≤ a1 ∧ a1 < 4 ∧ 0 ≤ a3 ∧ a3 < 4 ∧ (h 179 a1 < 0 ∨ h 179 a3 < 0)) ∧ (∀ i k : Int, 180 ≤ i → i ≤ 180 → g i k = h i k)) ∨
  ((x = -7 ∧ 0 ≤ a1 ∧ a1 < 4 ∧ 0 ≤ a3 ∧ a3 < 4 ∧ 0 ≤ h 179 a1 ∧ 0 ≤ h 179 a3 ∧ ¬ (0 ≤ a2 ∧ 0 ≤ a4 ∧ 0 ≤ a5 ∧ a2 + a5 ≤ h 179 a1 ∧ a4 + a5 ≤ h 179 a3)) ∧ (∀ i k : Int, 180 ≤ i → i ≤ 180 → g i k = h i k)) ∨
  ((0 ≤ a1 ∧ a1 < 4 ∧ 0 ≤ a3 ∧ a3 < 4 ∧ 0 ≤ a2 ∧ 0 ≤ a4 ∧ 0 ≤ a5 ∧ a2 + a5 ≤ h 179 a1 ∧ a4 + a5 ≤ h 179 a3 ∧ h 179 a1 ≤ 30 ∧ h 179 a3 ≤ 30 ∧ x = a5) ∧ ((∀ k : Int, 30 * a3 + a4 ≤ k → k < 30 * a3 + a4 + a5 → g 180 k = h 180 (30 * a1 + a2 + (k - (30 * a3 + a4)))) ∧ ∀ k : Int, ¬ (30 * a3 + a4 ≤ k ∧ k < 30 * a3 + a4 + a5) → g 180 k = h 180 k))
def P_X11_handsOn (a1 a2 x : Int) (h : JH) : Prop :=
  (x = -1 ∧ ¬ (0 ≤ a1 ∧ a1 < 4)) ∨ (x = -4 ∧ 0 ≤ a1 ∧ a1 < 4 ∧ a2 < 0) ∨ (x = -6 ∧ 0 ≤ a1 ∧ a1 < 4 ∧ 2000 < a2) ∨ (0 ≤ a1 ∧ a1 < 4 ∧ 0 ≤ a2 ∧ a2 ≤ 2000 ∧ x = jHd h a1 a2 ∧ -1 ≤ h 4 a1 ∧ h 4 a1 ≤ 3 ∧ (h 4 a1 < 0 ∨ h 10 (h 4 a1) ≤ 30))
def P_X12_handsOn (a1 a2 x : Int) (h : JH) : Prop :=
  (x = -1 ∧ ¬ (0 ≤ a1 ∧ a1 < 4)) ∨ (x = -4 ∧ 0 ≤ a1 ∧ a1 < 4 ∧ a2 < 0) ∨ (x = -6 ∧ 0 ≤ a1 ∧ a1 < 4 ∧ 2000 < a2) ∨ (0 ≤ a1 ∧ a1 < 4 ∧ 0 ≤ a2 ∧ a2 ≤ 2000 ∧ x = jHm h a1 a2 ∧ -1 ≤ h 178 a1 ∧ h 178 a1 ≤ 3 ∧ (h 178 a1 < 0 ∨ h 179 (h 178 a1) ≤ 30))
def P_X12_force (a1 a2 a3 x : Int) (h : JH) : Prop :=
  (x = -1 ∧ ¬ (0 ≤ a1 ∧ a1 < 4 ∧ 0 ≤ a2 ∧ a2 < 4)) ∨ (x = -4 ∧ 0 ≤ a1 ∧ a1 < 4 ∧ 0 ≤ a2 ∧ a2 < 4 ∧ a3 < 0) ∨ (x = -6 ∧ 0 ≤ a1 ∧ a1 < 4 ∧ 0 ≤ a2 ∧ a2 < 4 ∧ 2000 < a3) ∨ (0 ≤ a1 ∧ a1 < 4 ∧ 0 ≤ a2 ∧ a2 < 4 ∧ 0 ≤ a3 ∧ a3 ≤ 2000 ∧ x = (jmv (h 182) (h 183) (h 184) (h 185) a1 a2 a3 (h 176 6).toNat).1)
def P_X11_force (a1 a2 a3 x : Int) (h : JH) : Prop :=
  (x = -1 ∧ ¬ (0 ≤ a1 ∧ a1 < 4 ∧ 0 ≤ a2 ∧ a2 < 4)) ∨ (x = -4 ∧ 0 ≤ a1 ∧ a1 < 4 ∧ 0 ≤ a2 ∧ a2 < 4 ∧ a3 < 0) ∨ (x = -6 ∧ 0 ≤ a1 ∧ a1 < 4 ∧ 0 ≤ a2 ∧ a2 < 4 ∧ 2000 < a3) ∨ ((0 ≤ a1 ∧ a1 < 4 ∧ 0 ≤ a2 ∧ a2 < 4 ∧ 0 ≤ a3 ∧ a3 ≤ 2000) ∧ ∃ p : Int, 0 ≤ p ∧ p ≤ h 11 0 ∧ (∀ i : Int, 0 ≤ i → i < p → h 14 i ≤ a3) ∧ (h 11 0 ≤ p ∨ a3 < h 14 p) ∧ x = jov (h 12) (h 13) p.toNat (jsl a1 a2))
def P_X11_bring (a1 a2 x : Int) (h g : JH) : Prop :=
  ((x = -1 ∧ ¬ (0 ≤ a1 ∧ a1 < 6)) ∧ jSx g h) ∨
  ((x = -4 ∧ 0 ≤ a1 ∧ a1 < 6 ∧ a2 < 0) ∧ jSx g h) ∨
  ((x = -6 ∧ 0 ≤ a1 ∧ a1 < 6 ∧ 0 ≤ a2 ∧ jw32 (1000000 - h 30 a1) < a2) ∧ jSx g h) ∨
  ((0 ≤ a1 ∧ a1 < 6 ∧ 0 ≤ a2 ∧ a2 ≤ jw32 (1000000 - h 30 a1)) ∧ x = jw32 (h 30 a1 + a2) ∧ jSx g (jup h 30 a1 (jw32 (h 30 a1 + a2))))
def P_X12_bring (a1 a2 x : Int) (h g : JH) : Prop :=
  ((x = -1 ∧ ¬ (0 ≤ a1 ∧ a1 < 6)) ∧ jSy g h) ∨
  ((x = -4 ∧ 0 ≤ a1 ∧ a1 < 6 ∧ a2 < 0) ∧ jSy g h) ∨
  ((x = -6 ∧ 0 ≤ a1 ∧ a1 < 6 ∧ 0 ≤ a2 ∧ jw32 (1000000 - h 181 a1) < a2) ∧ jSy g h) ∨
  ((0 ≤ a1 ∧ a1 < 6 ∧ 0 ≤ a2 ∧ a2 ≤ jw32 (1000000 - h 181 a1)) ∧ x = jw32 (h 181 a1 + a2) ∧ jSy g (jup h 181 a1 (jw32 (h 181 a1 + a2))))
def P_X11_raft (a1 a2 x : Int) (h g : JH) : Prop :=
  ((x = -1 ∧ ¬ (0 ≤ a1 ∧ a1 < 6)) ∧ jSx g h) ∨
  ((x = -3 ∧ 0 ≤ a1 ∧ a1 < 6 ∧ (¬ h 31 a1 = -1)) ∧ jSx g h) ∨
  ((x = -4 ∧ 0 ≤ a1 ∧ a1 < 6 ∧ ¬ (¬ h 31 a1 = -1) ∧ a2 < 1) ∧ jSx g h) ∨
  ((x = -6 ∧ 0 ≤ a1 ∧ a1 < 6 ∧ ¬ (¬ h 31 a1 = -1) ∧ 1000 < a2) ∧ jSx g h) ∨
  ((x = -3 ∧ 0 ≤ a1 ∧ a1 < 6 ∧ ¬ (¬ h 31 a1 = -1) ∧ 1 ≤ a2 ∧ a2 ≤ 1000 ∧ h 30 0 < a2) ∧ jSx g h) ∨
  ((0 ≤ a1 ∧ a1 < 6 ∧ ¬ (¬ h 31 a1 = -1) ∧ 1 ≤ a2 ∧ a2 ≤ 1000 ∧ a2 ≤ h 30 0) ∧ x = 1 ∧ jSx g (jup (jup (jup h 30 0 (jw32 (h 30 0 - a2))) 31 a1 (-2)) 32 a1 a2))
def P_X12_raft (a1 a2 x : Int) (h g : JH) : Prop :=
  ((x = -1 ∧ ¬ (0 ≤ a1 ∧ a1 < 6)) ∧ jSy g h) ∨
  ((x = -3 ∧ 0 ≤ a1 ∧ a1 < 6 ∧ (0 ≤ h 202 a1)) ∧ jSy g h) ∨
  ((x = -4 ∧ 0 ≤ a1 ∧ a1 < 6 ∧ ¬ (0 ≤ h 202 a1) ∧ a2 < 1) ∧ jSy g h) ∨
  ((x = -6 ∧ 0 ≤ a1 ∧ a1 < 6 ∧ ¬ (0 ≤ h 202 a1) ∧ 1000 < a2) ∧ jSy g h) ∨
  ((x = -3 ∧ 0 ≤ a1 ∧ a1 < 6 ∧ ¬ (0 ≤ h 202 a1) ∧ 1 ≤ a2 ∧ a2 ≤ 1000 ∧ h 181 0 < a2) ∧ jSy g h) ∨
  ((0 ≤ a1 ∧ a1 < 6 ∧ ¬ (0 ≤ h 202 a1) ∧ 1 ≤ a2 ∧ a2 ≤ 1000 ∧ a2 ≤ h 181 0) ∧ x = 1 ∧ jSy g (jup (jup (jup h 181 0 (jw32 (h 181 0 - a2))) 202 a1 100) 203 a1 a2))
def P_X11_unraft (a1 x : Int) (h g : JH) : Prop :=
  ((x = -1 ∧ ¬ (0 ≤ a1 ∧ a1 < 6)) ∧ jSx g h) ∨
  ((x = -3 ∧ 0 ≤ a1 ∧ a1 < 6 ∧ h 31 a1 = -1) ∧ jSx g h) ∨
  ((x = -2 ∧ 0 ≤ a1 ∧ a1 < 6 ∧ ¬ h 31 a1 = -1 ∧ ¬ h 31 a1 = -2) ∧ jSx g h) ∨
  ((0 ≤ a1 ∧ a1 < 6 ∧ h 31 a1 = -2) ∧ x = h 32 a1 ∧ jSx g (jSto 30 0 (h 32 a1) (jup (jup h 31 a1 (-1)) 32 a1 0)))
def P_X12_unraft (a1 x : Int) (h g : JH) : Prop :=
  ((x = -1 ∧ ¬ (0 ≤ a1 ∧ a1 < 6)) ∧ jSy g h) ∨
  ((x = -3 ∧ 0 ≤ a1 ∧ a1 < 6 ∧ h 202 a1 < 0) ∧ jSy g h) ∨
  ((x = -2 ∧ 0 ≤ a1 ∧ a1 < 6 ∧ 0 ≤ h 202 a1 ∧ h 202 a1 < 100) ∧ jSy g h) ∨
  ((0 ≤ a1 ∧ a1 < 6 ∧ 100 ≤ h 202 a1) ∧ x = h 203 a1 ∧ jSy g (jup (jup (jup h 181 0 (if jw32 (1000000 - h 181 0) < h 203 a1 then 1000000 else jw32 (h 181 0 + h 203 a1))) 202 a1 (-1)) 203 a1 0))
def P_X11_priority (a1 a2 x : Int) (h g : JH) : Prop :=
  ((x = -1 ∧ ¬ (0 ≤ a1 ∧ a1 < h 29 4)) ∧ jSx g h) ∨
  ((x = -3 ∧ 0 ≤ a1 ∧ a1 < h 29 4 ∧ ¬ (h (36 + 3 * a1) 3 = 0 ∨ h (36 + 3 * a1) 3 = 1)) ∧ jSx g h) ∨
  ((x = -4 ∧ 0 ≤ a1 ∧ a1 < h 29 4 ∧ (h (36 + 3 * a1) 3 = 0 ∨ h (36 + 3 * a1) 3 = 1) ∧ a2 < 0) ∧ jSx g h) ∨
  ((x = -6 ∧ 0 ≤ a1 ∧ a1 < h 29 4 ∧ (h (36 + 3 * a1) 3 = 0 ∨ h (36 + 3 * a1) 3 = 1) ∧ 99 < a2) ∧ jSx g h) ∨
  ((0 ≤ a1 ∧ a1 < h 29 4 ∧ (h (36 + 3 * a1) 3 = 0 ∨ h (36 + 3 * a1) 3 = 1) ∧ h 29 4 ≤ 16 ∧ 0 ≤ a2 ∧ a2 ≤ 99) ∧ x = h (36 + 3 * a1) 1 ∧ jSx g (jup h (36 + 3 * a1) 1 a2))
def P_X12_priority (a1 a2 x : Int) (h g : JH) : Prop :=
  ((x = -1 ∧ ¬ (0 ≤ a1 ∧ a1 < h 176 14)) ∧ jSy g h) ∨
  ((x = -3 ∧ 0 ≤ a1 ∧ a1 < h 176 14 ∧ ¬ (h 192 a1 ≤ 1)) ∧ jSy g h) ∨
  ((x = -4 ∧ 0 ≤ a1 ∧ a1 < h 176 14 ∧ (h 192 a1 ≤ 1) ∧ a2 < 0) ∧ jSy g h) ∨
  ((x = -6 ∧ 0 ≤ a1 ∧ a1 < h 176 14 ∧ (h 192 a1 ≤ 1) ∧ 99 < a2) ∧ jSy g h) ∨
  ((0 ≤ a1 ∧ a1 < h 176 14 ∧ (h 192 a1 ≤ 1) ∧ h 176 14 ≤ 16 ∧ 0 ≤ a2 ∧ a2 ≤ 99) ∧ x = h 190 a1 ∧ jSy g (jup h 190 a1 a2))
def P_X11_breakUp (a1 x : Int) (h g : JH) : Prop :=
  ((x = -1 ∧ ¬ (0 ≤ a1 ∧ a1 < h 29 4)) ∧ jSx g h) ∨ ((x = -3 ∧ 0 ≤ a1 ∧ a1 < h 29 4 ∧ ¬ h (36 + 3 * a1) 3 = 2) ∧ jSx g h) ∨ ((0 ≤ a1 ∧ a1 < h 29 4 ∧ h 29 4 ≤ 16 ∧ h (36 + 3 * a1) 3 = 2) ∧ x = jsu (jBk (36 + 3 * a1)) (jBkx (36 + 3 * a1)) 6 (jup h (36 + 3 * a1) 3 3) ∧ jSx g (jit (jBk (36 + 3 * a1)) 6 (jup h (36 + 3 * a1) 3 3)))
def P_X12_breakUp (a1 x : Int) (h g : JH) : Prop :=
  ((x = -1 ∧ ¬ (0 ≤ a1 ∧ a1 < h 176 14)) ∧ jSy g h) ∨ ((x = -3 ∧ 0 ≤ a1 ∧ a1 < h 176 14 ∧ ¬ h 192 a1 = 2) ∧ jSy g h) ∨ ((0 ≤ a1 ∧ a1 < h 176 14 ∧ h 176 14 ≤ 16 ∧ h 192 a1 = 2) ∧ x = jsu (jmBk a1) (jmBkx a1) 6 h ∧ jSy g (jup (jit (jmBk a1) 6 h) 192 a1 3))
def P_X11_count (a1 a2 x : Int) (h g : JH) : Prop :=
  ((x = 2000000001 ∧ ¬ (0 ≤ a1 ∧ a1 < 6)) ∧ jSx g h) ∨
  ((x = 2000000004 ∧ 0 ≤ a1 ∧ a1 < 6 ∧ a2 < 0) ∧ jSx g h) ∨
  ((x = 2000000006 ∧ 0 ≤ a1 ∧ a1 < 6 ∧ 0 ≤ a2 ∧ (1000000 < a2 ∨ 40 ≤ h 101 0)) ∧ jSx g h) ∨
  ((0 ≤ a1 ∧ a1 < 6 ∧ 0 ≤ a2 ∧ a2 ≤ 1000000 ∧ h 101 0 ≤ 39) ∧ x = jw32 (h 30 a1 - a2) ∧ jSx g (jup (jup (jup (jup (jup (jup h 30 a1 a2) 102 (h 101 0) a1) 103 (h 101 0) (h 0 0)) 104 (h 101 0) (jw32 (h 30 a1 - a2))) 105 (h 101 0) (jLb (h 102) (h 103) a1 (h 101 0).toNat)) 101 0 (h 101 0 + 1)))
def P_X12_count (a1 a2 x : Int) (h g : JH) : Prop :=
  ((x = 2000000001 ∧ ¬ (0 ≤ a1 ∧ a1 < 6)) ∧ jSy g h) ∨
  ((x = 2000000004 ∧ 0 ≤ a1 ∧ a1 < 6 ∧ a2 < 0) ∧ jSy g h) ∨
  ((x = 2000000006 ∧ 0 ≤ a1 ∧ a1 < 6 ∧ 0 ≤ a2 ∧ (1000000 < a2 ∨ 40 ≤ h 176 45)) ∧ jSy g h) ∨
  ((0 ≤ a1 ∧ a1 < 6 ∧ 0 ≤ a2 ∧ a2 ≤ 1000000 ∧ h 176 45 ≤ 39) ∧ x = jw32 (h 181 a1 - a2) ∧ jSy g (jup (jup (jup (jup (jup (jup h 215 (h 176 45) a1) 216 (h 176 45) (h 176 0)) 217 (h 176 45) (jw32 (h 181 a1 - a2))) 218 (h 176 45) (jLb (h 215) (h 216) a1 (h 176 45).toNat)) 176 45 (h 176 45 + 1)) 181 a1 a2))
def P_X11_stock (a1 x : Int) (h : JH) : Prop :=
  (x = -1 ∧ ¬ (0 ≤ a1 ∧ a1 < 6)) ∨ ((0 ≤ a1 ∧ a1 < 6) ∧ ((x = h 30 a1)))
def P_X12_stock (a1 x : Int) (h : JH) : Prop :=
  (x = -1 ∧ ¬ (0 ≤ a1 ∧ a1 < 6)) ∨ ((0 ≤ a1 ∧ a1 < 6) ∧ ((x = h 181 a1)))
def P_X11_basinOf (a1 a2 x : Int) (h : JH) : Prop :=
  (x = -1 ∧ ¬ (0 ≤ a1 ∧ a1 < 6)) ∨ ((0 ≤ a1 ∧ a1 < 6) ∧ ((a2 = 0 ∧ h 31 a1 = -1 ∧ x = 0) ∨ (a2 = 0 ∧ h 31 a1 = -2 ∧ x = 2) ∨ (a2 = 0 ∧ ¬ h 31 a1 = -1 ∧ ¬ h 31 a1 = -2 ∧ x = 1) ∨ (a2 = 1 ∧ h 31 a1 < 0 ∧ x = -9) ∨ (a2 = 1 ∧ 0 ≤ h 31 a1 ∧ x = h 31 a1) ∨ (a2 = 2 ∧ x = h 32 a1) ∨ (¬ (0 ≤ a2 ∧ a2 ≤ 2) ∧ x = -2)))
def P_X12_basinOf (a1 a2 x : Int) (h : JH) : Prop :=
  (x = -1 ∧ ¬ (0 ≤ a1 ∧ a1 < 6)) ∨ ((0 ≤ a1 ∧ a1 < 6) ∧ ((a2 = 0 ∧ h 202 a1 < 0 ∧ x = 0) ∨ (a2 = 0 ∧ h 202 a1 = 100 ∧ x = 2) ∨ (a2 = 0 ∧ 0 ≤ h 202 a1 ∧ ¬ h 202 a1 = 100 ∧ x = 1) ∨ (a2 = 1 ∧ (h 202 a1 < 0 ∨ h 202 a1 = 100) ∧ x = -9) ∨ (a2 = 1 ∧ 0 ≤ h 202 a1 ∧ ¬ h 202 a1 = 100 ∧ x = h 202 a1) ∨ (a2 = 2 ∧ h 202 a1 = 100 ∧ x = h 203 a1) ∨ (a2 = 2 ∧ ¬ h 202 a1 = 100 ∧ x = 0) ∨ (¬ (0 ≤ a2 ∧ a2 ≤ 2) ∧ x = -2)))
def P_X11_hullOf (a1 a2 x : Int) (h : JH) : Prop :=
  (x = -1 ∧ ¬ (0 ≤ a1 ∧ a1 < h 29 4)) ∨ ((0 ≤ a1 ∧ a1 < h 29 4 ∧ h 29 4 ≤ 16) ∧ ((a2 = 0 ∧ x = h (36 + 3 * a1) 3) ∨ (a2 = 1 ∧ x = h (36 + 3 * a1) 4) ∨ (a2 = 2 ∧ x = h (36 + 3 * a1) 6) ∨ (a2 = 4 ∧ x = h (36 + 3 * a1) 8) ∨ (a2 = 5 ∧ x = h (36 + 3 * a1) 1) ∨ (a2 = 6 ∧ x = h (36 + 3 * a1) 0) ∨ (a2 = 7 ∧ x = h (36 + 3 * a1) 2) ∨ (a2 = 8 ∧ x = h (36 + 3 * a1) 9) ∨ (a2 = 3 ∧ h (36 + 3 * a1) 7 = 0 ∧ x = 0) ∨ (a2 = 3 ∧ ¬ h (36 + 3 * a1) 7 = 0 ∧ x = 1) ∨ (¬ (0 ≤ a2 ∧ a2 ≤ 8) ∧ x = -2)))
def P_X12_hullOf (a1 a2 x : Int) (h : JH) : Prop :=
  (x = -1 ∧ ¬ (0 ≤ a1 ∧ a1 < h 176 14)) ∨ ((0 ≤ a1 ∧ a1 < h 176 14 ∧ h 176 14 ≤ 16) ∧ ((a2 = 0 ∧ x = h 192 a1) ∨ (a2 = 1 ∧ x = h 193 a1) ∨ (a2 = 4 ∧ x = h 197 a1) ∨ (a2 = 5 ∧ x = h 190 a1) ∨ (a2 = 6 ∧ x = h 189 a1) ∨ (a2 = 7 ∧ x = h 191 a1) ∨ (a2 = 8 ∧ x = h 198 a1) ∨ (a2 = 2 ∧ h 192 a1 = 1 ∧ x = h 195 a1) ∨ (a2 = 2 ∧ ¬ h 192 a1 = 1 ∧ x = 0) ∨ (a2 = 3 ∧ h 192 a1 = 1 ∧ ¬ h 196 a1 = 0 ∧ x = 1) ∨ (a2 = 3 ∧ (¬ h 192 a1 = 1 ∨ h 196 a1 = 0) ∧ x = 0) ∨ (¬ (0 ≤ a2 ∧ a2 ≤ 8) ∧ x = -2)))
def P_X11_gap (a1 a2 x : Int) (h : JH) : Prop :=
  (x = 2000000001 ∧ ¬ (0 ≤ a1 ∧ a1 < h 101 0)) ∨ ((0 ≤ a1 ∧ a1 < h 101 0) ∧ ((a2 = 0 ∧ x = h 102 a1) ∨ (a2 = 1 ∧ x = h 103 a1) ∨ (a2 = 2 ∧ x = h 104 a1) ∨ (a2 = 3 ∧ x = h 105 a1) ∨ (¬ (0 ≤ a2 ∧ a2 ≤ 3) ∧ x = 2000000002)))
def P_X12_gap (a1 a2 x : Int) (h : JH) : Prop :=
  (x = 2000000001 ∧ ¬ (0 ≤ a1 ∧ a1 < h 176 45)) ∨ ((0 ≤ a1 ∧ a1 < h 176 45) ∧ ((a2 = 0 ∧ x = h 215 a1) ∨ (a2 = 1 ∧ x = h 216 a1) ∨ (a2 = 2 ∧ x = h 217 a1) ∨ (a2 = 3 ∧ x = h 218 a1) ∨ (¬ (0 ≤ a2 ∧ a2 ≤ 3) ∧ x = 2000000002)))
def P_X11_worst (a1 x : Int) (h : JH) : Prop := (x = -1 ∧ ¬ (0 ≤ a1 ∧ a1 < 6)) ∨ ((0 ≤ a1 ∧ a1 < 6) ∧ x = jWst (h 102) (h 103) (h 104) (h 105) a1 (h 101 0).toNat)
def P_X12_worst (a1 x : Int) (h : JH) : Prop := (x = -1 ∧ ¬ (0 ≤ a1 ∧ a1 < 6)) ∨ ((0 ≤ a1 ∧ a1 < 6) ∧ x = jWst (h 215) (h 216) (h 217) (h 218) a1 (h 176 45).toNat)
def P_X11_match (a1 a2 x : Int) (h : JH) : Prop :=
  (x = -1 ∧ ¬ (0 ≤ a1 ∧ a1 < 3)) ∨ (x = -2 ∧ (0 ≤ a1 ∧ a1 < 3) ∧ ¬ (0 ≤ a2 ∧ a2 < 2 + h 92 a1)) ∨ ((0 ≤ a1 ∧ a1 < 3) ∧ 0 ≤ a2 ∧ a2 < 2 + h 92 a1 ∧ (jM5 h → ∃ d : Nat → Nat, jOp (jcA h a1) (jcO h a1) (h 84 0).toNat d ∧ x = jMx d (jcs (jcO h a1) d) a2))
def P_X12_match (a1 a2 x : Int) (h : JH) : Prop :=
  (x = -1 ∧ ¬ (0 ≤ a1 ∧ a1 < 3)) ∨ (x = -2 ∧ (0 ≤ a1 ∧ a1 < 3) ∧ ¬ (0 ≤ a2 ∧ a2 < 2 + h 210 a1)) ∨ ((0 ≤ a1 ∧ a1 < 3) ∧ 0 ≤ a2 ∧ a2 < 2 + h 210 a1 ∧ (∀ d : Nat → Nat, jOp (jmB h a1) (jmOv h a1) (h 176 34).toNat d → x = jMx d (jcs (jmOv h a1) d) a2))
def P_X11_fell (a1 x : Int) (h g : JH) : Prop :=
  ((x = -1 ∧ ¬ (0 ≤ a1 ∧ a1 < h 29 4)) ∧ jSx g h) ∨ ((x = -3 ∧ 0 ≤ a1 ∧ a1 < h 29 4 ∧ ¬ ((h (36 + 3 * a1) 3 = 0 ∨ h (36 + 3 * a1) 3 = 1) ∧ h (36 + 3 * a1) 10 = 0)) ∧ jSx g h) ∨ ((0 ≤ a1 ∧ a1 < h 29 4 ∧ h 29 4 ≤ 16 ∧ (h (36 + 3 * a1) 3 = 0 ∨ h (36 + 3 * a1) 3 = 1) ∧ h (36 + 3 * a1) 10 = 0) ∧ 0 ≤ h (36 + 3 * a1) 0 ∧ h (36 + 3 * a1) 0 ≤ 2 ∧ (jM5 h → ∃ d : Nat → Nat, jOp (jcA h (h (36 + 3 * a1) 0)) (jcO h (h (36 + 3 * a1) 0)) (h 84 0).toNat d ∧ (x = jcn d) ∧ jFl 88 d a1 6 h g) ∧ g (36 + 3 * a1) 10 = 1 ∧ ∀ i : Int, 36 ≤ i → i ≤ 83 → ¬ i = (36 + 3 * a1) → g i 10 = h i 10)
def P_X12_fell (a1 x : Int) (h g : JH) : Prop :=
  ((x = -1 ∧ ¬ (0 ≤ a1 ∧ a1 < h 176 14)) ∧ jSy g h) ∨ ((x = -3 ∧ 0 ≤ a1 ∧ a1 < h 176 14 ∧ ¬ (h 192 a1 ≤ 1 ∧ h 201 a1 = 0)) ∧ jSy g h) ∨ ((0 ≤ a1 ∧ a1 < h 176 14 ∧ h 176 14 ≤ 16 ∧ h 192 a1 ≤ 1 ∧ h 201 a1 = 0) ∧ (∀ d : Nat → Nat, jOp (jmB h (h 189 a1)) (jmOv h (h 189 a1)) (h 176 34).toNat d → (x = jcn d) ∧ jFl 208 d a1 6 h g) ∧ g 201 a1 = 1 ∧ ∀ k : Int, ¬ k = a1 → g 201 k = h 201 k)
def P_X11_treeFor (a1 a2 x : Int) (h : JH) : Prop :=
  (x = -1 ∧ ¬ (0 ≤ a1 ∧ a1 < h 29 4)) ∨ (x = -4 ∧ (0 ≤ a1 ∧ a1 < h 29 4) ∧ a2 < 0) ∨ (x = -6 ∧ (0 ≤ a1 ∧ a1 < h 29 4) ∧ 5 < a2) ∨ ((0 ≤ a1 ∧ a1 < h 29 4) ∧ 0 ≤ a2 ∧ a2 ≤ 5 ∧ x = jff (h 88) (h 89) a1 a2 (h 84 0).toNat)
def P_X12_treeFor (a1 a2 x : Int) (h : JH) : Prop :=
  (x = -1 ∧ ¬ (0 ≤ a1 ∧ a1 < h 176 14)) ∨ (x = -4 ∧ (0 ≤ a1 ∧ a1 < h 176 14) ∧ a2 < 0) ∨ (x = -6 ∧ (0 ≤ a1 ∧ a1 < h 176 14) ∧ 5 < a2) ∨ ((0 ≤ a1 ∧ a1 < h 176 14) ∧ 0 ≤ a2 ∧ a2 ≤ 5 ∧ x = jff (h 208) (h 209) a1 a2 (h 176 34).toNat)
def P_X11_treeOf (a1 a2 x : Int) (h : JH) : Prop :=
  (x = 2000000001 ∧ ¬ (0 ≤ a1 ∧ a1 < h 84 0)) ∨ ((0 ≤ a1 ∧ a1 < h 84 0) ∧ ((a2 = 0 ∧ x = h 85 a1) ∨ (a2 = 1 ∧ x = h 87 a1) ∨ (a2 = 2 ∧ x = h 88 a1) ∨ (a2 = 3 ∧ x = h 89 a1) ∨ (a2 = 4 ∧ x = h 86 a1) ∨ (¬ (0 ≤ a2 ∧ a2 ≤ 4) ∧ x = 2000000002)))
def P_X12_treeOf (a1 a2 x : Int) (h : JH) : Prop :=
  (x = 2000000001 ∧ ¬ (0 ≤ a1 ∧ a1 < h 176 34)) ∨ ((0 ≤ a1 ∧ a1 < h 176 34) ∧ ((a2 = 0 ∧ x = h 205 a1) ∨ (a2 = 1 ∧ x = h 207 a1) ∨ (a2 = 4 ∧ x = h 206 a1) ∨ (a2 = 2 ∧ 0 ≤ h 208 a1 ∧ x = h 208 a1) ∨ (a2 = 2 ∧ h 208 a1 < 0 ∧ x = -9) ∨ (a2 = 3 ∧ 0 ≤ h 208 a1 ∧ x = h 209 a1) ∨ (a2 = 3 ∧ h 208 a1 < 0 ∧ x = -9) ∨ (¬ (0 ≤ a2 ∧ a2 ≤ 4) ∧ x = 2000000002)))
def P_X11_ready (a1 x : Int) (h g : JH) : Prop :=
  ((x = -1 ∧ ¬ (0 ≤ a1 ∧ a1 < h 29 4)) ∧ jAP h g) ∨
  ((x = -3 ∧ 0 ≤ a1 ∧ a1 < h 29 4 ∧ h (36 + 3 * a1) 3 = 3) ∧ jAP h g) ∨
  ((0 ≤ a1 ∧ a1 < h 29 4 ∧ h (36 + 3 * a1) 3 = 2 ∧ x = h (36 + 3 * a1) 9) ∧ jAP h g) ∨
  ((0 ≤ a1 ∧ a1 < h 29 4 ∧ h 29 4 ≤ 16 ∧ ¬ h (36 + 3 * a1) 3 = 3 ∧ ¬ h (36 + 3 * a1) 3 = 2) ∧ ∃ y : Int, x = y ∧ jRA a1 y h g)
def P_X11_late (a1 x : Int) (h g : JH) : Prop :=
  ((x = -1 ∧ ¬ (0 ≤ a1 ∧ a1 < h 29 4)) ∧ jAP h g) ∨
  ((x = -3 ∧ 0 ≤ a1 ∧ a1 < h 29 4 ∧ ¬ (h (36 + 3 * a1) 3 = 0 ∨ h (36 + 3 * a1) 3 = 1)) ∧ jAP h g) ∨
  ((0 ≤ a1 ∧ a1 < h 29 4 ∧ h 29 4 ≤ 16 ∧ (h (36 + 3 * a1) 3 = 0 ∨ h (36 + 3 * a1) 3 = 1)) ∧ ∃ y : Int, x = jlt y (h (36 + 3 * a1) 2) (h 0 0) ∧ jRA a1 y h g)
def P_X12_ready (a1 x : Int) (h : JH) : Prop :=
  (x = -1 ∧ ¬ (0 ≤ a1 ∧ a1 < h 176 14)) ∨
  (x = -3 ∧ 0 ≤ a1 ∧ a1 < h 176 14 ∧ h 192 a1 = 3) ∨
  (0 ≤ a1 ∧ a1 < h 176 14 ∧ h 192 a1 = 2 ∧ x = h 198 a1) ∨
  ((0 ≤ a1 ∧ a1 < h 176 14 ∧ ¬ h 192 a1 = 3 ∧ ¬ h 192 a1 = 2) ∧ x = jit jmPi 300 (jAs 0 h) 198 a1)
def P_X12_late (a1 x : Int) (h : JH) : Prop :=
  (x = -1 ∧ ¬ (0 ≤ a1 ∧ a1 < h 176 14)) ∨
  (x = -3 ∧ 0 ≤ a1 ∧ a1 < h 176 14 ∧ 1 < h 192 a1) ∨
  ((0 ≤ a1 ∧ a1 < h 176 14 ∧ h 192 a1 ≤ 1) ∧ x = jlbw (jit jmPi 300 (jAs 0 h) 198 a1) (h 176 0) (h 191 a1))
