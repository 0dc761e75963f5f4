/-! ===== WHAT THE STEPS OF A DAY LEAVE: class and reference, read place by place ===== -/
theorem jup_r (g : JH) (i k x a b : Int) : jup g i k x a b = if a = i ∧ b = k then x else g a b := rfl
set_option maxHeartbeats 1000000 in
theorem jEnt_r {u b : Int} {h : JH} (hu : 29 < u) (hs : 0 ≤ h u 0 ∧ h u 0 ≤ 2) :
    (jEnt u b h u 3 = 1 ∧ jEnt u b h u 4 = b ∧ jEnt u b h u 5 = h (18 + h u 0) b ∧ jEnt u b h u 6 = h (22 + h u 0) b ∧ jEnt u b h u 7 = 0) ∧
    (∀ g : Int, 0 ≤ g → g < 6 → jEnt u b h (u + 1) g = h (26 + h u 0) (b * 6 + g)) ∧
    (∀ g : Int, 0 ≤ g → g < 6 → jEnt u b h (u + 2) g = jw32 (h (u + 2) g + h (26 + h u 0) (b * 6 + g))) ∧
    (∀ i k : Int, ¬ (i = u ∧ 3 ≤ k ∧ k ≤ 7) → ¬ (i = u + 1 ∧ 0 ≤ k ∧ k < 6) → ¬ (i = u + 2 ∧ 0 ≤ k ∧ k < 6) → jEnt u b h i k = h i k) := by
  have e1 : ∀ i k : Int, jE1 u b h i k = if i = u ∧ k = 4 then b else if i = u ∧ k = 3 then 1 else h i k := fun i k => rfl
  have a1 : jE1 u b h u 0 = h u 0 := by rw [e1, if_neg (by omega), if_neg (by omega)]
  have c1 : jE1 u b h (18 + h u 0) b = h (18 + h u 0) b := by rw [e1, if_neg (by omega), if_neg (by omega)]
  have e2 : ∀ i k : Int, jE2 u b (jE1 u b h) i k = if i = u ∧ k = 5 then h (18 + h u 0) b else jE1 u b h i k := fun i k => by
    show (if i = u ∧ k = 5 then jE1 u b h (18 + jE1 u b h u 0) b else jE1 u b h i k) = _
    rw [a1, c1]
  have a2 : jE2 u b (jE1 u b h) u 0 = h u 0 := by rw [e2, if_neg (by omega), a1]
  have c2 : jE2 u b (jE1 u b h) (22 + h u 0) b = h (22 + h u 0) b := by rw [e2, if_neg (by omega), e1, if_neg (by omega), if_neg (by omega)]
  have e3 : ∀ i k : Int, jE3 u b (jE2 u b (jE1 u b h)) i k = if i = u ∧ k = 6 then h (22 + h u 0) b else jE2 u b (jE1 u b h) i k := fun i k => by
    show (if i = u ∧ k = 6 then jE2 u b (jE1 u b h) (22 + jE2 u b (jE1 u b h) u 0) b else jE2 u b (jE1 u b h) i k) = _
    rw [a2, c2]
  have e4 : ∀ i k : Int, jE4 u (jE3 u b (jE2 u b (jE1 u b h))) i k = if i = u ∧ k = 7 then 0 else if i = u ∧ k = 6 then h (22 + h u 0) b else if i = u ∧ k = 5 then h (18 + h u 0) b else if i = u ∧ k = 4 then b else if i = u ∧ k = 3 then 1 else h i k := fun i k => by
    show (if i = u ∧ k = 7 then 0 else jE3 u b (jE2 u b (jE1 u b h)) i k) = _
    rw [e3, e2, e1]
  have key : ∀ n : Nat, n ≤ 6 → (∀ g : Int, 0 ≤ g → g < n → jit (jE5 u b) n (jE4 u (jE3 u b (jE2 u b (jE1 u b h)))) (u + 1) g = h (26 + h u 0) (b * 6 + g)) ∧ (∀ g : Int, 0 ≤ g → g < n → jit (jE5 u b) n (jE4 u (jE3 u b (jE2 u b (jE1 u b h)))) (u + 2) g = jw32 (h (u + 2) g + h (26 + h u 0) (b * 6 + g))) ∧
      (∀ i k : Int, ¬ (i = u + 1 ∧ 0 ≤ k ∧ k < n) → ¬ (i = u + 2 ∧ 0 ≤ k ∧ k < n) → jit (jE5 u b) n (jE4 u (jE3 u b (jE2 u b (jE1 u b h)))) i k = jE4 u (jE3 u b (jE2 u b (jE1 u b h))) i k) := by
    generalize jE4 u (jE3 u b (jE2 u b (jE1 u b h))) = G4 at e4
    intro n
    induction n with
    | zero => intro _; exact ⟨fun g a c => absurd c (by omega), fun g a c => absurd c (by omega), fun i k _ _ => rfl⟩
    | succ n ih =>
        intro hn
        obtain ⟨i1, i2, i3⟩ := ih (by omega)
        have st : jit (jE5 u b) (n + 1) G4 = jE5 u b n (jit (jE5 u b) n G4) := rfl
        rw [st]
        generalize jit (jE5 u b) n G4 = G at i1 i2 i3
        have s0 : G u 0 = h u 0 := by rw [i3 u 0 (by omega) (by omega), e4, if_neg (by omega), if_neg (by omega), if_neg (by omega), if_neg (by omega), if_neg (by omega)]
        have s1 : G (26 + h u 0) (b * 6 + n) = h (26 + h u 0) (b * 6 + n) := by rw [i3 _ _ (by omega) (by omega), e4, if_neg (by omega), if_neg (by omega), if_neg (by omega), if_neg (by omega), if_neg (by omega)]
        have s2 : G (u + 2) n = h (u + 2) n := by rw [i3 _ _ (by omega) (by omega), e4, if_neg (by omega), if_neg (by omega), if_neg (by omega), if_neg (by omega), if_neg (by omega)]
        have r : ∀ i k : Int, jE5 u b n G i k = if i = u + 2 ∧ k = n then jw32 (h (u + 2) n + h (26 + h u 0) (b * 6 + n)) else if i = u + 1 ∧ k = n then h (26 + h u 0) (b * 6 + n) else G i k := fun i k => by
          have q1 : jup G (u + 1) n (h (26 + h u 0) (b * 6 + n)) (u + 2) n = G (u + 2) n := jup_ne (by omega)
          have q2 : jup G (u + 1) n (h (26 + h u 0) (b * 6 + n)) (u + 1) n = h (26 + h u 0) (b * 6 + n) := jup_eq
          show (if i = u + 2 ∧ k = n then jw32 (jup G (u + 1) n (G (26 + G u 0) (b * 6 + n)) (u + 2) n + jup G (u + 1) n (G (26 + G u 0) (b * 6 + n)) (u + 1) n) else jup G (u + 1) n (G (26 + G u 0) (b * 6 + n)) i k) = _
          rw [s0, s1, q1, q2, s2]
          rfl
        refine ⟨fun g a c => ?_, fun g a c => ?_, fun i k a c => ?_⟩
        · rw [r]
          by_cases z : g = (n : Int)
          · rw [z, if_neg (by omega), if_pos ⟨rfl, rfl⟩]
          · rw [if_neg (by omega), if_neg (by omega)]; exact i1 g a (by omega)
        · rw [r]
          by_cases z : g = (n : Int)
          · rw [z, if_pos ⟨rfl, rfl⟩]
          · rw [if_neg (by omega), if_neg (by omega)]; exact i2 g a (by omega)
        · rw [r, if_neg (by omega), if_neg (by omega)]; exact i3 i k (by omega) (by omega)
  obtain ⟨k1, k2, k3⟩ := key 6 (Nat.le_refl _)
  have R : ∀ i k : Int, ¬ (i = u + 1 ∧ 0 ≤ k ∧ k < 6) → ¬ (i = u + 2 ∧ 0 ≤ k ∧ k < 6) → jEnt u b h i k = if i = u ∧ k = 7 then 0 else if i = u ∧ k = 6 then h (22 + h u 0) b else if i = u ∧ k = 5 then h (18 + h u 0) b else if i = u ∧ k = 4 then b else if i = u ∧ k = 3 then 1 else h i k := fun i k p q => (k3 i k p q).trans (e4 i k)
  refine ⟨⟨?_, ?_, ?_, ?_, ?_⟩, fun g a c => k1 g a c, fun g a c => k2 g a c, fun i k p q w => ?_⟩
  · rw [R u 3 (by omega) (by omega), if_neg (by omega), if_neg (by omega), if_neg (by omega), if_neg (by omega), if_pos ⟨rfl, rfl⟩]
  · rw [R u 4 (by omega) (by omega), if_neg (by omega), if_neg (by omega), if_neg (by omega), if_pos ⟨rfl, rfl⟩]
  · rw [R u 5 (by omega) (by omega), if_neg (by omega), if_neg (by omega), if_pos ⟨rfl, rfl⟩]
  · rw [R u 6 (by omega) (by omega), if_neg (by omega), if_pos ⟨rfl, rfl⟩]
  · rw [R u 7 (by omega) (by omega), if_pos ⟨rfl, rfl⟩]
  · rw [R i k q w, if_neg (by omega), if_neg (by omega), if_neg (by omega), if_neg (by omega), if_neg (by omega)]
set_option maxHeartbeats 1000000 in
theorem jmEnt_r {k b : Int} {h : JH} :
    (jmEnt k b h 202 b = k ∧ jmEnt k b h 192 k = 1 ∧ jmEnt k b h 193 k = b ∧ jmEnt k b h 194 k = h 186 (6 * h 189 k + b) ∧ jmEnt k b h 195 k = h 187 (6 * h 189 k + b) ∧ jmEnt k b h 196 k = 0) ∧
    (∀ g : Int, 0 ≤ g → g < 6 → jmEnt k b h 199 (6 * k + g) = h 188 (6 * (6 * h 189 k + b) + g)) ∧
    (∀ g : Int, 0 ≤ g → g < 6 → jmEnt k b h 200 (6 * k + g) = jw32 (h 200 (6 * k + g) + h 188 (6 * (6 * h 189 k + b) + g))) ∧
    (∀ i j : Int, ¬ (i = 202 ∧ j = b) → ¬ (192 ≤ i ∧ i ≤ 196 ∧ j = k) → ¬ (199 ≤ i ∧ i ≤ 200 ∧ 6 * k ≤ j ∧ j < 6 * k + 6) → jmEnt k b h i j = h i j) := by
  have e0 : ∀ i j : Int, jmE0 k b h i j = if i = 193 ∧ j = k then b else if i = 192 ∧ j = k then 1 else if i = 202 ∧ j = b then k else h i j := fun i j => rfl
  have a0 : jmE0 k b h 189 k = h 189 k := by rw [e0, if_neg (by omega), if_neg (by omega), if_neg (by omega)]
  have E : jmEnt k b h = jmE7 k (6 * h 189 k + b) (jmE0 k b h) := by unfold jmEnt; rw [a0]
  rw [E]
  generalize 6 * h 189 k + b = w
  have e3 : ∀ i j : Int, jmE3 k (jmE2 k w (jmE1 k w (jmE0 k b h))) i j = if i = 196 ∧ j = k then 0 else if i = 195 ∧ j = k then h 187 w else if i = 194 ∧ j = k then h 186 w else if i = 193 ∧ j = k then b else if i = 192 ∧ j = k then 1 else if i = 202 ∧ j = b then k else h i j := fun i j => rfl
  have key : ∀ n : Nat, n ≤ 6 → (∀ g : Int, 0 ≤ g → g < n → jit (jmE5 k w) n (jmE3 k (jmE2 k w (jmE1 k w (jmE0 k b h)))) 199 (6 * k + g) = h 188 (6 * w + g)) ∧ (∀ g : Int, 0 ≤ g → g < n → jit (jmE5 k w) n (jmE3 k (jmE2 k w (jmE1 k w (jmE0 k b h)))) 200 (6 * k + g) = jw32 (h 200 (6 * k + g) + h 188 (6 * w + g))) ∧
      (∀ i j : Int, ¬ (199 ≤ i ∧ i ≤ 200 ∧ 6 * k ≤ j ∧ j < 6 * k + n) → jit (jmE5 k w) n (jmE3 k (jmE2 k w (jmE1 k w (jmE0 k b h)))) i j = jmE3 k (jmE2 k w (jmE1 k w (jmE0 k b h))) i j) := by
    generalize jmE3 k (jmE2 k w (jmE1 k w (jmE0 k b h))) = G4 at e3
    intro n
    induction n with
    | zero => intro _; exact ⟨fun g a c => absurd c (by omega), fun g a c => absurd c (by omega), fun i j _ => rfl⟩
    | succ n ih =>
        intro hn
        obtain ⟨i1, i2, i3⟩ := ih (by omega)
        have st : jit (jmE5 k w) (n + 1) G4 = jmE5 k w n (jit (jmE5 k w) n G4) := rfl
        rw [st]
        generalize jit (jmE5 k w) n G4 = G at i1 i2 i3
        have s1 : G 188 (6 * w + n) = h 188 (6 * w + n) := by rw [i3 _ _ (by omega), e3, if_neg (by omega), if_neg (by omega), if_neg (by omega), if_neg (by omega), if_neg (by omega), if_neg (by omega)]
        have s2 : G 200 (6 * k + n) = h 200 (6 * k + n) := by rw [i3 _ _ (by omega), e3, if_neg (by omega), if_neg (by omega), if_neg (by omega), if_neg (by omega), if_neg (by omega), if_neg (by omega)]
        have r : ∀ i j : Int, jmE5 k w n G i j = if i = 200 ∧ j = 6 * k + n then jw32 (h 200 (6 * k + n) + h 188 (6 * w + n)) else if i = 199 ∧ j = 6 * k + n then h 188 (6 * w + n) else G i j := fun i j => by
          have q1 : jup G 199 (6 * k + n) (h 188 (6 * w + n)) 200 (6 * k + n) = G 200 (6 * k + n) := jup_ne (by omega)
          have q2 : jup G 199 (6 * k + n) (h 188 (6 * w + n)) 188 (6 * w + n) = G 188 (6 * w + n) := jup_ne (by omega)
          show (if i = 200 ∧ j = 6 * k + n then jw32 (jup G 199 (6 * k + n) (G 188 (6 * w + n)) 200 (6 * k + n) + jup G 199 (6 * k + n) (G 188 (6 * w + n)) 188 (6 * w + n)) else jup G 199 (6 * k + n) (G 188 (6 * w + n)) i j) = _
          rw [s1, q1, q2, s1, s2]
          rfl
        refine ⟨fun g a c => ?_, fun g a c => ?_, fun i j a => ?_⟩
        · rw [r]
          by_cases z : g = (n : Int)
          · rw [z, if_neg (by omega), if_pos ⟨rfl, rfl⟩]
          · rw [if_neg (by omega), if_neg (by omega)]; exact i1 g a (by omega)
        · rw [r]
          by_cases z : g = (n : Int)
          · rw [z, if_pos ⟨rfl, rfl⟩]
          · rw [if_neg (by omega), if_neg (by omega)]; exact i2 g a (by omega)
        · rw [r, if_neg (by omega), if_neg (by omega)]; exact i3 i j (by omega)
  obtain ⟨k1, k2, k3⟩ := key 6 (Nat.le_refl _)
  have R : ∀ i j : Int, ¬ (199 ≤ i ∧ i ≤ 200 ∧ 6 * k ≤ j ∧ j < 6 * k + 6) → jmE7 k w (jmE0 k b h) i j = if i = 196 ∧ j = k then 0 else if i = 195 ∧ j = k then h 187 w else if i = 194 ∧ j = k then h 186 w else if i = 193 ∧ j = k then b else if i = 192 ∧ j = k then 1 else if i = 202 ∧ j = b then k else h i j := fun i j p => (k3 i j p).trans (e3 i j)
  refine ⟨⟨?_, ?_, ?_, ?_, ?_, ?_⟩, fun g a c => k1 g a c, fun g a c => k2 g a c, fun i j p q v => ?_⟩
  · rw [R 202 b (by omega), if_neg (by omega), if_neg (by omega), if_neg (by omega), if_neg (by omega), if_neg (by omega), if_pos ⟨rfl, rfl⟩]
  · rw [R 192 k (by omega), if_neg (by omega), if_neg (by omega), if_neg (by omega), if_neg (by omega), if_pos ⟨rfl, rfl⟩]
  · rw [R 193 k (by omega), if_neg (by omega), if_neg (by omega), if_neg (by omega), if_pos ⟨rfl, rfl⟩]
  · rw [R 194 k (by omega), if_neg (by omega), if_neg (by omega), if_pos ⟨rfl, rfl⟩]
  · rw [R 195 k (by omega), if_neg (by omega), if_pos ⟨rfl, rfl⟩]
  · rw [R 196 k (by omega), if_pos ⟨rfl, rfl⟩]
  · rw [R i j v, if_neg (by omega), if_neg (by omega), if_neg (by omega), if_neg (by omega), if_neg (by omega), if_neg (by omega)]
/-- the class's berth, read -/
theorem jBrt_r {Y k b : Int} {h : JH} (hY : Y = 29 ∨ Y = 119) (hk : 0 ≤ k ∧ k < 16) (hs : 0 ≤ h (Y + 7 + 3 * k) 0 ∧ h (Y + 7 + 3 * k) 0 ≤ 2) :
    (jBrt Y (Y + 2) (Y + 7) k b h (Y + 2) b = k ∧ jBrt Y (Y + 2) (Y + 7) k b h (Y + 7 + 3 * k) 3 = 1 ∧ jBrt Y (Y + 2) (Y + 7) k b h (Y + 7 + 3 * k) 4 = b ∧ jBrt Y (Y + 2) (Y + 7) k b h (Y + 7 + 3 * k) 5 = h (18 + h (Y + 7 + 3 * k) 0) b ∧ jBrt Y (Y + 2) (Y + 7) k b h (Y + 7 + 3 * k) 6 = h (22 + h (Y + 7 + 3 * k) 0) b ∧ jBrt Y (Y + 2) (Y + 7) k b h (Y + 7 + 3 * k) 7 = 0) ∧
    (∀ g : Int, 0 ≤ g → g < 6 → jBrt Y (Y + 2) (Y + 7) k b h (Y + 7 + 3 * k + 1) g = h (26 + h (Y + 7 + 3 * k) 0) (b * 6 + g)) ∧
    (∀ g : Int, 0 ≤ g → g < 6 → jBrt Y (Y + 2) (Y + 7) k b h (Y + 7 + 3 * k + 2) g = jw32 (h (Y + 7 + 3 * k + 2) g + h (26 + h (Y + 7 + 3 * k) 0) (b * 6 + g))) ∧
    (∀ i j : Int, ¬ (i = Y ∧ j = 10) → ¬ (i = Y + 2 ∧ j = b) → ¬ (i = Y + 7 + 3 * k ∧ 3 ≤ j ∧ j ≤ 7) → ¬ (i = Y + 7 + 3 * k + 1 ∧ 0 ≤ j ∧ j < 6) → ¬ (i = Y + 7 + 3 * k + 2 ∧ 0 ≤ j ∧ j < 6) → jBrt Y (Y + 2) (Y + 7) k b h i j = h i j) := by
  have e0 : ∀ i j : Int, jup h (Y + 2) b k i j = if i = Y + 2 ∧ j = b then k else h i j := fun i j => rfl
  have s0 : jup h (Y + 2) b k (Y + 7 + 3 * k) 0 = h (Y + 7 + 3 * k) 0 := by rw [e0, if_neg (by omega)]
  have E := jEnt_r (u := Y + 7 + 3 * k) (b := b) (h := jup h (Y + 2) b k) (by omega) (by rw [s0]; exact hs)
  have e1 : ∀ i j : Int, jBrt Y (Y + 2) (Y + 7) k b h i j = if i = Y ∧ j = 10 then 1 else jEnt (Y + 7 + 3 * k) b (jup h (Y + 2) b k) i j := fun i j => rfl
  rw [s0] at E
  generalize jEnt (Y + 7 + 3 * k) b (jup h (Y + 2) b k) = G at E e1
  generalize jBrt Y (Y + 2) (Y + 7) k b h = X at e1
  obtain ⟨⟨r3, r4, r5, r6, r7⟩, rn, ra, rf⟩ := E
  refine ⟨⟨?_, ?_, ?_, ?_, ?_, ?_⟩, fun g a c => ?_, fun g a c => ?_, fun i j p q v w z => ?_⟩
  · rw [e1, if_neg (by omega), rf _ _ (by omega) (by omega) (by omega), e0, if_pos ⟨rfl, rfl⟩]
  · rw [e1, if_neg (by omega), r3]
  · rw [e1, if_neg (by omega), r4]
  · rw [e1, if_neg (by omega), r5, e0, if_neg (by omega)]
  · rw [e1, if_neg (by omega), r6, e0, if_neg (by omega)]
  · rw [e1, if_neg (by omega), r7]
  · rw [e1, if_neg (by omega), rn g a c, e0, if_neg (by omega)]
  · rw [e1, if_neg (by omega), ra g a c, e0, e0, if_neg (by omega), if_neg (by omega)]
  · rw [e1, if_neg p, rf i j v w z, e0, if_neg q]
