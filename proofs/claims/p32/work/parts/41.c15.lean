def w_X12_enter (i k : Int) : Prop := (192 ≤ i ∧ i ≤ 196) ∨ (199 ≤ i ∧ i ≤ 200) ∨ (i = 202)
def k_X12_enter (a1 : Int) (a2 : Int) (h : JH) (v : Option JV) (r' g : JH) : Prop := r' = jr0 ∧ jfr w_X12_enter h g ∧ v = none ∧ (g = jmEnt a1 a2 h)
set_option maxHeartbeats 4000000 in
theorem c_X12_enter {E : JE} {l : Launch} (a1 : Int) (a2 : Int) (h : JH) (p1 : 0 ≤ a1 ∧ a1 ≤ 15) (p2 : 0 ≤ a2 ∧ a2 ≤ 5) : jMt E l 87 [.inr (.inr (.inl 176)), .inl a1, .inl a2] 229 jr0 h (k_X12_enter a1 a2 h) := by
  refine jMt0 (nL := 5) (ls := [.inr (.inr (.inl 176)), .inl a1, .inl a2, .inr (.inr (.inr ())), .inr (.inr (.inr ()))]) (by decide +kernel) (by decide +kernel) (by decide +kernel) rfl rfl ?_
  have f0 : jfr w_X12_enter h h := jfr_rf _ _
  have key : ∀ N : Nat, (∀ (x3 : Int) (x4 : Int) (g : JH), (0 ≤ x3 ∧ x3 ≤ 17 ∧ 0 ≤ x4 ∧ x4 ≤ 6) → (x3 = 6 * jmE0 a1 a2 h 189 a1 + a2) → (g = jit (jmE5 a1 x3) (x4).toNat (jmE3 a1 (jmE2 a1 x3 (jmE1 a1 x3 (jmE0 a1 a2 h))))) → jfr w_X12_enter h g → (6 - x4) < (N : Int) → jGo E l 87 229 229 (jRK (k_X12_enter a1 a2 h)) 67 [.inr (.inr (.inl 176)), .inl a1, .inl a2, .inl x3, .inl x4] [] 229 jr0 g) := by
    intro N
    induction N with
    | zero => exact fun _ _ _ hi hx0 hx1 _ hN => absurd hN (by omega)
    | succ N ih =>
      intro x3 x4 g hi hx0 hx1 hf hN
      refine jGo_blk qX12_enter_67 ?_
      refine And.intro (fun c1 => ?_) (fun c1 => ?_)
      · replace c1 : 6 ≤ x4 := c1
        show jGo E l 87 229 229 _ 131 [.inr (.inr (.inl 176)), .inl a1, .inl a2, .inl x3, .inl x4] [] 229 jr0 g
        refine jGo_blk qX12_enter_131 ?_
        exact ⟨rfl, rfl, hf, rfl, (by rw [hx1, show x4 = 6 by omega, hx0] <;> rfl)⟩
      · replace c1 : x4 < 6 := by first | exact c1 | exact Int.not_le.mp c1 | exact Int.not_lt.mp c1 | exact Decidable.not_not.mp c1
        refine st_gr jo_176 jr_176_25 ?_
        have e2 : jw32 (6 * a1) = 6 * a1 := j32e (by omega) (by omega)
        have e3 : jw32 ((jw32 (6 * a1)) + x4) = (jw32 (6 * a1)) + x4 := j32e (by omega) (by omega)
        refine st_gr jo_176 jr_176_13 ?_
        have e4 : jw32 (6 * x3) = 6 * x3 := j32e (by omega) (by omega)
        have e5 : jw32 ((jw32 (6 * x3)) + x4) = (jw32 (6 * x3)) + x4 := j32e (by omega) (by omega)
        refine st_ai jo_188 (show 0 ≤ jw32 ((jw32 (6 * x3)) + x4) by omega) (show jw32 ((jw32 (6 * x3)) + x4) < ((108 : Nat) : Int) by omega) (fun v6 ev6 b7 => ?_)
        replace ev6 : v6 = g 188 (jw32 ((jw32 (6 * x3)) + x4)) := ev6
        replace b7 := (jba_188 (jw32 ((jw32 (6 * x3)) + x4)) _).1 b7
        refine st_si jo_199 (show 0 ≤ jw32 ((jw32 (6 * a1)) + x4) by omega) (show jw32 ((jw32 (6 * a1)) + x4) < ((96 : Nat) : Int) by omega) (fun hx => (jba_199 _ _).2 hx) (fun g8 eg8 => ?_)
        replace eg8 : g8 = jup g 199 (jw32 ((jw32 (6 * a1)) + x4)) v6 := eg8
        have fg8 : jfr w_X12_enter h g8 := jfr_up hf eg8 (by unfold w_X12_enter; omega)
        have e9 : g8 199 (jw32 ((jw32 (6 * a1)) + x4)) = v6 := jup_s eg8
        refine st_gr jo_176 jr_176_26 ?_
        have e10 : jw32 (6 * a1) = 6 * a1 := j32e (by omega) (by omega)
        have e11 : jw32 ((jw32 (6 * a1)) + x4) = (jw32 (6 * a1)) + x4 := j32e (by omega) (by omega)
        refine st_ai jo_200 (show 0 ≤ jw32 ((jw32 (6 * a1)) + x4) by omega) (show jw32 ((jw32 (6 * a1)) + x4) < ((96 : Nat) : Int) by omega) (fun v12 ev12 b13 => ?_)
        replace ev12 : v12 = g8 200 (jw32 ((jw32 (6 * a1)) + x4)) := ev12
        replace b13 := (jba_200 (jw32 ((jw32 (6 * a1)) + x4)) _).1 b13
        refine st_gr jo_176 jr_176_13 ?_
        have e14 : jw32 (6 * x3) = 6 * x3 := j32e (by omega) (by omega)
        have e15 : jw32 ((jw32 (6 * x3)) + x4) = (jw32 (6 * x3)) + x4 := j32e (by omega) (by omega)
        refine st_ai jo_188 (show 0 ≤ jw32 ((jw32 (6 * x3)) + x4) by omega) (show jw32 ((jw32 (6 * x3)) + x4) < ((108 : Nat) : Int) by omega) (fun v16 ev16 b17 => ?_)
        replace ev16 : v16 = g8 188 (jw32 ((jw32 (6 * x3)) + x4)) := ev16
        replace b17 := (jba_188 (jw32 ((jw32 (6 * x3)) + x4)) _).1 b17
        refine st_si jo_200 (show 0 ≤ jw32 ((jw32 (6 * a1)) + x4) by omega) (show jw32 ((jw32 (6 * a1)) + x4) < ((96 : Nat) : Int) by omega) (fun hx => (jba_200 _ _).2 hx) (fun g18 eg18 => ?_)
        replace eg18 : g18 = jup g8 200 (jw32 ((jw32 (6 * a1)) + x4)) (jw32 (v12 + v16)) := eg18
        have fg18 : jfr w_X12_enter h g18 := jfr_up fg8 eg18 (by unfold w_X12_enter; omega)
        have e19 : g18 200 (jw32 ((jw32 (6 * a1)) + x4)) = jw32 (v12 + v16) := jup_s eg18
        have e20 : jw32 (x4 + 1) = x4 + 1 := j32e (by omega) (by omega)
        show jGo E l 87 229 229 _ 67 [.inr (.inr (.inl 176)), .inl a1, .inl a2, .inl x3, .inl (jw32 (x4 + 1))] [] 229 jr0 g18
        exact ih x3 (jw32 (x4 + 1)) g18 (by omega) (by exact hx0) (by rw [show jw32 (x4 + 1) = x4 + 1 by omega, jit_s (by omega), ← hx1]; subst eg18 ev16 ev12 eg8 ev6; unfold jmE5 jmE6; (repeat (first | rw [if_pos (by omega)] | rw [if_neg (by omega)])); all_goals ((try rw [e20]); (try rw [e15]); (try rw [e14]); (try rw [e11]); (try rw [e10]); (try rw [e5]); (try rw [e4]); (try rw [e3]); (try rw [e2]); (try rfl))) fg18 (by omega)
  refine jGo_blk qX12_enter_0 ?_
  refine st_gr jo_176 jr_176_28 ?_
  refine st_si jo_202 (show 0 ≤ a2 by omega) (show a2 < ((6 : Nat) : Int) by omega) (fun hx => (jba_202 _ _).2 (show (-1 ≤ a1 ∧ a1 ≤ 15) ∨ a1 = 100 by omega)) (fun g21 eg21 => ?_)
  replace eg21 : g21 = jup h 202 a2 a1 := eg21
  have fg21 : jfr w_X12_enter h g21 := jfr_up f0 eg21 (by unfold w_X12_enter; omega)
  have e22 : g21 202 a2 = a1 := jup_s eg21
  refine st_gr jo_176 jr_176_18 ?_
  refine st_si jo_192 (show 0 ≤ a1 by omega) (show a1 < ((16 : Nat) : Int) by omega) (fun hx => (jba_192 _ _).2 (show 0 ≤ 1 ∧ 1 ≤ 3 by omega)) (fun g23 eg23 => ?_)
  replace eg23 : g23 = jup g21 192 a1 1 := eg23
  have fg23 : jfr w_X12_enter h g23 := jfr_up fg21 eg23 (by unfold w_X12_enter; omega)
  have e24 : g23 192 a1 = 1 := jup_s eg23
  refine st_gr jo_176 jr_176_19 ?_
  refine st_si jo_193 (show 0 ≤ a1 by omega) (show a1 < ((16 : Nat) : Int) by omega) (fun hx => (jba_193 _ _).2 (show -9 ≤ a2 ∧ a2 ≤ 5 by omega)) (fun g25 eg25 => ?_)
  replace eg25 : g25 = jup g23 193 a1 a2 := eg25
  have fg25 : jfr w_X12_enter h g25 := jfr_up fg23 eg25 (by unfold w_X12_enter; omega)
  have e26 : g25 193 a1 = a2 := jup_s eg25
  refine st_gr jo_176 jr_176_15 ?_
  refine st_ai jo_189 (show 0 ≤ a1 by omega) (show a1 < ((16 : Nat) : Int) by omega) (fun v27 ev27 b28 => ?_)
  replace ev27 : v27 = g25 189 a1 := ev27
  replace b28 := (jba_189 a1 _).1 b28
  have e29 : jw32 (6 * v27) = 6 * v27 := j32e (by omega) (by omega)
  have e30 : jw32 ((jw32 (6 * v27)) + a2) = (jw32 (6 * v27)) + a2 := j32e (by omega) (by omega)
  refine st_gr jo_176 jr_176_20 ?_
  refine st_gr jo_176 jr_176_11 ?_
  refine st_ai jo_186 (show 0 ≤ jw32 ((jw32 (6 * v27)) + a2) by omega) (show jw32 ((jw32 (6 * v27)) + a2) < ((18 : Nat) : Int) by omega) (fun v31 ev31 b32 => ?_)
  replace ev31 : v31 = g25 186 (jw32 ((jw32 (6 * v27)) + a2)) := ev31
  replace b32 := (jba_186 (jw32 ((jw32 (6 * v27)) + a2)) _).1 b32
  refine st_si jo_194 (show 0 ≤ a1 by omega) (show a1 < ((16 : Nat) : Int) by omega) (fun hx => (jba_194 _ _).2 (show 0 ≤ v31 ∧ v31 ≤ 3 by omega)) (fun g33 eg33 => ?_)
  replace eg33 : g33 = jup g25 194 a1 v31 := eg33
  have fg33 : jfr w_X12_enter h g33 := jfr_up fg25 eg33 (by unfold w_X12_enter; omega)
  have e34 : g33 194 a1 = v31 := jup_s eg33
  refine st_gr jo_176 jr_176_21 ?_
  refine st_gr jo_176 jr_176_12 ?_
  refine st_ai jo_187 (show 0 ≤ jw32 ((jw32 (6 * v27)) + a2) by omega) (show jw32 ((jw32 (6 * v27)) + a2) < ((18 : Nat) : Int) by omega) (fun v35 ev35 b36 => ?_)
  replace ev35 : v35 = g33 187 (jw32 ((jw32 (6 * v27)) + a2)) := ev35
  replace b36 := (jba_187 (jw32 ((jw32 (6 * v27)) + a2)) _).1 b36
  refine st_si jo_195 (show 0 ≤ a1 by omega) (show a1 < ((16 : Nat) : Int) by omega) (fun hx => (jba_195 _ _).2 hx) (fun g37 eg37 => ?_)
  replace eg37 : g37 = jup g33 195 a1 v35 := eg37
  have fg37 : jfr w_X12_enter h g37 := jfr_up fg33 eg37 (by unfold w_X12_enter; omega)
  have e38 : g37 195 a1 = v35 := jup_s eg37
  refine st_gr jo_176 jr_176_22 ?_
  refine st_sb jo_196 (show 0 ≤ a1 by omega) (show a1 < ((16 : Nat) : Int) by omega) (fun hx => (jba_196 _ _).2 (show 0 ≤ 0 ∧ 0 ≤ 1 by omega)) (fun g39 eg39 => ?_)
  replace eg39 : g39 = jup g37 196 a1 0 := eg39
  have fg39 : jfr w_X12_enter h g39 := jfr_up fg37 eg39 (by unfold w_X12_enter; omega)
  have e40 : g39 196 a1 = 0 := jup_s eg39
  show jGo E l 87 229 229 _ 67 [.inr (.inr (.inl 176)), .inl a1, .inl a2, .inl (jw32 ((jw32 (6 * v27)) + a2)), .inl 0] [] 229 jr0 g39
  exact (key 1000000000000) (jw32 ((jw32 (6 * v27)) + a2)) 0 g39 (by omega) (by subst eg39 eg37 ev35 eg33 ev31 ev27 eg25 eg23 eg21; (try rw [e30]); (try rw [e29]); rfl) (by subst eg39 eg37 ev35 eg33 ev31 ev27 eg25 eg23 eg21; unfold jmE3 jmE2 jmE1 jmE0; (repeat (first | rw [if_pos (by omega)] | rw [if_neg (by omega)])); all_goals ((try rw [e30]); (try rw [e29]); (try rfl))) fg39 (by omega)

def k_X12_isFirst (a1 : Int) (a2 : Int) (h : JH) (v : Option JV) (r' g : JH) : Prop := r' = jr0 ∧ h = g ∧ ∃ x : Int, v = some (.inl x) ∧ (0 ≤ x ∧ x ≤ 1) ∧ ((x = 1 ∧ (99 - h 190 a1) * 16 + a1 < (99 - h 190 a2) * 16 + a2) ∨ (x = 0 ∧ ¬ ((99 - h 190 a1) * 16 + a1 < (99 - h 190 a2) * 16 + a2)))
set_option maxHeartbeats 4000000 in
theorem c_X12_isFirst {E : JE} {l : Launch} (a1 : Int) (a2 : Int) (h : JH) (p1 : 0 ≤ a1 ∧ a1 ≤ 15) (p2 : 0 ≤ a2 ∧ a2 ≤ 15) : jMt E l 88 [.inr (.inr (.inl 176)), .inl a1, .inl a2] 229 jr0 h (k_X12_isFirst a1 a2 h) := by
  refine jMt0 (nL := 3) (ls := [.inr (.inr (.inl 176)), .inl a1, .inl a2]) (by decide +kernel) (by decide +kernel) (by decide +kernel) rfl rfl ?_
  refine jGo_blk qX12_isFirst_0 ?_
  refine st_gr jo_176 jr_176_16 ?_
  refine st_ai jo_190 (show 0 ≤ a1 by omega) (show a1 < ((16 : Nat) : Int) by omega) (fun v1 ev1 b2 => ?_)
  replace ev1 : v1 = h 190 a1 := ev1
  replace b2 := (jba_190 a1 _).1 b2
  refine st_gr jo_176 jr_176_16 ?_
  refine st_ai jo_190 (show 0 ≤ a2 by omega) (show a2 < ((16 : Nat) : Int) by omega) (fun v3 ev3 b4 => ?_)
  replace ev3 : v3 = h 190 a2 := ev3
  replace b4 := (jba_190 a2 _).1 b4
  refine And.intro (fun c5 => ?_) (fun c5 => ?_)
  · replace c5 : v1 = v3 := c5
    show jGo E l 88 229 229 _ 38 [.inr (.inr (.inl 176)), .inl a1, .inl a2] [] 229 jr0 h
    refine jGo_blk qX12_isFirst_38 ?_
    refine And.intro (fun c6 => ?_) (fun c6 => ?_)
    · replace c6 : a2 ≤ a1 := c6
      show jGo E l 88 229 229 _ 47 [.inr (.inr (.inl 176)), .inl a1, .inl a2] [] 229 jr0 h
      refine jGo_blk qX12_isFirst_47 ?_
      show jGo E l 88 229 229 _ 48 [.inr (.inr (.inl 176)), .inl a1, .inl a2] [.inl 0] 229 jr0 h
      refine jGo_blk qX12_isFirst_48 ?_
      exact st_r1 (ls := []) (show (0 : Int) = 0 ∨ (0 : Int) = 1 by omega) ⟨rfl, rfl, rfl, 0, rfl, (by omega), (by omega)⟩
    · replace c6 : a1 < a2 := by first | exact c6 | exact Int.not_le.mp c6 | exact Int.not_lt.mp c6 | exact Decidable.not_not.mp c6
      show jGo E l 88 229 229 _ 48 [.inr (.inr (.inl 176)), .inl a1, .inl a2] [.inl 1] 229 jr0 h
      refine jGo_blk qX12_isFirst_48 ?_
      exact st_r1 (ls := []) (show (1 : Int) = 0 ∨ (1 : Int) = 1 by omega) ⟨rfl, rfl, rfl, 1, rfl, (by omega), (by omega)⟩
  · replace c5 : ¬ v1 = v3 := by first | exact c5 | exact Int.not_le.mp c5 | exact Int.not_lt.mp c5 | exact Decidable.not_not.mp c5
    refine st_gr jo_176 jr_176_16 ?_
    refine st_ai jo_190 (show 0 ≤ a1 by omega) (show a1 < ((16 : Nat) : Int) by omega) (fun v7 ev7 b8 => ?_)
    replace ev7 : v7 = h 190 a1 := ev7
    replace b8 := (jba_190 a1 _).1 b8
    refine st_gr jo_176 jr_176_16 ?_
    refine st_ai jo_190 (show 0 ≤ a2 by omega) (show a2 < ((16 : Nat) : Int) by omega) (fun v9 ev9 b10 => ?_)
    replace ev9 : v9 = h 190 a2 := ev9
    replace b10 := (jba_190 a2 _).1 b10
    refine And.intro (fun c11 => ?_) (fun c11 => ?_)
    · replace c11 : v7 ≤ v9 := c11
      show jGo E l 88 229 229 _ 34 [.inr (.inr (.inl 176)), .inl a1, .inl a2] [] 229 jr0 h
      refine jGo_blk qX12_isFirst_34 ?_
      show jGo E l 88 229 229 _ 48 [.inr (.inr (.inl 176)), .inl a1, .inl a2] [.inl 0] 229 jr0 h
      refine jGo_blk qX12_isFirst_48 ?_
      exact st_r1 (ls := []) (show (0 : Int) = 0 ∨ (0 : Int) = 1 by omega) ⟨rfl, rfl, rfl, 0, rfl, (by omega), (by omega)⟩
    · replace c11 : v9 < v7 := by first | exact c11 | exact Int.not_le.mp c11 | exact Int.not_lt.mp c11 | exact Decidable.not_not.mp c11
      show jGo E l 88 229 229 _ 48 [.inr (.inr (.inl 176)), .inl a1, .inl a2] [.inl 1] 229 jr0 h
      refine jGo_blk qX12_isFirst_48 ?_
      exact st_r1 (ls := []) (show (1 : Int) = 0 ∨ (1 : Int) = 1 by omega) ⟨rfl, rfl, rfl, 1, rfl, (by omega), (by omega)⟩
