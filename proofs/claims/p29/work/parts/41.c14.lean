def w_X12_enter (i k : Int) : Prop := (192 ≤ i ∧ i ≤ 196) ∨ (199 ≤ i ∧ i ≤ 200) ∨ (i = 202)
def k_X12_enter (a1 : Int) (a2 : Int) (h : JH) (v : Option JV) (r' g : JH) : Prop := r' = jr0 ∧ jfr w_X12_enter h g ∧ v = none ∧ (g = jmEnt a1 a2 h)
set_option maxHeartbeats 4000000 in
theorem c_X12_enter {E : JE} {l : Launch} (a1 : Int) (a2 : Int) (h : JH) (p1 : 0 ≤ a1 ∧ a1 ≤ 15) (p2 : 0 ≤ a2 ∧ a2 ≤ 5) : jMt E l 87 [.inr (.inr (.inl 176)), .inl a1, .inl a2] 229 jr0 h (k_X12_enter a1 a2 h) := by
  refine jMt0 (nL := 5) (ls := [.inr (.inr (.inl 176)), .inl a1, .inl a2, .inr (.inr (.inr ())), .inr (.inr (.inr ()))]) (by decide +kernel) (by decide +kernel) (by decide +kernel) rfl rfl ?_
  have f0 : jfr w_X12_enter h h := jfr_rf _ _
  have key : ∀ N : Nat, (∀ (x3 : Int) (x4 : Int) (g : JH), (0 ≤ x3 ∧ x3 ≤ 17 ∧ 0 ≤ x4 ∧ x4 ≤ 6) → (x3 = 6 * jmE0 a1 a2 h 189 a1 + a2) → (g = jit (jmE5 a1 x3) (x4).toNat (jmE3 a1 (jmE2 a1 x3 (jmE1 a1 x3 (jmE0 a1 a2 h))))) → jfr w_X12_enter h g → (6 - x4) < (N : Int) → jGo E l 87 229 229 (jRK (k_X12_enter a1 a2 h)) 67 [.inr (.inr (.inl 176)), .inl a1, .inl a2, .inl x3, .inl x4] [] 229 jr0 g) := by
    intro N
    induction N with
    | zero => exact fun _ _ _ hi hx0 hx1 _ hN => absurd hN (by omega)
    | succ N ih =>
      intro x3 x4 g hi hx0 hx1 hf hN
      refine jGo_blk qX12_enter_67 ?_
      refine And.intro (fun c1 => ?_) (fun c1 => ?_)
      · replace c1 : 6 ≤ x4 := c1
        show jGo E l 87 229 229 _ 131 [.inr (.inr (.inl 176)), .inl a1, .inl a2, .inl x3, .inl x4] [] 229 jr0 g
        refine jGo_blk qX12_enter_131 ?_
        exact ⟨rfl, rfl, hf, rfl, (by rw [hx1, show x4 = 6 by omega, hx0] <;> rfl)⟩
      · replace c1 : x4 < 6 := by first | exact c1 | exact Int.not_le.mp c1 | exact Int.not_lt.mp c1 | exact Decidable.not_not.mp c1
        refine st_gr jo_176 jr_176_25 ?_
        have e2 : jw32 (6 * a1) = 6 * a1 := jzj32 (by omega)
        have e3 : jw32 ((jw32 (6 * a1)) + x4) = (jw32 (6 * a1)) + x4 := jzj32 (by omega)
        refine st_gr jo_176 jr_176_13 ?_
        have e4 : jw32 (6 * x3) = 6 * x3 := jzj32 (by omega)
        have e5 : jw32 ((jw32 (6 * x3)) + x4) = (jw32 (6 * x3)) + x4 := jzj32 (by omega)
        refine st_ai jo_188 (show 0 ≤ jw32 ((jw32 (6 * x3)) + x4) by omega) (show jw32 ((jw32 (6 * x3)) + x4) < ((108 : Nat) : Int) by omega) (fun v6 ev6 b7 => ?_)
        replace ev6 : v6 = g 188 (jw32 ((jw32 (6 * x3)) + x4)) := ev6
        replace b7 := (jba_188 (jw32 ((jw32 (6 * x3)) + x4)) _).1 b7
        refine st_si jo_199 (show 0 ≤ jw32 ((jw32 (6 * a1)) + x4) by omega) (show jw32 ((jw32 (6 * a1)) + x4) < ((96 : Nat) : Int) by omega) (fun hx => (jba_199 _ _).2 hx) (fun g8 eg8 => ?_)
        replace eg8 : g8 = jup g 199 (jw32 ((jw32 (6 * a1)) + x4)) v6 := eg8
        have fg8 : jfr w_X12_enter h g8 := jfr_up hf eg8 (by unfold w_X12_enter; omega)
        have e9 : g8 199 (jw32 ((jw32 (6 * a1)) + x4)) = v6 := jup_s eg8
        refine st_gr jo_176 jr_176_26 ?_
        have e10 : jw32 (6 * a1) = 6 * a1 := jzj32 (by omega)
        have e11 : jw32 ((jw32 (6 * a1)) + x4) = (jw32 (6 * a1)) + x4 := jzj32 (by omega)
        refine st_ai jo_200 (show 0 ≤ jw32 ((jw32 (6 * a1)) + x4) by omega) (show jw32 ((jw32 (6 * a1)) + x4) < ((96 : Nat) : Int) by omega) (fun v12 ev12 b13 => ?_)
        replace ev12 : v12 = g8 200 (jw32 ((jw32 (6 * a1)) + x4)) := ev12
        replace b13 := (jba_200 (jw32 ((jw32 (6 * a1)) + x4)) _).1 b13
        refine st_gr jo_176 jr_176_13 ?_
        have e14 : jw32 (6 * x3) = 6 * x3 := jzj32 (by omega)
        have e15 : jw32 ((jw32 (6 * x3)) + x4) = (jw32 (6 * x3)) + x4 := jzj32 (by omega)
        refine st_ai jo_188 (show 0 ≤ jw32 ((jw32 (6 * x3)) + x4) by omega) (show jw32 ((jw32 (6 * x3)) + x4) < ((108 : Nat) : Int) by omega) (fun v16 ev16 b17 => ?_)
        replace ev16 : v16 = g8 188 (jw32 ((jw32 (6 * x3)) + x4)) := ev16
        replace b17 := (jba_188 (jw32 ((jw32 (6 * x3)) + x4)) _).1 b17
        refine st_si jo_200 (show 0 ≤ jw32 ((jw32 (6 * a1)) + x4) by omega) (show jw32 ((jw32 (6 * a1)) + x4) < ((96 : Nat) : Int) by omega) (fun hx => (jba_200 _ _).2 hx) (fun g18 eg18 => ?_)
        replace eg18 : g18 = jup g8 200 (jw32 ((jw32 (6 * a1)) + x4)) (jw32 (v12 + v16)) := eg18
        have fg18 : jfr w_X12_enter h g18 := jfr_up fg8 eg18 (by unfold w_X12_enter; omega)
        have e19 : g18 200 (jw32 ((jw32 (6 * a1)) + x4)) = jw32 (v12 + v16) := jup_s eg18
        have e20 : jw32 (x4 + 1) = x4 + 1 := jzj32 (by omega)
        show jGo E l 87 229 229 _ 67 [.inr (.inr (.inl 176)), .inl a1, .inl a2, .inl x3, .inl (jw32 (x4 + 1))] [] 229 jr0 g18
        exact ih x3 (jw32 (x4 + 1)) g18 (by omega) (by exact hx0) (by rw [show jw32 (x4 + 1) = x4 + 1 by omega, jit_s (by omega), ← hx1]; subst eg18 ev16 ev12 eg8 ev6; unfold jmE5 jmE6; (repeat (first | rw [if_pos (by omega)] | rw [if_neg (by omega)])); all_goals ((try rw [e20]); (try rw [e15]); (try rw [e14]); (try rw [e11]); (try rw [e10]); (try rw [e5]); (try rw [e4]); (try rw [e3]); (try rw [e2]); (try rfl))) fg18 (by omega)
  refine jGo_blk qX12_enter_0 ?_
  refine st_gr jo_176 jr_176_28 ?_
  refine st_si jo_202 (show 0 ≤ a2 by omega) (show a2 < ((6 : Nat) : Int) by omega) (fun hx => (jba_202 _ _).2 (show (-1 ≤ a1 ∧ a1 ≤ 15) ∨ a1 = 100 by omega)) (fun g21 eg21 => ?_)
  replace eg21 : g21 = jup h 202 a2 a1 := eg21
  have fg21 : jfr w_X12_enter h g21 := jfr_up f0 eg21 (by unfold w_X12_enter; omega)
  have e22 : g21 202 a2 = a1 := jup_s eg21
  refine st_gr jo_176 jr_176_18 ?_
  refine st_si jo_192 (show 0 ≤ a1 by omega) (show a1 < ((16 : Nat) : Int) by omega) (fun hx => (jba_192 _ _).2 (show 0 ≤ 1 ∧ 1 ≤ 3 by omega)) (fun g23 eg23 => ?_)
  replace eg23 : g23 = jup g21 192 a1 1 := eg23
  have fg23 : jfr w_X12_enter h g23 := jfr_up fg21 eg23 (by unfold w_X12_enter; omega)
  have e24 : g23 192 a1 = 1 := jup_s eg23
  refine st_gr jo_176 jr_176_19 ?_
  refine st_si jo_193 (show 0 ≤ a1 by omega) (show a1 < ((16 : Nat) : Int) by omega) (fun hx => (jba_193 _ _).2 (show -9 ≤ a2 ∧ a2 ≤ 5 by omega)) (fun g25 eg25 => ?_)
  replace eg25 : g25 = jup g23 193 a1 a2 := eg25
  have fg25 : jfr w_X12_enter h g25 := jfr_up fg23 eg25 (by unfold w_X12_enter; omega)
  have e26 : g25 193 a1 = a2 := jup_s eg25
  refine st_gr jo_176 jr_176_15 ?_
  refine st_ai jo_189 (show 0 ≤ a1 by omega) (show a1 < ((16 : Nat) : Int) by omega) (fun v27 ev27 b28 => ?_)
  replace ev27 : v27 = g25 189 a1 := ev27
  replace b28 := (jba_189 a1 _).1 b28
  have e29 : jw32 (6 * v27) = 6 * v27 := jzj32 (by omega)
  have e30 : jw32 ((jw32 (6 * v27)) + a2) = (jw32 (6 * v27)) + a2 := jzj32 (by omega)
  refine st_gr jo_176 jr_176_20 ?_
  refine st_gr jo_176 jr_176_11 ?_
  refine st_ai jo_186 (show 0 ≤ jw32 ((jw32 (6 * v27)) + a2) by omega) (show jw32 ((jw32 (6 * v27)) + a2) < ((18 : Nat) : Int) by omega) (fun v31 ev31 b32 => ?_)
  replace ev31 : v31 = g25 186 (jw32 ((jw32 (6 * v27)) + a2)) := ev31
  replace b32 := (jba_186 (jw32 ((jw32 (6 * v27)) + a2)) _).1 b32
  refine st_si jo_194 (show 0 ≤ a1 by omega) (show a1 < ((16 : Nat) : Int) by omega) (fun hx => (jba_194 _ _).2 (show 0 ≤ v31 ∧ v31 ≤ 3 by omega)) (fun g33 eg33 => ?_)
  replace eg33 : g33 = jup g25 194 a1 v31 := eg33
  have fg33 : jfr w_X12_enter h g33 := jfr_up fg25 eg33 (by unfold w_X12_enter; omega)
  have e34 : g33 194 a1 = v31 := jup_s eg33
  refine st_gr jo_176 jr_176_21 ?_
  refine st_gr jo_176 jr_176_12 ?_
  refine st_ai jo_187 (show 0 ≤ jw32 ((jw32 (6 * v27)) + a2) by omega) (show jw32 ((jw32 (6 * v27)) + a2) < ((18 : Nat) : Int) by omega) (fun v35 ev35 b36 => ?_)
  replace ev35 : v35 = g33 187 (jw32 ((jw32 (6 * v27)) + a2)) := ev35
  replace b36 := (jba_187 (jw32 ((jw32 (6 * v27)) + a2)) _).1 b36
  refine st_si jo_195 (show 0 ≤ a1 by omega) (show a1 < ((16 : Nat) : Int) by omega) (fun hx => (jba_195 _ _).2 hx) (fun g37 eg37 => ?_)
  replace eg37 : g37 = jup g33 195 a1 v35 := eg37
  have fg37 : jfr w_X12_enter h g37 := jfr_up fg33 eg37 (by unfold w_X12_enter; omega)
  have e38 : g37 195 a1 = v35 := jup_s eg37
  refine st_gr jo_176 jr_176_22 ?_
  refine st_sb jo_196 (show 0 ≤ a1 by omega) (show a1 < ((16 : Nat) : Int) by omega) (fun hx => (jba_196 _ _).2 (show 0 ≤ 0 ∧ 0 ≤ 1 by omega)) (fun g39 eg39 => ?_)
  replace eg39 : g39 = jup g37 196 a1 0 := eg39
  have fg39 : jfr w_X12_enter h g39 := jfr_up fg37 eg39 (by unfold w_X12_enter; omega)
  have e40 : g39 196 a1 = 0 := jup_s eg39
  show jGo E l 87 229 229 _ 67 [.inr (.inr (.inl 176)), .inl a1, .inl a2, .inl (jw32 ((jw32 (6 * v27)) + a2)), .inl 0] [] 229 jr0 g39
  exact (key 1000000000000) (jw32 ((jw32 (6 * v27)) + a2)) 0 g39 (by omega) (by subst eg39 eg37 ev35 eg33 ev31 ev27 eg25 eg23 eg21; (try rw [e30]); (try rw [e29]); rfl) (by subst eg39 eg37 ev35 eg33 ev31 ev27 eg25 eg23 eg21; unfold jmE3 jmE2 jmE1 jmE0; (repeat (first | rw [if_pos (by omega)] | rw [if_neg (by omega)])); all_goals ((try rw [e30]); (try rw [e29]); (try rfl))) fg39 (by omega)

def k_X12_isFirst (a1 : Int) (a2 : Int) (h : JH) (v : Option JV) (r' g : JH) : Prop := r' = jr0 ∧ h = g ∧ ∃ x : Int, v = some (.inl x) ∧ (0 ≤ x ∧ x ≤ 1) ∧ ((x = 1 ∧ (99 - h 190 a1) * 16 + a1 < (99 - h 190 a2) * 16 + a2) ∨ (x = 0 ∧ ¬ ((99 - h 190 a1) * 16 + a1 < (99 - h 190 a2) * 16 + a2)))
set_option maxHeartbeats 4000000 in
theorem c_X12_isFirst {E : JE} {l : Launch} (a1 : Int) (a2 : Int) (h : JH) (p1 : 0 ≤ a1 ∧ a1 ≤ 15) (p2 : 0 ≤ a2 ∧ a2 ≤ 15) : jMt E l 88 [.inr (.inr (.inl 176)), .inl a1, .inl a2] 229 jr0 h (k_X12_isFirst a1 a2 h) := by
  refine jMt0 (nL := 3) (ls := [.inr (.inr (.inl 176)), .inl a1, .inl a2]) (by decide +kernel) (by decide +kernel) (by decide +kernel) rfl rfl ?_
  refine jGo_blk qX12_isFirst_0 ?_
  refine st_gr jo_176 jr_176_16 ?_
  refine st_ai jo_190 (show 0 ≤ a1 by omega) (show a1 < ((16 : Nat) : Int) by omega) (fun v1 ev1 b2 => ?_)
  replace ev1 : v1 = h 190 a1 := ev1
  replace b2 := (jba_190 a1 _).1 b2
  refine st_gr jo_176 jr_176_16 ?_
  refine st_ai jo_190 (show 0 ≤ a2 by omega) (show a2 < ((16 : Nat) : Int) by omega) (fun v3 ev3 b4 => ?_)
  replace ev3 : v3 = h 190 a2 := ev3
  replace b4 := (jba_190 a2 _).1 b4
  refine And.intro (fun c5 => ?_) (fun c5 => ?_)
  · replace c5 : v1 = v3 := c5
    show jGo E l 88 229 229 _ 38 [.inr (.inr (.inl 176)), .inl a1, .inl a2] [] 229 jr0 h
    refine jGo_blk qX12_isFirst_38 ?_
    refine And.intro (fun c6 => ?_) (fun c6 => ?_)
    · replace c6 : a2 ≤ a1 := c6
      show jGo E l 88 229 229 _ 47 [.inr (.inr (.inl 176)), .inl a1, .inl a2] [] 229 jr0 h
      refine jGo_blk qX12_isFirst_47 ?_
      show jGo E l 88 229 229 _ 48 [.inr (.inr (.inl 176)), .inl a1, .inl a2] [.inl 0] 229 jr0 h
      refine jGo_blk qX12_isFirst_48 ?_
      exact st_r1 (ls := []) (show (0 : Int) = 0 ∨ (0 : Int) = 1 by omega) ⟨rfl, rfl, rfl, 0, rfl, (by omega), (by omega)⟩
    · replace c6 : a1 < a2 := by first | exact c6 | exact Int.not_le.mp c6 | exact Int.not_lt.mp c6 | exact Decidable.not_not.mp c6
      show jGo E l 88 229 229 _ 48 [.inr (.inr (.inl 176)), .inl a1, .inl a2] [.inl 1] 229 jr0 h
      refine jGo_blk qX12_isFirst_48 ?_
      exact st_r1 (ls := []) (show (1 : Int) = 0 ∨ (1 : Int) = 1 by omega) ⟨rfl, rfl, rfl, 1, rfl, (by omega), (by omega)⟩
  · replace c5 : ¬ v1 = v3 := by first | exact c5 | exact Int.not_le.mp c5 | exact Int.not_lt.mp c5 | exact Decidable.not_not.mp c5
    refine st_gr jo_176 jr_176_16 ?_
    refine st_ai jo_190 (show 0 ≤ a1 by omega) (show a1 < ((16 : Nat) : Int) by omega) (fun v7 ev7 b8 => ?_)
    replace ev7 : v7 = h 190 a1 := ev7
    replace b8 := (jba_190 a1 _).1 b8
    refine st_gr jo_176 jr_176_16 ?_
    refine st_ai jo_190 (show 0 ≤ a2 by omega) (show a2 < ((16 : Nat) : Int) by omega) (fun v9 ev9 b10 => ?_)
    replace ev9 : v9 = h 190 a2 := ev9
    replace b10 := (jba_190 a2 _).1 b10
    refine And.intro (fun c11 => ?_) (fun c11 => ?_)
    · replace c11 : v7 ≤ v9 := c11
      show jGo E l 88 229 229 _ 34 [.inr (.inr (.inl 176)), .inl a1, .inl a2] [] 229 jr0 h
      refine jGo_blk qX12_isFirst_34 ?_
      show jGo E l 88 229 229 _ 48 [.inr (.inr (.inl 176)), .inl a1, .inl a2] [.inl 0] 229 jr0 h
      refine jGo_blk qX12_isFirst_48 ?_
      exact st_r1 (ls := []) (show (0 : Int) = 0 ∨ (0 : Int) = 1 by omega) ⟨rfl, rfl, rfl, 0, rfl, (by omega), (by omega)⟩
    · replace c11 : v9 < v7 := by first | exact c11 | exact Int.not_le.mp c11 | exact Int.not_lt.mp c11 | exact Decidable.not_not.mp c11
      show jGo E l 88 229 229 _ 48 [.inr (.inr (.inl 176)), .inl a1, .inl a2] [.inl 1] 229 jr0 h
      refine jGo_blk qX12_isFirst_48 ?_
      exact st_r1 (ls := []) (show (1 : Int) = 0 ∨ (1 : Int) = 1 by omega) ⟨rfl, rfl, rfl, 1, rfl, (by omega), (by omega)⟩

def k_X12_firstBehind (a1 : Int) (a2 : Int) (h : JH) (v : Option JV) (r' g : JH) : Prop := r' = jr0 ∧ h = g ∧ ∃ x : Int, v = some (.inl x) ∧ (-1 ≤ x ∧ x ≤ 15) ∧ ((x = -1 ∨ (0 ≤ x ∧ x ≤ 15 ∧ (a1 < 0 ∨ (99 - h 190 a1) * 16 + a1 < (99 - h 190 x) * 16 + x))) ∧ x = jfb h a1 a2 (h 176 14).toNat)
set_option maxHeartbeats 4000000 in
theorem c_X12_firstBehind {E : JE} {l : Launch} (a1 : Int) (a2 : Int) (h : JH) (p1 : -1 ≤ a1 ∧ a1 ≤ 15) : jMt E l 89 [.inr (.inr (.inl 176)), .inl a1, .inl a2] 229 jr0 h (k_X12_firstBehind a1 a2 h) := by
  refine jMt0 (nL := 5) (ls := [.inr (.inr (.inl 176)), .inl a1, .inl a2, .inr (.inr (.inr ())), .inr (.inr (.inr ()))]) (by decide +kernel) (by decide +kernel) (by decide +kernel) rfl rfl ?_
  refine jGo_bd (fun hbd => ?_)
  have hb0 := (jbf_12_14 jo_176 _).1 (hbd 176 14)
  have key : ∀ N : Nat, (∀ (x3 : Int) (x4 : Int), ((-1) ≤ x3 ∧ 0 ≤ x4 ∧ x4 ≤ 16) → (x3 = -1 ∨ (0 ≤ x3 ∧ x3 ≤ 15 ∧ (a1 < 0 ∨ (99 - h 190 a1) * 16 + a1 < (99 - h 190 x3) * 16 + x3))) → (x3 = jfb h a1 a2 (x4).toNat) → (0 ≤ x4 ∧ x4 ≤ h 176 14) → (16 - x4) < (N : Int) → jGo E l 89 229 229 (jRK (k_X12_firstBehind a1 a2 h)) 5 [.inr (.inr (.inl 176)), .inl a1, .inl a2, .inl x3, .inl x4] [] 229 jr0 h) := by
    intro N
    induction N with
    | zero => exact fun _ _ hi hx0 hx1 hx2 hN => absurd hN (by omega)
    | succ N ih =>
      intro x3 x4 hi hx0 hx1 hx2 hN
      refine jGo_ok (fun hls _ => ?_)
      have rx3 : -2147483648 ≤ x3 ∧ x3 ≤ 2147483647 := hls (.inl x3) (by simp)
      refine jGo_blk qX12_firstBehind_5 ?_
      refine st_gi jo_176 (fun v1 ev1 b2 => ?_)
      replace ev1 : v1 = h 176 14 := ev1
      replace b2 := (jbf_12_14 jo_176 _).1 b2
      refine And.intro (fun c3 => ?_) (fun c3 => ?_)
      · replace c3 : v1 ≤ x4 := c3
        show jGo E l 89 229 229 _ 62 [.inr (.inr (.inl 176)), .inl a1, .inl a2, .inl x3, .inl x4] [] 229 jr0 h
        refine jGo_blk qX12_firstBehind_62 ?_
        exact st_r0 (ls := []) ⟨rfl, rfl, rfl, x3, rfl, (by omega), (by exact ⟨by omega, by rw [show h 176 14 = x4 by omega]; exact hx1⟩)⟩
      · replace c3 : x4 < v1 := by first | exact c3 | exact Int.not_le.mp c3 | exact Int.not_lt.mp c3 | exact Decidable.not_not.mp c3
        refine st_gr jo_176 jr_176_18 ?_
        refine st_ai jo_192 (show 0 ≤ x4 by omega) (show x4 < ((16 : Nat) : Int) by omega) (fun v4 ev4 b5 => ?_)
        replace ev4 : v4 = h 192 x4 := ev4
        replace b5 := (jba_192 x4 _).1 b5
        refine And.intro (fun c6 => ?_) (fun c6 => ?_)
        · replace c6 : ¬ v4 = a2 := c6
          show jGo E l 89 229 229 _ 56 [.inr (.inr (.inl 176)), .inl a1, .inl a2, .inl x3, .inl x4] [] 229 jr0 h
          refine jGo_blk qX12_firstBehind_56 ?_
          have e7 : jw32 (x4 + 1) = x4 + 1 := jzj32 (by omega)
          show jGo E l 89 229 229 _ 5 [.inr (.inr (.inl 176)), .inl a1, .inl a2, .inl x3, .inl (jw32 (x4 + 1))] [] 229 jr0 h
          exact ih x3 (jw32 (x4 + 1)) (by omega) (by omega) (by rw [show jw32 (x4 + 1) = x4 + 1 by omega, jfb_s (by omega), ← hx1]; unfold jKy; exact (if_neg (fun q => by omega)).symm) (by omega) (by omega)
        · replace c6 : v4 = a2 := by first | exact c6 | exact Int.not_le.mp c6 | exact Int.not_lt.mp c6 | exact Decidable.not_not.mp c6
          refine And.intro (fun c8 => ?_) (fun c8 => ?_)
          · replace c8 : a1 < 0 := c8
            show jGo E l 89 229 229 _ 39 [.inr (.inr (.inl 176)), .inl a1, .inl a2, .inl x3, .inl x4] [] 229 jr0 h
            refine jGo_blk qX12_firstBehind_39 ?_
            refine And.intro (fun c9 => ?_) (fun c9 => ?_)
            · replace c9 : x3 < 0 := c9
              show jGo E l 89 229 229 _ 53 [.inr (.inr (.inl 176)), .inl a1, .inl a2, .inl x3, .inl x4] [] 229 jr0 h
              refine jGo_blk qX12_firstBehind_53 ?_
              show jGo E l 89 229 229 _ 56 [.inr (.inr (.inl 176)), .inl a1, .inl a2, .inl x4, .inl x4] [] 229 jr0 h
              refine jGo_blk qX12_firstBehind_56 ?_
              have e10 : jw32 (x4 + 1) = x4 + 1 := jzj32 (by omega)
              show jGo E l 89 229 229 _ 5 [.inr (.inr (.inl 176)), .inl a1, .inl a2, .inl x4, .inl (jw32 (x4 + 1))] [] 229 jr0 h
              exact ih x4 (jw32 (x4 + 1)) (by omega) (by omega) (by rw [show jw32 (x4 + 1) = x4 + 1 by omega, jfb_s (by omega), ← hx1]; unfold jKy; exact (if_pos (by omega)).symm) (by omega) (by omega)
            · replace c9 : 0 ≤ x3 := by first | exact c9 | exact Int.not_le.mp c9 | exact Int.not_lt.mp c9 | exact Decidable.not_not.mp c9
              refine st_cv (na := 2) (st := [.inl x3, .inl x4, .inr (.inr (.inl 176))]) jo_176 rfl rfl rfl (c_X12_isFirst x4 x3 h (by omega) (by omega)) rfl ?_
              rintro _ _ _ ⟨rfl, rfl, t11, rfl, ht11, zt11⟩ kt11
              replace kt11 : -2147483648 ≤ t11 ∧ t11 ≤ 2147483647 := kt11
              replace ht11 : 0 ≤ t11 ∧ t11 ≤ 1 := ht11
              replace zt11 : (t11 = 1 ∧ (99 - h 190 x4) * 16 + x4 < (99 - h 190 x3) * 16 + x3) ∨ (t11 = 0 ∧ ¬ ((99 - h 190 x4) * 16 + x4 < (99 - h 190 x3) * 16 + x3)) := zt11
              refine And.intro (fun c13 => ?_) (fun c13 => ?_)
              · replace c13 : t11 = 0 := c13
                show jGo E l 89 229 229 _ 56 [.inr (.inr (.inl 176)), .inl a1, .inl a2, .inl x3, .inl x4] [] 229 jr0 h
                refine jGo_blk qX12_firstBehind_56 ?_
                have e14 : jw32 (x4 + 1) = x4 + 1 := jzj32 (by omega)
                show jGo E l 89 229 229 _ 5 [.inr (.inr (.inl 176)), .inl a1, .inl a2, .inl x3, .inl (jw32 (x4 + 1))] [] 229 jr0 h
                exact ih x3 (jw32 (x4 + 1)) (by omega) (by omega) (by rw [show jw32 (x4 + 1) = x4 + 1 by omega, jfb_s (by omega), ← hx1]; unfold jKy; exact (if_neg (fun q => by omega)).symm) (by omega) (by omega)
              · replace c13 : ¬ t11 = 0 := by first | exact c13 | exact Int.not_le.mp c13 | exact Int.not_lt.mp c13 | exact Decidable.not_not.mp c13
                show jGo E l 89 229 229 _ 53 [.inr (.inr (.inl 176)), .inl a1, .inl a2, .inl x3, .inl x4] [] 229 jr0 h
                refine jGo_blk qX12_firstBehind_53 ?_
                show jGo E l 89 229 229 _ 56 [.inr (.inr (.inl 176)), .inl a1, .inl a2, .inl x4, .inl x4] [] 229 jr0 h
                refine jGo_blk qX12_firstBehind_56 ?_
                have e15 : jw32 (x4 + 1) = x4 + 1 := jzj32 (by omega)
                show jGo E l 89 229 229 _ 5 [.inr (.inr (.inl 176)), .inl a1, .inl a2, .inl x4, .inl (jw32 (x4 + 1))] [] 229 jr0 h
                exact ih x4 (jw32 (x4 + 1)) (by omega) (by omega) (by rw [show jw32 (x4 + 1) = x4 + 1 by omega, jfb_s (by omega), ← hx1]; unfold jKy; exact (if_pos (by omega)).symm) (by omega) (by omega)
          · replace c8 : 0 ≤ a1 := by first | exact c8 | exact Int.not_le.mp c8 | exact Int.not_lt.mp c8 | exact Decidable.not_not.mp c8
            refine st_cv (na := 2) (st := [.inl x4, .inl a1, .inr (.inr (.inl 176))]) jo_176 rfl rfl rfl (c_X12_isFirst a1 x4 h (by omega) (by omega)) rfl ?_
            rintro _ _ _ ⟨rfl, rfl, t16, rfl, ht16, zt16⟩ kt16
            replace kt16 : -2147483648 ≤ t16 ∧ t16 ≤ 2147483647 := kt16
            replace ht16 : 0 ≤ t16 ∧ t16 ≤ 1 := ht16
            replace zt16 : (t16 = 1 ∧ (99 - h 190 a1) * 16 + a1 < (99 - h 190 x4) * 16 + x4) ∨ (t16 = 0 ∧ ¬ ((99 - h 190 a1) * 16 + a1 < (99 - h 190 x4) * 16 + x4)) := zt16
            refine And.intro (fun c18 => ?_) (fun c18 => ?_)
            · replace c18 : t16 = 0 := c18
              show jGo E l 89 229 229 _ 56 [.inr (.inr (.inl 176)), .inl a1, .inl a2, .inl x3, .inl x4] [] 229 jr0 h
              refine jGo_blk qX12_firstBehind_56 ?_
              have e19 : jw32 (x4 + 1) = x4 + 1 := jzj32 (by omega)
              show jGo E l 89 229 229 _ 5 [.inr (.inr (.inl 176)), .inl a1, .inl a2, .inl x3, .inl (jw32 (x4 + 1))] [] 229 jr0 h
              exact ih x3 (jw32 (x4 + 1)) (by omega) (by omega) (by rw [show jw32 (x4 + 1) = x4 + 1 by omega, jfb_s (by omega), ← hx1]; unfold jKy; exact (if_neg (fun q => by omega)).symm) (by omega) (by omega)
            · replace c18 : ¬ t16 = 0 := by first | exact c18 | exact Int.not_le.mp c18 | exact Int.not_lt.mp c18 | exact Decidable.not_not.mp c18
              show jGo E l 89 229 229 _ 39 [.inr (.inr (.inl 176)), .inl a1, .inl a2, .inl x3, .inl x4] [] 229 jr0 h
              refine jGo_blk qX12_firstBehind_39 ?_
              refine And.intro (fun c20 => ?_) (fun c20 => ?_)
              · replace c20 : x3 < 0 := c20
                show jGo E l 89 229 229 _ 53 [.inr (.inr (.inl 176)), .inl a1, .inl a2, .inl x3, .inl x4] [] 229 jr0 h
                refine jGo_blk qX12_firstBehind_53 ?_
                show jGo E l 89 229 229 _ 56 [.inr (.inr (.inl 176)), .inl a1, .inl a2, .inl x4, .inl x4] [] 229 jr0 h
                refine jGo_blk qX12_firstBehind_56 ?_
                have e21 : jw32 (x4 + 1) = x4 + 1 := jzj32 (by omega)
                show jGo E l 89 229 229 _ 5 [.inr (.inr (.inl 176)), .inl a1, .inl a2, .inl x4, .inl (jw32 (x4 + 1))] [] 229 jr0 h
                exact ih x4 (jw32 (x4 + 1)) (by omega) (by omega) (by rw [show jw32 (x4 + 1) = x4 + 1 by omega, jfb_s (by omega), ← hx1]; unfold jKy; exact (if_pos (by omega)).symm) (by omega) (by omega)
              · replace c20 : 0 ≤ x3 := by first | exact c20 | exact Int.not_le.mp c20 | exact Int.not_lt.mp c20 | exact Decidable.not_not.mp c20
                refine st_cv (na := 2) (st := [.inl x3, .inl x4, .inr (.inr (.inl 176))]) jo_176 rfl rfl rfl (c_X12_isFirst x4 x3 h (by omega) (by omega)) rfl ?_
                rintro _ _ _ ⟨rfl, rfl, t22, rfl, ht22, zt22⟩ kt22
                replace kt22 : -2147483648 ≤ t22 ∧ t22 ≤ 2147483647 := kt22
                replace ht22 : 0 ≤ t22 ∧ t22 ≤ 1 := ht22
                replace zt22 : (t22 = 1 ∧ (99 - h 190 x4) * 16 + x4 < (99 - h 190 x3) * 16 + x3) ∨ (t22 = 0 ∧ ¬ ((99 - h 190 x4) * 16 + x4 < (99 - h 190 x3) * 16 + x3)) := zt22
                refine And.intro (fun c24 => ?_) (fun c24 => ?_)
                · replace c24 : t22 = 0 := c24
                  show jGo E l 89 229 229 _ 56 [.inr (.inr (.inl 176)), .inl a1, .inl a2, .inl x3, .inl x4] [] 229 jr0 h
                  refine jGo_blk qX12_firstBehind_56 ?_
                  have e25 : jw32 (x4 + 1) = x4 + 1 := jzj32 (by omega)
                  show jGo E l 89 229 229 _ 5 [.inr (.inr (.inl 176)), .inl a1, .inl a2, .inl x3, .inl (jw32 (x4 + 1))] [] 229 jr0 h
                  exact ih x3 (jw32 (x4 + 1)) (by omega) (by omega) (by rw [show jw32 (x4 + 1) = x4 + 1 by omega, jfb_s (by omega), ← hx1]; unfold jKy; exact (if_neg (fun q => by omega)).symm) (by omega) (by omega)
                · replace c24 : ¬ t22 = 0 := by first | exact c24 | exact Int.not_le.mp c24 | exact Int.not_lt.mp c24 | exact Decidable.not_not.mp c24
                  show jGo E l 89 229 229 _ 53 [.inr (.inr (.inl 176)), .inl a1, .inl a2, .inl x3, .inl x4] [] 229 jr0 h
                  refine jGo_blk qX12_firstBehind_53 ?_
                  show jGo E l 89 229 229 _ 56 [.inr (.inr (.inl 176)), .inl a1, .inl a2, .inl x4, .inl x4] [] 229 jr0 h
                  refine jGo_blk qX12_firstBehind_56 ?_
                  have e26 : jw32 (x4 + 1) = x4 + 1 := jzj32 (by omega)
                  show jGo E l 89 229 229 _ 5 [.inr (.inr (.inl 176)), .inl a1, .inl a2, .inl x4, .inl (jw32 (x4 + 1))] [] 229 jr0 h
                  exact ih x4 (jw32 (x4 + 1)) (by omega) (by omega) (by rw [show jw32 (x4 + 1) = x4 + 1 by omega, jfb_s (by omega), ← hx1]; unfold jKy; exact (if_pos (by omega)).symm) (by omega) (by omega)
  refine jGo_blk qX12_firstBehind_0 ?_
  show jGo E l 89 229 229 _ 5 [.inr (.inr (.inl 176)), .inl a1, .inl a2, .inl (-1), .inl 0] [] 229 jr0 h
  exact (key 1000000000000) (-1) 0 (by omega) (by omega) (by rfl) (by omega) (by omega)

def w_X12_moveAll (i k : Int) : Prop := (192 ≤ i ∧ i ≤ 196) ∨ (198 ≤ i ∧ i ≤ 200) ∨ (i = 202)
theorem ws_X12_enter__X12_moveAll (i k : Int) (q : w_X12_enter i k) : w_X12_moveAll i k := by
  unfold w_X12_enter at q; unfold w_X12_moveAll
  rcases q with q | q | q
  · exact (Or.inl (by omega))
  · exact (Or.inr (Or.inl (by omega)))
  · exact (Or.inr (Or.inr (by omega)))
def k_X12_moveAll (h : JH) (v : Option JV) (r' g : JH) : Prop := r' = jr0 ∧ jfr w_X12_moveAll h g ∧ ∃ x : Int, v = some (.inl x) ∧ (True) ∧ (g = jmMA h)
set_option maxHeartbeats 4000000 in
theorem c_X12_moveAll {E : JE} {l : Launch} (h : JH) : jMt E l 90 [.inr (.inr (.inl 176))] 229 jr0 h (k_X12_moveAll h) := by
  refine jMt0 (nL := 4) (ls := [.inr (.inr (.inl 176)), .inr (.inr (.inr ())), .inr (.inr (.inr ())), .inr (.inr (.inr ()))]) (by decide +kernel) (by decide +kernel) (by decide +kernel) rfl rfl ?_
  have f0 : jfr w_X12_moveAll h h := jfr_rf _ _
  have key : ∀ N : Nat, (∀ (x1 : Int) (x2 : Int) (x3 : JV) (g : JH), ((-1) ≤ x2 ∧ x2 ≤ 5) → (g = jit jmMr (5 - x2).toNat h) → (-1 ≤ x2 ∧ x2 ≤ 5) → jfr w_X12_moveAll h g → (x2 - (-1)) < (N : Int) → jGo E l 90 229 229 (jRK (k_X12_moveAll h)) 4 [.inr (.inr (.inl 176)), .inl x1, .inl x2, x3] [] 229 jr0 g) := by
    intro N
    induction N with
    | zero => exact fun _ _ _ _ hi hx0 hx1 _ hN => absurd hN (by omega)
    | succ N ih =>
      intro x1 x2 x3 g hi hx0 hx1 hf hN
      refine jGo_ok (fun hls _ => ?_)
      have rx1 : -2147483648 ≤ x1 ∧ x1 ≤ 2147483647 := hls (.inl x1) (by simp)
      refine jGo_blk qX12_moveAll_4 ?_
      refine And.intro (fun c1 => ?_) (fun c1 => ?_)
      · replace c1 : x2 < 0 := c1
        show jGo E l 90 229 229 _ 121 [.inr (.inr (.inl 176)), .inl x1, .inl x2, x3] [] 229 jr0 g
        refine jGo_blk qX12_moveAll_121 ?_
        refine st_cv (na := 2) (st := [.inl 0, .inl (-1), .inr (.inr (.inl 176))]) jo_176 rfl rfl rfl (c_X12_firstBehind (-1) 0 g (by omega)) rfl ?_
        rintro _ _ _ ⟨rfl, rfl, t2, rfl, ht2, zt2⟩ kt2
        replace kt2 : -2147483648 ≤ t2 ∧ t2 ≤ 2147483647 := kt2
        replace ht2 : -1 ≤ t2 ∧ t2 ≤ 15 := ht2
        replace zt2 : (t2 = -1 ∨ (0 ≤ t2 ∧ t2 ≤ 15 ∧ ((-1 : Int) < 0 ∨ (99 - g 190 (-1 : Int)) * 16 + (-1 : Int) < (99 - g 190 t2) * 16 + t2))) ∧ t2 = jfb g (-1 : Int) (0 : Int) (g 176 14).toNat := zt2
        have y4 := zt2.2
        refine st_gr jo_176 jr_176_28 ?_
        refine st_ai jo_202 (show 0 ≤ 0 by omega) (show 0 < ((6 : Nat) : Int) by omega) (fun v5 ev5 b6 => ?_)
        replace ev5 : v5 = g 202 0 := ev5
        replace b6 := (jba_202 0 _).1 b6
        refine And.intro (fun c7 => ?_) (fun c7 => ?_)
        · replace c7 : 0 ≤ v5 := c7
          show jGo E l 90 229 229 _ 147 [.inr (.inr (.inl 176)), .inl x1, .inl t2, x3] [] 229 jr0 g
          refine jGo_blk qX12_moveAll_147 ?_
          have hg9 : g = jit jmMr 6 h := hx0.trans (by rw [show 5 - x2 = 6 by omega] <;> rfl)
          exact st_r0 (ls := []) ⟨rfl, rfl, hf, x1, rfl, trivial, (by unfold jmMA; rw [← hg9]; subst ev5 y4; unfold jmLi; (repeat (first | rw [if_pos (by omega)] | rw [if_neg (by omega)])); all_goals ((try rfl)))⟩
        · replace c7 : v5 < 0 := by first | exact c7 | exact Int.not_le.mp c7 | exact Int.not_lt.mp c7 | exact Decidable.not_not.mp c7
          refine And.intro (fun c8 => ?_) (fun c8 => ?_)
          · replace c8 : t2 < 0 := c8
            show jGo E l 90 229 229 _ 147 [.inr (.inr (.inl 176)), .inl x1, .inl t2, x3] [] 229 jr0 g
            refine jGo_blk qX12_moveAll_147 ?_
            have hg9 : g = jit jmMr 6 h := hx0.trans (by rw [show 5 - x2 = 6 by omega] <;> rfl)
            exact st_r0 (ls := []) ⟨rfl, rfl, hf, x1, rfl, trivial, (by unfold jmMA; rw [← hg9]; subst ev5 y4; unfold jmLi; (repeat (first | rw [if_pos (by omega)] | rw [if_neg (by omega)])); all_goals ((try rfl)))⟩
          · replace c8 : 0 ≤ t2 := by first | exact c8 | exact Int.not_le.mp c8 | exact Int.not_lt.mp c8 | exact Decidable.not_not.mp c8
            refine st_cv (na := 2) (st := [.inl 0, .inl t2, .inr (.inr (.inl 176))]) jo_176 rfl rfl rfl (c_X12_enter t2 0 g (by omega) (by omega)) rfl ?_
            rintro _ _ g10 ⟨rfl, ft9, rfl, zt9⟩ kt9
            have fg10 : jfr w_X12_moveAll h g10 := jfr_tr hf ft9 ws_X12_enter__X12_moveAll
            replace zt9 : g10 = jmEnt t2 (0 : Int) g := zt9
            show jGo E l 90 229 229 _ 147 [.inr (.inr (.inl 176)), .inl x1, .inl t2, x3] [] 229 jr0 g10
            refine jGo_blk qX12_moveAll_147 ?_
            have hg9 : g = jit jmMr 6 h := hx0.trans (by rw [show 5 - x2 = 6 by omega] <;> rfl)
            exact st_r0 (ls := []) ⟨rfl, rfl, fg10, x1, rfl, trivial, (by unfold jmMA; rw [← hg9]; subst zt9 ev5 y4; unfold jmLi; (repeat (first | rw [if_pos (by omega)] | rw [if_neg (by omega)])); all_goals ((try rfl)))⟩
      · replace c1 : 0 ≤ x2 := by first | exact c1 | exact Int.not_le.mp c1 | exact Int.not_lt.mp c1 | exact Decidable.not_not.mp c1
        refine st_gr jo_176 jr_176_28 ?_
        refine st_ai jo_202 (show 0 ≤ x2 by omega) (show x2 < ((6 : Nat) : Int) by omega) (fun v11 ev11 b12 => ?_)
        replace ev11 : v11 = g 202 x2 := ev11
        replace b12 := (jba_202 x2 _).1 b12
        refine And.intro (fun c13 => ?_) (fun c13 => ?_)
        · replace c13 : v11 < 0 := c13
          show jGo E l 90 229 229 _ 115 [.inr (.inr (.inl 176)), .inl x1, .inl x2, .inl v11] [] 229 jr0 g
          refine jGo_blk qX12_moveAll_115 ?_
          have e14 : jw32 (x2 + (-1)) = x2 + (-1) := jzj32 (by omega)
          show jGo E l 90 229 229 _ 4 [.inr (.inr (.inl 176)), .inl x1, .inl (jw32 (x2 + (-1))), .inl v11] [] 229 jr0 g
          exact ih x1 (jw32 (x2 + (-1))) (.inl v11) g (by omega) (by rw [show 5 - jw32 (x2 + (-1)) = (5 - x2) + 1 by omega, jit_s (by omega), ← hx0]; unfold jmMr; rw [show 5 - (5 - x2) = x2 by omega]; subst ev11; unfold jmMv jmLv; (repeat (first | rw [if_pos (by omega)] | rw [if_neg (by omega)])); all_goals ((try rw [e14]); (try rfl))) (by omega) hf (by omega)
        · replace c13 : 0 ≤ v11 := by first | exact c13 | exact Int.not_le.mp c13 | exact Int.not_lt.mp c13 | exact Decidable.not_not.mp c13
          refine And.intro (fun c15 => ?_) (fun c15 => ?_)
          · replace c15 : v11 = 100 := c15
            show jGo E l 90 229 229 _ 115 [.inr (.inr (.inl 176)), .inl x1, .inl x2, .inl v11] [] 229 jr0 g
            refine jGo_blk qX12_moveAll_115 ?_
            have e16 : jw32 (x2 + (-1)) = x2 + (-1) := jzj32 (by omega)
            show jGo E l 90 229 229 _ 4 [.inr (.inr (.inl 176)), .inl x1, .inl (jw32 (x2 + (-1))), .inl v11] [] 229 jr0 g
            exact ih x1 (jw32 (x2 + (-1))) (.inl v11) g (by omega) (by rw [show 5 - jw32 (x2 + (-1)) = (5 - x2) + 1 by omega, jit_s (by omega), ← hx0]; unfold jmMr; rw [show 5 - (5 - x2) = x2 by omega]; subst ev11; unfold jmMv jmLv; (repeat (first | rw [if_pos (by omega)] | rw [if_neg (by omega)])); all_goals ((try rw [e16]); (try rfl))) (by omega) hf (by omega)
          · replace c15 : ¬ v11 = 100 := by first | exact c15 | exact Int.not_le.mp c15 | exact Int.not_lt.mp c15 | exact Decidable.not_not.mp c15
            refine st_gr jo_176 jr_176_22 ?_
            refine st_bi jo_196 (show 0 ≤ v11 by omega) (show v11 < ((16 : Nat) : Int) by omega) (fun v17 ev17 b18 => ?_)
            replace ev17 : v17 = g 196 v11 := ev17
            replace b18 := (jba_196 v11 _).1 b18
            refine And.intro (fun c19 => ?_) (fun c19 => ?_)
            · replace c19 : v17 = 0 := c19
              show jGo E l 90 229 229 _ 115 [.inr (.inr (.inl 176)), .inl x1, .inl x2, .inl v11] [] 229 jr0 g
              refine jGo_blk qX12_moveAll_115 ?_
              have e20 : jw32 (x2 + (-1)) = x2 + (-1) := jzj32 (by omega)
              show jGo E l 90 229 229 _ 4 [.inr (.inr (.inl 176)), .inl x1, .inl (jw32 (x2 + (-1))), .inl v11] [] 229 jr0 g
              exact ih x1 (jw32 (x2 + (-1))) (.inl v11) g (by omega) (by rw [show 5 - jw32 (x2 + (-1)) = (5 - x2) + 1 by omega, jit_s (by omega), ← hx0]; unfold jmMr; rw [show 5 - (5 - x2) = x2 by omega]; subst ev17 ev11; unfold jmMv jmLv; (repeat (first | rw [if_pos (by omega)] | rw [if_neg (by omega)])); all_goals ((try rw [e20]); (try rfl))) (by omega) hf (by omega)
            · replace c19 : ¬ v17 = 0 := by first | exact c19 | exact Int.not_le.mp c19 | exact Int.not_lt.mp c19 | exact Decidable.not_not.mp c19
              refine st_gr jo_176 jr_176_21 ?_
              refine st_ai jo_195 (show 0 ≤ v11 by omega) (show v11 < ((16 : Nat) : Int) by omega) (fun v21 ev21 b22 => ?_)
              replace ev21 : v21 = g 195 v11 := ev21
              replace b22 := (jba_195 v11 _).1 b22
              refine And.intro (fun c23 => ?_) (fun c23 => ?_)
              · replace c23 : v21 ≤ 0 := c23
                show jGo E l 90 229 229 _ 46 [.inr (.inr (.inl 176)), .inl x1, .inl x2, .inl v11] [] 229 jr0 g
                refine jGo_blk qX12_moveAll_46 ?_
                refine And.intro (fun c24 => ?_) (fun c24 => ?_)
                · replace c24 : ¬ x2 = 5 := c24
                  show jGo E l 90 229 229 _ 89 [.inr (.inr (.inl 176)), .inl x1, .inl x2, .inl v11] [] 229 jr0 g
                  refine jGo_blk qX12_moveAll_89 ?_
                  refine st_gr jo_176 jr_176_28 ?_
                  have e25 : jw32 (x2 + 1) = x2 + 1 := jzj32 (by omega)
                  refine st_ai jo_202 (show 0 ≤ jw32 (x2 + 1) by omega) (show jw32 (x2 + 1) < ((6 : Nat) : Int) by omega) (fun v26 ev26 b27 => ?_)
                  replace ev26 : v26 = g 202 (jw32 (x2 + 1)) := ev26
                  replace b27 := (jba_202 (jw32 (x2 + 1)) _).1 b27
                  refine And.intro (fun c28 => ?_) (fun c28 => ?_)
                  · replace c28 : 0 ≤ v26 := c28
                    show jGo E l 90 229 229 _ 115 [.inr (.inr (.inl 176)), .inl x1, .inl x2, .inl v11] [] 229 jr0 g
                    refine jGo_blk qX12_moveAll_115 ?_
                    have e29 : jw32 (x2 + (-1)) = x2 + (-1) := jzj32 (by omega)
                    show jGo E l 90 229 229 _ 4 [.inr (.inr (.inl 176)), .inl x1, .inl (jw32 (x2 + (-1))), .inl v11] [] 229 jr0 g
                    have e30 : g 202 (jw32 (x2 + 1)) = g 202 (x2 + 1) := congrArg (g 202) (show jw32 (x2 + 1) = (x2 + 1) by omega)
                    exact ih x1 (jw32 (x2 + (-1))) (.inl v11) g (by omega) (by rw [show 5 - jw32 (x2 + (-1)) = (5 - x2) + 1 by omega, jit_s (by omega), ← hx0]; unfold jmMr; rw [show 5 - (5 - x2) = x2 by omega]; subst ev26 ev21 ev17 ev11; unfold jmMv jmLv; (repeat (first | rw [if_pos (by omega)] | rw [if_neg (by omega)])); all_goals ((try rw [e29]); (try rw [e25]); (try rfl))) (by omega) hf (by omega)
                  · replace c28 : v26 < 0 := by first | exact c28 | exact Int.not_le.mp c28 | exact Int.not_lt.mp c28 | exact Decidable.not_not.mp c28
                    refine st_gr jo_176 jr_176_28 ?_
                    refine st_si jo_202 (show 0 ≤ x2 by omega) (show x2 < ((6 : Nat) : Int) by omega) (fun hx => (jba_202 _ _).2 (show (-1 ≤ (-1) ∧ (-1) ≤ 15) ∨ (-1) = 100 by omega)) (fun g31 eg31 => ?_)
                    replace eg31 : g31 = jup g 202 x2 (-1) := eg31
                    have fg31 : jfr w_X12_moveAll h g31 := jfr_up hf eg31 (by unfold w_X12_moveAll; omega)
                    have e32 : g31 202 x2 = (-1) := jup_s eg31
                    have e33 : jw32 (x2 + 1) = x2 + 1 := jzj32 (by omega)
                    refine st_cv (na := 2) (st := [.inl (jw32 (x2 + 1)), .inl v11, .inr (.inr (.inl 176))]) jo_176 rfl rfl rfl (c_X12_enter v11 (jw32 (x2 + 1)) g31 (by omega) (by omega)) rfl ?_
                    rintro _ _ g35 ⟨rfl, ft34, rfl, zt34⟩ kt34
                    have fg35 : jfr w_X12_moveAll h g35 := jfr_tr fg31 ft34 ws_X12_enter__X12_moveAll
                    replace zt34 : g35 = jmEnt v11 (jw32 (x2 + 1)) g31 := zt34
                    show jGo E l 90 229 229 _ 115 [.inr (.inr (.inl 176)), .inl x1, .inl x2, .inl v11] [] 229 jr0 g35
                    refine jGo_blk qX12_moveAll_115 ?_
                    have e36 : jw32 (x2 + (-1)) = x2 + (-1) := jzj32 (by omega)
                    show jGo E l 90 229 229 _ 4 [.inr (.inr (.inl 176)), .inl x1, .inl (jw32 (x2 + (-1))), .inl v11] [] 229 jr0 g35
                    have e37 : g 202 (jw32 (x2 + 1)) = g 202 (x2 + 1) := congrArg (g 202) (show jw32 (x2 + 1) = (x2 + 1) by omega)
                    exact ih x1 (jw32 (x2 + (-1))) (.inl v11) g35 (by omega) (by rw [show 5 - jw32 (x2 + (-1)) = (5 - x2) + 1 by omega, jit_s (by omega), ← hx0]; unfold jmMr; rw [show 5 - (5 - x2) = x2 by omega]; subst zt34 eg31 ev26 ev21 ev17 ev11; unfold jmMv jmLv; (repeat (first | rw [if_pos (by omega)] | rw [if_neg (by omega)])); all_goals ((try rw [e36]); (try rw [e33]); (try rw [e25]); (try rfl))) (by omega) fg35 (by omega)
                · replace c24 : x2 = 5 := by first | exact c24 | exact Int.not_le.mp c24 | exact Int.not_lt.mp c24 | exact Decidable.not_not.mp c24
                  refine st_gr jo_176 jr_176_28 ?_
                  refine st_si jo_202 (show 0 ≤ x2 by omega) (show x2 < ((6 : Nat) : Int) by omega) (fun hx => (jba_202 _ _).2 (show (-1 ≤ (-1) ∧ (-1) ≤ 15) ∨ (-1) = 100 by omega)) (fun g38 eg38 => ?_)
                  replace eg38 : g38 = jup g 202 x2 (-1) := eg38
                  have fg38 : jfr w_X12_moveAll h g38 := jfr_up hf eg38 (by unfold w_X12_moveAll; omega)
                  have e39 : g38 202 x2 = (-1) := jup_s eg38
                  refine st_gr jo_176 jr_176_18 ?_
                  refine st_si jo_192 (show 0 ≤ v11 by omega) (show v11 < ((16 : Nat) : Int) by omega) (fun hx => (jba_192 _ _).2 (show 0 ≤ 2 ∧ 2 ≤ 3 by omega)) (fun g40 eg40 => ?_)
                  replace eg40 : g40 = jup g38 192 v11 2 := eg40
                  have fg40 : jfr w_X12_moveAll h g40 := jfr_up fg38 eg40 (by unfold w_X12_moveAll; omega)
                  have e41 : g40 192 v11 = 2 := jup_s eg40
                  refine st_gr jo_176 jr_176_19 ?_
                  refine st_si jo_193 (show 0 ≤ v11 by omega) (show v11 < ((16 : Nat) : Int) by omega) (fun hx => (jba_193 _ _).2 (show -9 ≤ (-9) ∧ (-9) ≤ 5 by omega)) (fun g42 eg42 => ?_)
                  replace eg42 : g42 = jup g40 193 v11 (-9) := eg42
                  have fg42 : jfr w_X12_moveAll h g42 := jfr_up fg40 eg42 (by unfold w_X12_moveAll; omega)
                  have e43 : g42 193 v11 = (-9) := jup_s eg42
                  refine st_gr jo_176 jr_176_24 ?_
                  refine st_gi jo_176 (fun v44 ev44 b45 => ?_)
                  replace ev44 : v44 = g42 176 0 := ev44
                  replace b45 := (jbf_12_0 jo_176 _).1 b45
                  have e46 : g42 176 0 = g40 176 0 := jup_o eg42 (by first | exact fun q => absurd q.1 (by decide) | exact fun q => absurd q.2 (by decide) | omega)
                  have e47 : g40 176 0 = g38 176 0 := jup_o eg40 (by first | exact fun q => absurd q.1 (by decide) | exact fun q => absurd q.2 (by decide) | omega)
                  have e48 : g38 176 0 = g 176 0 := jup_o eg38 (by first | exact fun q => absurd q.1 (by decide) | exact fun q => absurd q.2 (by decide) | omega)
                  refine st_si jo_198 (show 0 ≤ v11 by omega) (show v11 < ((16 : Nat) : Int) by omega) (fun hx => (jba_198 _ _).2 hx) (fun g49 eg49 => ?_)
                  replace eg49 : g49 = jup g42 198 v11 v44 := eg49
                  have fg49 : jfr w_X12_moveAll h g49 := jfr_up fg42 eg49 (by unfold w_X12_moveAll; omega)
                  have e50 : g49 198 v11 = v44 := jup_s eg49
                  show jGo E l 90 229 229 _ 115 [.inr (.inr (.inl 176)), .inl (jw32 (x1 + 1)), .inl x2, .inl v11] [] 229 jr0 g49
                  refine jGo_blk qX12_moveAll_115 ?_
                  have e51 : jw32 (x2 + (-1)) = x2 + (-1) := jzj32 (by omega)
                  show jGo E l 90 229 229 _ 4 [.inr (.inr (.inl 176)), .inl (jw32 (x1 + 1)), .inl (jw32 (x2 + (-1))), .inl v11] [] 229 jr0 g49
                  exact ih (jw32 (x1 + 1)) (jw32 (x2 + (-1))) (.inl v11) g49 (by omega) (by rw [show 5 - jw32 (x2 + (-1)) = (5 - x2) + 1 by omega, jit_s (by omega), ← hx0]; unfold jmMr; rw [show 5 - (5 - x2) = x2 by omega]; subst eg49 ev44 eg42 eg40 eg38 ev21 ev17 ev11; unfold jmMv jmLv; (repeat (first | rw [if_pos (by omega)] | rw [if_neg (by omega)])); all_goals ((try rw [e51]); (try rfl))) (by omega) fg49 (by omega)
              · replace c23 : 0 < v21 := by first | exact c23 | exact Int.not_le.mp c23 | exact Int.not_lt.mp c23 | exact Decidable.not_not.mp c23
                show jGo E l 90 229 229 _ 115 [.inr (.inr (.inl 176)), .inl x1, .inl x2, .inl v11] [] 229 jr0 g
                refine jGo_blk qX12_moveAll_115 ?_
                have e52 : jw32 (x2 + (-1)) = x2 + (-1) := jzj32 (by omega)
                show jGo E l 90 229 229 _ 4 [.inr (.inr (.inl 176)), .inl x1, .inl (jw32 (x2 + (-1))), .inl v11] [] 229 jr0 g
                exact ih x1 (jw32 (x2 + (-1))) (.inl v11) g (by omega) (by rw [show 5 - jw32 (x2 + (-1)) = (5 - x2) + 1 by omega, jit_s (by omega), ← hx0]; unfold jmMr; rw [show 5 - (5 - x2) = x2 by omega]; subst ev21 ev17 ev11; unfold jmMv jmLv; (repeat (first | rw [if_pos (by omega)] | rw [if_neg (by omega)])); all_goals ((try rw [e52]); (try rfl))) (by omega) hf (by omega)
  refine jGo_blk qX12_moveAll_0 ?_
  show jGo E l 90 229 229 _ 4 [.inr (.inr (.inl 176)), .inl 0, .inl 5, .inr (.inr (.inr ()))] [] 229 jr0 h
  exact (key 1000000000000) 0 5 (.inr (.inr (.inr ()))) h (by omega) (by rfl) (by omega) f0 (by omega)
