def w_X12_enter (i k : Int) : Prop := (192 ≤ i ∧ i ≤ 196) ∨ (199 ≤ i ∧ i ≤ 200) ∨ (i = 202)
def k_X12_enter (a1 : Int) (a2 : Int) (h : JH) (v : Option JV) (r' g : JH) : Prop := r' = jr0 ∧ jfr w_X12_enter h g ∧ v = none ∧ (True)
set_option maxHeartbeats 4000000 in
theorem c_X12_enter {E : JE} {l : Launch} (a1 : Int) (a2 : Int) (h : JH) (p1 : 0 ≤ a1 ∧ a1 ≤ 15) (p2 : 0 ≤ a2 ∧ a2 ≤ 5) : jMt E l 87 [.inr (.inr (.inl 176)), .inl a1, .inl a2] 229 jr0 h (k_X12_enter a1 a2 h) := by
  refine jMt0 (nL := 5) (ls := [.inr (.inr (.inl 176)), .inl a1, .inl a2, .inr (.inr (.inr ())), .inr (.inr (.inr ()))]) (by decide +kernel) (by decide +kernel) (by decide +kernel) rfl rfl ?_
  have f0 : jfr w_X12_enter h h := jfr_rf _ _
  have key : ∀ N : Nat, (∀ (x3 : Int) (x4 : Int) (g : JH), (0 ≤ x3 ∧ x3 ≤ 17 ∧ 0 ≤ x4 ∧ x4 ≤ 6) → jfr w_X12_enter h g → (6 - x4) < (N : Int) → jGo E l 87 229 229 (jRK (k_X12_enter a1 a2 h)) 67 [.inr (.inr (.inl 176)), .inl a1, .inl a2, .inl x3, .inl x4] [] 229 jr0 g) := by
    intro N
    induction N with
    | zero => exact fun _ _ _ hi _ hN => absurd hN (by omega)
    | succ N ih =>
      intro x3 x4 g hi hf hN
      refine jGo_blk qX12_enter_67 ?_
      refine And.intro (fun c1 => ?_) (fun c1 => ?_)
      · have c1 : 6 ≤ x4 := c1
        show jGo E l 87 229 229 _ 131 [.inr (.inr (.inl 176)), .inl a1, .inl a2, .inl x3, .inl x4] [] 229 jr0 g
        refine jGo_blk qX12_enter_131 ?_
        exact ⟨rfl, rfl, hf, rfl, trivial⟩
      · have c1 : x4 < 6 := by first | exact c1 | exact Int.not_le.mp c1 | exact Int.not_lt.mp c1 | exact Decidable.not_not.mp c1
        refine st_gr jo_176 jr_176_25 ?_
        have e2 : jw32 (6 * a1) = 6 * a1 := j32e (by omega) (by omega)
        have e3 : jw32 ((jw32 (6 * a1)) + x4) = (jw32 (6 * a1)) + x4 := j32e (by omega) (by omega)
        refine st_gr jo_176 jr_176_13 ?_
        have e4 : jw32 (6 * x3) = 6 * x3 := j32e (by omega) (by omega)
        have e5 : jw32 ((jw32 (6 * x3)) + x4) = (jw32 (6 * x3)) + x4 := j32e (by omega) (by omega)
        refine st_ai jo_188 (show 0 ≤ jw32 ((jw32 (6 * x3)) + x4) by omega) (show jw32 ((jw32 (6 * x3)) + x4) < ((108 : Nat) : Int) by omega) (fun v6 ev6 b7 => ?_)
        have ev6 : v6 = g 188 (jw32 ((jw32 (6 * x3)) + x4)) := ev6
        have b7 := (jba_188 (jw32 ((jw32 (6 * x3)) + x4)) _).1 b7
        refine st_si jo_199 (show 0 ≤ jw32 ((jw32 (6 * a1)) + x4) by omega) (show jw32 ((jw32 (6 * a1)) + x4) < ((96 : Nat) : Int) by omega) (fun hx => (jba_199 _ _).2 hx) (fun g8 eg8 => ?_)
        have eg8 : g8 = jup g 199 (jw32 ((jw32 (6 * a1)) + x4)) v6 := eg8
        have fg8 : jfr w_X12_enter h g8 := jfr_up hf eg8 (by unfold w_X12_enter; omega)
        have e9 : g8 199 (jw32 ((jw32 (6 * a1)) + x4)) = v6 := jup_s eg8
        refine st_gr jo_176 jr_176_26 ?_
        have e10 : jw32 (6 * a1) = 6 * a1 := j32e (by omega) (by omega)
        have e11 : jw32 ((jw32 (6 * a1)) + x4) = (jw32 (6 * a1)) + x4 := j32e (by omega) (by omega)
        refine st_ai jo_200 (show 0 ≤ jw32 ((jw32 (6 * a1)) + x4) by omega) (show jw32 ((jw32 (6 * a1)) + x4) < ((96 : Nat) : Int) by omega) (fun v12 ev12 b13 => ?_)
        have ev12 : v12 = g8 200 (jw32 ((jw32 (6 * a1)) + x4)) := ev12
        have b13 := (jba_200 (jw32 ((jw32 (6 * a1)) + x4)) _).1 b13
        refine st_gr jo_176 jr_176_13 ?_
        have e14 : jw32 (6 * x3) = 6 * x3 := j32e (by omega) (by omega)
        have e15 : jw32 ((jw32 (6 * x3)) + x4) = (jw32 (6 * x3)) + x4 := j32e (by omega) (by omega)
        refine st_ai jo_188 (show 0 ≤ jw32 ((jw32 (6 * x3)) + x4) by omega) (show jw32 ((jw32 (6 * x3)) + x4) < ((108 : Nat) : Int) by omega) (fun v16 ev16 b17 => ?_)
        have ev16 : v16 = g8 188 (jw32 ((jw32 (6 * x3)) + x4)) := ev16
        have b17 := (jba_188 (jw32 ((jw32 (6 * x3)) + x4)) _).1 b17
        refine st_si jo_200 (show 0 ≤ jw32 ((jw32 (6 * a1)) + x4) by omega) (show jw32 ((jw32 (6 * a1)) + x4) < ((96 : Nat) : Int) by omega) (fun hx => (jba_200 _ _).2 hx) (fun g18 eg18 => ?_)
        have eg18 : g18 = jup g8 200 (jw32 ((jw32 (6 * a1)) + x4)) (jw32 (v12 + v16)) := eg18
        have fg18 : jfr w_X12_enter h g18 := jfr_up fg8 eg18 (by unfold w_X12_enter; omega)
        have e19 : g18 200 (jw32 ((jw32 (6 * a1)) + x4)) = jw32 (v12 + v16) := jup_s eg18
        have e20 : jw32 (x4 + 1) = x4 + 1 := j32e (by omega) (by omega)
        show jGo E l 87 229 229 _ 67 [.inr (.inr (.inl 176)), .inl a1, .inl a2, .inl x3, .inl (jw32 (x4 + 1))] [] 229 jr0 g18
        exact ih x3 (jw32 (x4 + 1)) g18 (by omega) fg18 (by omega)
  refine jGo_blk qX12_enter_0 ?_
  refine st_gr jo_176 jr_176_28 ?_
  refine st_si jo_202 (show 0 ≤ a2 by omega) (show a2 < ((6 : Nat) : Int) by omega) (fun hx => (jba_202 _ _).2 (show (-1 ≤ a1 ∧ a1 ≤ 15) ∨ a1 = 100 by omega)) (fun g21 eg21 => ?_)
  have eg21 : g21 = jup h 202 a2 a1 := eg21
  have fg21 : jfr w_X12_enter h g21 := jfr_up f0 eg21 (by unfold w_X12_enter; omega)
  have e22 : g21 202 a2 = a1 := jup_s eg21
  refine st_gr jo_176 jr_176_18 ?_
  refine st_si jo_192 (show 0 ≤ a1 by omega) (show a1 < ((16 : Nat) : Int) by omega) (fun hx => (jba_192 _ _).2 (show 0 ≤ 1 ∧ 1 ≤ 3 by omega)) (fun g23 eg23 => ?_)
  have eg23 : g23 = jup g21 192 a1 1 := eg23
  have fg23 : jfr w_X12_enter h g23 := jfr_up fg21 eg23 (by unfold w_X12_enter; omega)
  have e24 : g23 192 a1 = 1 := jup_s eg23
  refine st_gr jo_176 jr_176_19 ?_
  refine st_si jo_193 (show 0 ≤ a1 by omega) (show a1 < ((16 : Nat) : Int) by omega) (fun hx => (jba_193 _ _).2 (show -9 ≤ a2 ∧ a2 ≤ 5 by omega)) (fun g25 eg25 => ?_)
  have eg25 : g25 = jup g23 193 a1 a2 := eg25
  have fg25 : jfr w_X12_enter h g25 := jfr_up fg23 eg25 (by unfold w_X12_enter; omega)
  have e26 : g25 193 a1 = a2 := jup_s eg25
  refine st_gr jo_176 jr_176_15 ?_
  refine st_ai jo_189 (show 0 ≤ a1 by omega) (show a1 < ((16 : Nat) : Int) by omega) (fun v27 ev27 b28 => ?_)
  have ev27 : v27 = g25 189 a1 := ev27
  have b28 := (jba_189 a1 _).1 b28
  have e29 : jw32 (6 * v27) = 6 * v27 := j32e (by omega) (by omega)
  have e30 : jw32 ((jw32 (6 * v27)) + a2) = (jw32 (6 * v27)) + a2 := j32e (by omega) (by omega)
  refine st_gr jo_176 jr_176_20 ?_
  refine st_gr jo_176 jr_176_11 ?_
  refine st_ai jo_186 (show 0 ≤ jw32 ((jw32 (6 * v27)) + a2) by omega) (show jw32 ((jw32 (6 * v27)) + a2) < ((18 : Nat) : Int) by omega) (fun v31 ev31 b32 => ?_)
  have ev31 : v31 = g25 186 (jw32 ((jw32 (6 * v27)) + a2)) := ev31
  have b32 := (jba_186 (jw32 ((jw32 (6 * v27)) + a2)) _).1 b32
  refine st_si jo_194 (show 0 ≤ a1 by omega) (show a1 < ((16 : Nat) : Int) by omega) (fun hx => (jba_194 _ _).2 (show 0 ≤ v31 ∧ v31 ≤ 3 by omega)) (fun g33 eg33 => ?_)
  have eg33 : g33 = jup g25 194 a1 v31 := eg33
  have fg33 : jfr w_X12_enter h g33 := jfr_up fg25 eg33 (by unfold w_X12_enter; omega)
  have e34 : g33 194 a1 = v31 := jup_s eg33
  refine st_gr jo_176 jr_176_21 ?_
  refine st_gr jo_176 jr_176_12 ?_
  refine st_ai jo_187 (show 0 ≤ jw32 ((jw32 (6 * v27)) + a2) by omega) (show jw32 ((jw32 (6 * v27)) + a2) < ((18 : Nat) : Int) by omega) (fun v35 ev35 b36 => ?_)
  have ev35 : v35 = g33 187 (jw32 ((jw32 (6 * v27)) + a2)) := ev35
  have b36 := (jba_187 (jw32 ((jw32 (6 * v27)) + a2)) _).1 b36
  refine st_si jo_195 (show 0 ≤ a1 by omega) (show a1 < ((16 : Nat) : Int) by omega) (fun hx => (jba_195 _ _).2 hx) (fun g37 eg37 => ?_)
  have eg37 : g37 = jup g33 195 a1 v35 := eg37
  have fg37 : jfr w_X12_enter h g37 := jfr_up fg33 eg37 (by unfold w_X12_enter; omega)
  have e38 : g37 195 a1 = v35 := jup_s eg37
  refine st_gr jo_176 jr_176_22 ?_
  refine st_sb jo_196 (show 0 ≤ a1 by omega) (show a1 < ((16 : Nat) : Int) by omega) (fun hx => (jba_196 _ _).2 (show 0 ≤ 0 ∧ 0 ≤ 1 by omega)) (fun g39 eg39 => ?_)
  have eg39 : g39 = jup g37 196 a1 0 := eg39
  have fg39 : jfr w_X12_enter h g39 := jfr_up fg37 eg39 (by unfold w_X12_enter; omega)
  have e40 : g39 196 a1 = 0 := jup_s eg39
  show jGo E l 87 229 229 _ 67 [.inr (.inr (.inl 176)), .inl a1, .inl a2, .inl (jw32 ((jw32 (6 * v27)) + a2)), .inl 0] [] 229 jr0 g39
  exact (key 1000000000000) (jw32 ((jw32 (6 * v27)) + a2)) 0 g39 (by omega) fg39 (by omega)

def k_X12_isFirst (a1 : Int) (a2 : Int) (h : JH) (v : Option JV) (r' g : JH) : Prop := r' = jr0 ∧ h = g ∧ ∃ x : Int, v = some (.inl x) ∧ (0 ≤ x ∧ x ≤ 1) ∧ ((x = 1 ∧ (99 - h 190 a1) * 16 + a1 < (99 - h 190 a2) * 16 + a2) ∨ (x = 0 ∧ ¬ ((99 - h 190 a1) * 16 + a1 < (99 - h 190 a2) * 16 + a2)))
set_option maxHeartbeats 4000000 in
theorem c_X12_isFirst {E : JE} {l : Launch} (a1 : Int) (a2 : Int) (h : JH) (p1 : 0 ≤ a1 ∧ a1 ≤ 15) (p2 : 0 ≤ a2 ∧ a2 ≤ 15) : jMt E l 88 [.inr (.inr (.inl 176)), .inl a1, .inl a2] 229 jr0 h (k_X12_isFirst a1 a2 h) := by
  refine jMt0 (nL := 3) (ls := [.inr (.inr (.inl 176)), .inl a1, .inl a2]) (by decide +kernel) (by decide +kernel) (by decide +kernel) rfl rfl ?_
  refine jGo_blk qX12_isFirst_0 ?_
  refine st_gr jo_176 jr_176_16 ?_
  refine st_ai jo_190 (show 0 ≤ a1 by omega) (show a1 < ((16 : Nat) : Int) by omega) (fun v1 ev1 b2 => ?_)
  have ev1 : v1 = h 190 a1 := ev1
  have b2 := (jba_190 a1 _).1 b2
  refine st_gr jo_176 jr_176_16 ?_
  refine st_ai jo_190 (show 0 ≤ a2 by omega) (show a2 < ((16 : Nat) : Int) by omega) (fun v3 ev3 b4 => ?_)
  have ev3 : v3 = h 190 a2 := ev3
  have b4 := (jba_190 a2 _).1 b4
  refine And.intro (fun c5 => ?_) (fun c5 => ?_)
  · have c5 : v1 = v3 := c5
    show jGo E l 88 229 229 _ 38 [.inr (.inr (.inl 176)), .inl a1, .inl a2] [] 229 jr0 h
    refine jGo_blk qX12_isFirst_38 ?_
    refine And.intro (fun c6 => ?_) (fun c6 => ?_)
    · have c6 : a2 ≤ a1 := c6
      show jGo E l 88 229 229 _ 47 [.inr (.inr (.inl 176)), .inl a1, .inl a2] [] 229 jr0 h
      refine jGo_blk qX12_isFirst_47 ?_
      show jGo E l 88 229 229 _ 48 [.inr (.inr (.inl 176)), .inl a1, .inl a2] [.inl 0] 229 jr0 h
      refine jGo_blk qX12_isFirst_48 ?_
      exact st_r1 (ls := []) (show (0 : Int) = 0 ∨ (0 : Int) = 1 by omega) ⟨rfl, rfl, rfl, 0, rfl, (by omega), (by omega)⟩
    · have c6 : a1 < a2 := by first | exact c6 | exact Int.not_le.mp c6 | exact Int.not_lt.mp c6 | exact Decidable.not_not.mp c6
      show jGo E l 88 229 229 _ 48 [.inr (.inr (.inl 176)), .inl a1, .inl a2] [.inl 1] 229 jr0 h
      refine jGo_blk qX12_isFirst_48 ?_
      exact st_r1 (ls := []) (show (1 : Int) = 0 ∨ (1 : Int) = 1 by omega) ⟨rfl, rfl, rfl, 1, rfl, (by omega), (by omega)⟩
  · have c5 : ¬ v1 = v3 := by first | exact c5 | exact Int.not_le.mp c5 | exact Int.not_lt.mp c5 | exact Decidable.not_not.mp c5
    refine st_gr jo_176 jr_176_16 ?_
    refine st_ai jo_190 (show 0 ≤ a1 by omega) (show a1 < ((16 : Nat) : Int) by omega) (fun v7 ev7 b8 => ?_)
    have ev7 : v7 = h 190 a1 := ev7
    have b8 := (jba_190 a1 _).1 b8
    refine st_gr jo_176 jr_176_16 ?_
    refine st_ai jo_190 (show 0 ≤ a2 by omega) (show a2 < ((16 : Nat) : Int) by omega) (fun v9 ev9 b10 => ?_)
    have ev9 : v9 = h 190 a2 := ev9
    have b10 := (jba_190 a2 _).1 b10
    refine And.intro (fun c11 => ?_) (fun c11 => ?_)
    · have c11 : v7 ≤ v9 := c11
      show jGo E l 88 229 229 _ 34 [.inr (.inr (.inl 176)), .inl a1, .inl a2] [] 229 jr0 h
      refine jGo_blk qX12_isFirst_34 ?_
      show jGo E l 88 229 229 _ 48 [.inr (.inr (.inl 176)), .inl a1, .inl a2] [.inl 0] 229 jr0 h
      refine jGo_blk qX12_isFirst_48 ?_
      exact st_r1 (ls := []) (show (0 : Int) = 0 ∨ (0 : Int) = 1 by omega) ⟨rfl, rfl, rfl, 0, rfl, (by omega), (by omega)⟩
    · have c11 : v9 < v7 := by first | exact c11 | exact Int.not_le.mp c11 | exact Int.not_lt.mp c11 | exact Decidable.not_not.mp c11
      show jGo E l 88 229 229 _ 48 [.inr (.inr (.inl 176)), .inl a1, .inl a2] [.inl 1] 229 jr0 h
      refine jGo_blk qX12_isFirst_48 ?_
      exact st_r1 (ls := []) (show (1 : Int) = 0 ∨ (1 : Int) = 1 by omega) ⟨rfl, rfl, rfl, 1, rfl, (by omega), (by omega)⟩

def k_X12_firstBehind (a1 : Int) (a2 : Int) (h : JH) (v : Option JV) (r' g : JH) : Prop := r' = jr0 ∧ h = g ∧ ∃ x : Int, v = some (.inl x) ∧ (-1 ≤ x ∧ x ≤ 15) ∧ (x = -1 ∨ (0 ≤ x ∧ x ≤ 15 ∧ (a1 < 0 ∨ (99 - h 190 a1) * 16 + a1 < (99 - h 190 x) * 16 + x)))
set_option maxHeartbeats 4000000 in
theorem c_X12_firstBehind {E : JE} {l : Launch} (a1 : Int) (a2 : Int) (h : JH) (p1 : -1 ≤ a1 ∧ a1 ≤ 15) : jMt E l 89 [.inr (.inr (.inl 176)), .inl a1, .inl a2] 229 jr0 h (k_X12_firstBehind a1 a2 h) := by
  refine jMt0 (nL := 5) (ls := [.inr (.inr (.inl 176)), .inl a1, .inl a2, .inr (.inr (.inr ())), .inr (.inr (.inr ()))]) (by decide +kernel) (by decide +kernel) (by decide +kernel) rfl rfl ?_
  have key : ∀ N : Nat, (∀ (x3 : Int) (x4 : Int), ((-1) ≤ x3 ∧ 0 ≤ x4 ∧ x4 ≤ 16) → (x3 = -1 ∨ (0 ≤ x3 ∧ x3 ≤ 15 ∧ (a1 < 0 ∨ (99 - h 190 a1) * 16 + a1 < (99 - h 190 x3) * 16 + x3))) → (16 - x4) < (N : Int) → jGo E l 89 229 229 (jRK (k_X12_firstBehind a1 a2 h)) 5 [.inr (.inr (.inl 176)), .inl a1, .inl a2, .inl x3, .inl x4] [] 229 jr0 h) := by
    intro N
    induction N with
    | zero => exact fun _ _ hi hx0 hN => absurd hN (by omega)
    | succ N ih =>
      intro x3 x4 hi hx0 hN
      refine jGo_ok (fun hls _ => ?_)
      have rx3 : -2147483648 ≤ x3 ∧ x3 ≤ 2147483647 := hls (.inl x3) (by simp)
      refine jGo_blk qX12_firstBehind_5 ?_
      refine st_gi jo_176 (fun v1 ev1 b2 => ?_)
      have ev1 : v1 = h 176 14 := ev1
      have b2 := (jbf_12_14 jo_176 _).1 b2
      refine And.intro (fun c3 => ?_) (fun c3 => ?_)
      · have c3 : v1 ≤ x4 := c3
        show jGo E l 89 229 229 _ 62 [.inr (.inr (.inl 176)), .inl a1, .inl a2, .inl x3, .inl x4] [] 229 jr0 h
        refine jGo_blk qX12_firstBehind_62 ?_
        exact st_r0 (ls := []) ⟨rfl, rfl, rfl, x3, rfl, (by omega), (by omega)⟩
      · have c3 : x4 < v1 := by first | exact c3 | exact Int.not_le.mp c3 | exact Int.not_lt.mp c3 | exact Decidable.not_not.mp c3
        refine st_gr jo_176 jr_176_18 ?_
        refine st_ai jo_192 (show 0 ≤ x4 by omega) (show x4 < ((16 : Nat) : Int) by omega) (fun v4 ev4 b5 => ?_)
        have ev4 : v4 = h 192 x4 := ev4
        have b5 := (jba_192 x4 _).1 b5
        refine And.intro (fun c6 => ?_) (fun c6 => ?_)
        · have c6 : ¬ v4 = a2 := c6
          show jGo E l 89 229 229 _ 56 [.inr (.inr (.inl 176)), .inl a1, .inl a2, .inl x3, .inl x4] [] 229 jr0 h
          refine jGo_blk qX12_firstBehind_56 ?_
          have e7 : jw32 (x4 + 1) = x4 + 1 := j32e (by omega) (by omega)
          show jGo E l 89 229 229 _ 5 [.inr (.inr (.inl 176)), .inl a1, .inl a2, .inl x3, .inl (jw32 (x4 + 1))] [] 229 jr0 h
          exact ih x3 (jw32 (x4 + 1)) (by omega) (by omega) (by omega)
        · have c6 : v4 = a2 := by first | exact c6 | exact Int.not_le.mp c6 | exact Int.not_lt.mp c6 | exact Decidable.not_not.mp c6
          refine And.intro (fun c8 => ?_) (fun c8 => ?_)
          · have c8 : a1 < 0 := c8
            show jGo E l 89 229 229 _ 39 [.inr (.inr (.inl 176)), .inl a1, .inl a2, .inl x3, .inl x4] [] 229 jr0 h
            refine jGo_blk qX12_firstBehind_39 ?_
            refine And.intro (fun c9 => ?_) (fun c9 => ?_)
            · have c9 : x3 < 0 := c9
              show jGo E l 89 229 229 _ 53 [.inr (.inr (.inl 176)), .inl a1, .inl a2, .inl x3, .inl x4] [] 229 jr0 h
              refine jGo_blk qX12_firstBehind_53 ?_
              show jGo E l 89 229 229 _ 56 [.inr (.inr (.inl 176)), .inl a1, .inl a2, .inl x4, .inl x4] [] 229 jr0 h
              refine jGo_blk qX12_firstBehind_56 ?_
              have e10 : jw32 (x4 + 1) = x4 + 1 := j32e (by omega) (by omega)
              show jGo E l 89 229 229 _ 5 [.inr (.inr (.inl 176)), .inl a1, .inl a2, .inl x4, .inl (jw32 (x4 + 1))] [] 229 jr0 h
              exact ih x4 (jw32 (x4 + 1)) (by omega) (by omega) (by omega)
            · have c9 : 0 ≤ x3 := by first | exact c9 | exact Int.not_le.mp c9 | exact Int.not_lt.mp c9 | exact Decidable.not_not.mp c9
              refine st_cv (na := 2) (st := [.inl x3, .inl x4, .inr (.inr (.inl 176))]) jo_176 rfl rfl rfl (c_X12_isFirst x4 x3 h (by omega) (by omega)) rfl ?_
              rintro _ _ _ ⟨rfl, rfl, t11, rfl, ht11, zt11⟩ kt11
              have kt11 : -2147483648 ≤ t11 ∧ t11 ≤ 2147483647 := kt11
              have ht11 : 0 ≤ t11 ∧ t11 ≤ 1 := ht11
              have zt11 : (t11 = 1 ∧ (99 - h 190 x4) * 16 + x4 < (99 - h 190 x3) * 16 + x3) ∨ (t11 = 0 ∧ ¬ ((99 - h 190 x4) * 16 + x4 < (99 - h 190 x3) * 16 + x3)) := zt11
              refine And.intro (fun c13 => ?_) (fun c13 => ?_)
              · have c13 : t11 = 0 := c13
                show jGo E l 89 229 229 _ 56 [.inr (.inr (.inl 176)), .inl a1, .inl a2, .inl x3, .inl x4] [] 229 jr0 h
                refine jGo_blk qX12_firstBehind_56 ?_
                have e14 : jw32 (x4 + 1) = x4 + 1 := j32e (by omega) (by omega)
                show jGo E l 89 229 229 _ 5 [.inr (.inr (.inl 176)), .inl a1, .inl a2, .inl x3, .inl (jw32 (x4 + 1))] [] 229 jr0 h
                exact ih x3 (jw32 (x4 + 1)) (by omega) (by omega) (by omega)
              · have c13 : ¬ t11 = 0 := by first | exact c13 | exact Int.not_le.mp c13 | exact Int.not_lt.mp c13 | exact Decidable.not_not.mp c13
                show jGo E l 89 229 229 _ 53 [.inr (.inr (.inl 176)), .inl a1, .inl a2, .inl x3, .inl x4] [] 229 jr0 h
                refine jGo_blk qX12_firstBehind_53 ?_
                show jGo E l 89 229 229 _ 56 [.inr (.inr (.inl 176)), .inl a1, .inl a2, .inl x4, .inl x4] [] 229 jr0 h
                refine jGo_blk qX12_firstBehind_56 ?_
                have e15 : jw32 (x4 + 1) = x4 + 1 := j32e (by omega) (by omega)
                show jGo E l 89 229 229 _ 5 [.inr (.inr (.inl 176)), .inl a1, .inl a2, .inl x4, .inl (jw32 (x4 + 1))] [] 229 jr0 h
                exact ih x4 (jw32 (x4 + 1)) (by omega) (by omega) (by omega)
          · have c8 : 0 ≤ a1 := by first | exact c8 | exact Int.not_le.mp c8 | exact Int.not_lt.mp c8 | exact Decidable.not_not.mp c8
            refine st_cv (na := 2) (st := [.inl x4, .inl a1, .inr (.inr (.inl 176))]) jo_176 rfl rfl rfl (c_X12_isFirst a1 x4 h (by omega) (by omega)) rfl ?_
            rintro _ _ _ ⟨rfl, rfl, t16, rfl, ht16, zt16⟩ kt16
            have kt16 : -2147483648 ≤ t16 ∧ t16 ≤ 2147483647 := kt16
            have ht16 : 0 ≤ t16 ∧ t16 ≤ 1 := ht16
            have zt16 : (t16 = 1 ∧ (99 - h 190 a1) * 16 + a1 < (99 - h 190 x4) * 16 + x4) ∨ (t16 = 0 ∧ ¬ ((99 - h 190 a1) * 16 + a1 < (99 - h 190 x4) * 16 + x4)) := zt16
            refine And.intro (fun c18 => ?_) (fun c18 => ?_)
            · have c18 : t16 = 0 := c18
              show jGo E l 89 229 229 _ 56 [.inr (.inr (.inl 176)), .inl a1, .inl a2, .inl x3, .inl x4] [] 229 jr0 h
              refine jGo_blk qX12_firstBehind_56 ?_
              have e19 : jw32 (x4 + 1) = x4 + 1 := j32e (by omega) (by omega)
              show jGo E l 89 229 229 _ 5 [.inr (.inr (.inl 176)), .inl a1, .inl a2, .inl x3, .inl (jw32 (x4 + 1))] [] 229 jr0 h
              exact ih x3 (jw32 (x4 + 1)) (by omega) (by omega) (by omega)
            · have c18 : ¬ t16 = 0 := by first | exact c18 | exact Int.not_le.mp c18 | exact Int.not_lt.mp c18 | exact Decidable.not_not.mp c18
              show jGo E l 89 229 229 _ 39 [.inr (.inr (.inl 176)), .inl a1, .inl a2, .inl x3, .inl x4] [] 229 jr0 h
              refine jGo_blk qX12_firstBehind_39 ?_
              refine And.intro (fun c20 => ?_) (fun c20 => ?_)
              · have c20 : x3 < 0 := c20
                show jGo E l 89 229 229 _ 53 [.inr (.inr (.inl 176)), .inl a1, .inl a2, .inl x3, .inl x4] [] 229 jr0 h
                refine jGo_blk qX12_firstBehind_53 ?_
                show jGo E l 89 229 229 _ 56 [.inr (.inr (.inl 176)), .inl a1, .inl a2, .inl x4, .inl x4] [] 229 jr0 h
                refine jGo_blk qX12_firstBehind_56 ?_
                have e21 : jw32 (x4 + 1) = x4 + 1 := j32e (by omega) (by omega)
                show jGo E l 89 229 229 _ 5 [.inr (.inr (.inl 176)), .inl a1, .inl a2, .inl x4, .inl (jw32 (x4 + 1))] [] 229 jr0 h
                exact ih x4 (jw32 (x4 + 1)) (by omega) (by omega) (by omega)
              · have c20 : 0 ≤ x3 := by first | exact c20 | exact Int.not_le.mp c20 | exact Int.not_lt.mp c20 | exact Decidable.not_not.mp c20
                refine st_cv (na := 2) (st := [.inl x3, .inl x4, .inr (.inr (.inl 176))]) jo_176 rfl rfl rfl (c_X12_isFirst x4 x3 h (by omega) (by omega)) rfl ?_
                rintro _ _ _ ⟨rfl, rfl, t22, rfl, ht22, zt22⟩ kt22
                have kt22 : -2147483648 ≤ t22 ∧ t22 ≤ 2147483647 := kt22
                have ht22 : 0 ≤ t22 ∧ t22 ≤ 1 := ht22
                have zt22 : (t22 = 1 ∧ (99 - h 190 x4) * 16 + x4 < (99 - h 190 x3) * 16 + x3) ∨ (t22 = 0 ∧ ¬ ((99 - h 190 x4) * 16 + x4 < (99 - h 190 x3) * 16 + x3)) := zt22
                refine And.intro (fun c24 => ?_) (fun c24 => ?_)
                · have c24 : t22 = 0 := c24
                  show jGo E l 89 229 229 _ 56 [.inr (.inr (.inl 176)), .inl a1, .inl a2, .inl x3, .inl x4] [] 229 jr0 h
                  refine jGo_blk qX12_firstBehind_56 ?_
                  have e25 : jw32 (x4 + 1) = x4 + 1 := j32e (by omega) (by omega)
                  show jGo E l 89 229 229 _ 5 [.inr (.inr (.inl 176)), .inl a1, .inl a2, .inl x3, .inl (jw32 (x4 + 1))] [] 229 jr0 h
                  exact ih x3 (jw32 (x4 + 1)) (by omega) (by omega) (by omega)
                · have c24 : ¬ t22 = 0 := by first | exact c24 | exact Int.not_le.mp c24 | exact Int.not_lt.mp c24 | exact Decidable.not_not.mp c24
                  show jGo E l 89 229 229 _ 53 [.inr (.inr (.inl 176)), .inl a1, .inl a2, .inl x3, .inl x4] [] 229 jr0 h
                  refine jGo_blk qX12_firstBehind_53 ?_
                  show jGo E l 89 229 229 _ 56 [.inr (.inr (.inl 176)), .inl a1, .inl a2, .inl x4, .inl x4] [] 229 jr0 h
                  refine jGo_blk qX12_firstBehind_56 ?_
                  have e26 : jw32 (x4 + 1) = x4 + 1 := j32e (by omega) (by omega)
                  show jGo E l 89 229 229 _ 5 [.inr (.inr (.inl 176)), .inl a1, .inl a2, .inl x4, .inl (jw32 (x4 + 1))] [] 229 jr0 h
                  exact ih x4 (jw32 (x4 + 1)) (by omega) (by omega) (by omega)
  refine jGo_blk qX12_firstBehind_0 ?_
  show jGo E l 89 229 229 _ 5 [.inr (.inr (.inl 176)), .inl a1, .inl a2, .inl (-1), .inl 0] [] 229 jr0 h
  exact (key 1000000000000) (-1) 0 (by omega) (by omega) (by omega)

def w_X12_moveAll (i k : Int) : Prop := (192 ≤ i ∧ i ≤ 196) ∨ (198 ≤ i ∧ i ≤ 200) ∨ (i = 202)
def k_X12_moveAll (h : JH) (v : Option JV) (r' g : JH) : Prop := r' = jr0 ∧ jfr w_X12_moveAll h g ∧ ∃ x : Int, v = some (.inl x) ∧ (True) ∧ (True)
set_option maxHeartbeats 4000000 in
theorem c_X12_moveAll {E : JE} {l : Launch} (h : JH) : jMt E l 90 [.inr (.inr (.inl 176))] 229 jr0 h (k_X12_moveAll h) := by
  refine jMt0 (nL := 4) (ls := [.inr (.inr (.inl 176)), .inr (.inr (.inr ())), .inr (.inr (.inr ())), .inr (.inr (.inr ()))]) (by decide +kernel) (by decide +kernel) (by decide +kernel) rfl rfl ?_
  have f0 : jfr w_X12_moveAll h h := jfr_rf _ _
  have key : ∀ N : Nat, (∀ (x1 : Int) (x2 : Int) (x3 : JV) (g : JH), ((-1) ≤ x2 ∧ x2 ≤ 5) → jfr w_X12_moveAll h g → (x2 - (-1)) < (N : Int) → jGo E l 90 229 229 (jRK (k_X12_moveAll h)) 4 [.inr (.inr (.inl 176)), .inl x1, .inl x2, x3] [] 229 jr0 g) := by
    intro N
    induction N with
    | zero => exact fun _ _ _ _ hi _ hN => absurd hN (by omega)
    | succ N ih =>
      intro x1 x2 x3 g hi hf hN
      refine jGo_ok (fun hls _ => ?_)
      have rx1 : -2147483648 ≤ x1 ∧ x1 ≤ 2147483647 := hls (.inl x1) (by simp)
      refine jGo_blk qX12_moveAll_4 ?_
      refine And.intro (fun c1 => ?_) (fun c1 => ?_)
      · have c1 : x2 < 0 := c1
        show jGo E l 90 229 229 _ 121 [.inr (.inr (.inl 176)), .inl x1, .inl x2, x3] [] 229 jr0 g
        refine jGo_blk qX12_moveAll_121 ?_
        refine st_cv (na := 2) (st := [.inl 0, .inl (-1), .inr (.inr (.inl 176))]) jo_176 rfl rfl rfl (c_X12_firstBehind (-1) 0 g (by omega)) rfl ?_
        rintro _ _ _ ⟨rfl, rfl, t2, rfl, ht2, zt2⟩ kt2
        have kt2 : -2147483648 ≤ t2 ∧ t2 ≤ 2147483647 := kt2
        have ht2 : -1 ≤ t2 ∧ t2 ≤ 15 := ht2
        have zt2 : t2 = -1 ∨ (0 ≤ t2 ∧ t2 ≤ 15 ∧ ((-1 : Int) < 0 ∨ (99 - g 190 (-1 : Int)) * 16 + (-1 : Int) < (99 - g 190 t2) * 16 + t2)) := zt2
        refine st_gr jo_176 jr_176_28 ?_
        refine st_ai jo_202 (show 0 ≤ 0 by omega) (show 0 < ((6 : Nat) : Int) by omega) (fun v4 ev4 b5 => ?_)
        have ev4 : v4 = g 202 0 := ev4
        have b5 := (jba_202 0 _).1 b5
        refine And.intro (fun c6 => ?_) (fun c6 => ?_)
        · have c6 : 0 ≤ v4 := c6
          show jGo E l 90 229 229 _ 147 [.inr (.inr (.inl 176)), .inl x1, .inl t2, x3] [] 229 jr0 g
          refine jGo_blk qX12_moveAll_147 ?_
          exact st_r0 (ls := []) ⟨rfl, rfl, hf, x1, rfl, trivial, trivial⟩
        · have c6 : v4 < 0 := by first | exact c6 | exact Int.not_le.mp c6 | exact Int.not_lt.mp c6 | exact Decidable.not_not.mp c6
          refine And.intro (fun c7 => ?_) (fun c7 => ?_)
          · have c7 : t2 < 0 := c7
            show jGo E l 90 229 229 _ 147 [.inr (.inr (.inl 176)), .inl x1, .inl t2, x3] [] 229 jr0 g
            refine jGo_blk qX12_moveAll_147 ?_
            exact st_r0 (ls := []) ⟨rfl, rfl, hf, x1, rfl, trivial, trivial⟩
          · have c7 : 0 ≤ t2 := by first | exact c7 | exact Int.not_le.mp c7 | exact Int.not_lt.mp c7 | exact Decidable.not_not.mp c7
            refine st_cv (na := 2) (st := [.inl 0, .inl t2, .inr (.inr (.inl 176))]) jo_176 rfl rfl rfl (c_X12_enter t2 0 g (by omega) (by omega)) rfl ?_
            rintro _ _ g9 ⟨rfl, ft8, rfl, zt8⟩ kt8
            have fg9 : jfr w_X12_moveAll h g9 := jfr_tr hf ft8 (fun i k q => by unfold w_X12_enter at q; unfold w_X12_moveAll; omega)
            show jGo E l 90 229 229 _ 147 [.inr (.inr (.inl 176)), .inl x1, .inl t2, x3] [] 229 jr0 g9
            refine jGo_blk qX12_moveAll_147 ?_
            exact st_r0 (ls := []) ⟨rfl, rfl, fg9, x1, rfl, trivial, trivial⟩
      · have c1 : 0 ≤ x2 := by first | exact c1 | exact Int.not_le.mp c1 | exact Int.not_lt.mp c1 | exact Decidable.not_not.mp c1
        refine st_gr jo_176 jr_176_28 ?_
        refine st_ai jo_202 (show 0 ≤ x2 by omega) (show x2 < ((6 : Nat) : Int) by omega) (fun v10 ev10 b11 => ?_)
        have ev10 : v10 = g 202 x2 := ev10
        have b11 := (jba_202 x2 _).1 b11
        refine And.intro (fun c12 => ?_) (fun c12 => ?_)
        · have c12 : v10 < 0 := c12
          show jGo E l 90 229 229 _ 115 [.inr (.inr (.inl 176)), .inl x1, .inl x2, .inl v10] [] 229 jr0 g
          refine jGo_blk qX12_moveAll_115 ?_
          have e13 : jw32 (x2 + (-1)) = x2 + (-1) := j32e (by omega) (by omega)
          show jGo E l 90 229 229 _ 4 [.inr (.inr (.inl 176)), .inl x1, .inl (jw32 (x2 + (-1))), .inl v10] [] 229 jr0 g
          exact ih x1 (jw32 (x2 + (-1))) (.inl v10) g (by omega) hf (by omega)
        · have c12 : 0 ≤ v10 := by first | exact c12 | exact Int.not_le.mp c12 | exact Int.not_lt.mp c12 | exact Decidable.not_not.mp c12
          refine And.intro (fun c14 => ?_) (fun c14 => ?_)
          · have c14 : v10 = 100 := c14
            show jGo E l 90 229 229 _ 115 [.inr (.inr (.inl 176)), .inl x1, .inl x2, .inl v10] [] 229 jr0 g
            refine jGo_blk qX12_moveAll_115 ?_
            have e15 : jw32 (x2 + (-1)) = x2 + (-1) := j32e (by omega) (by omega)
            show jGo E l 90 229 229 _ 4 [.inr (.inr (.inl 176)), .inl x1, .inl (jw32 (x2 + (-1))), .inl v10] [] 229 jr0 g
            exact ih x1 (jw32 (x2 + (-1))) (.inl v10) g (by omega) hf (by omega)
          · have c14 : ¬ v10 = 100 := by first | exact c14 | exact Int.not_le.mp c14 | exact Int.not_lt.mp c14 | exact Decidable.not_not.mp c14
            refine st_gr jo_176 jr_176_22 ?_
            refine st_bi jo_196 (show 0 ≤ v10 by omega) (show v10 < ((16 : Nat) : Int) by omega) (fun v16 ev16 b17 => ?_)
            have ev16 : v16 = g 196 v10 := ev16
            have b17 := (jba_196 v10 _).1 b17
            refine And.intro (fun c18 => ?_) (fun c18 => ?_)
            · have c18 : v16 = 0 := c18
              show jGo E l 90 229 229 _ 115 [.inr (.inr (.inl 176)), .inl x1, .inl x2, .inl v10] [] 229 jr0 g
              refine jGo_blk qX12_moveAll_115 ?_
              have e19 : jw32 (x2 + (-1)) = x2 + (-1) := j32e (by omega) (by omega)
              show jGo E l 90 229 229 _ 4 [.inr (.inr (.inl 176)), .inl x1, .inl (jw32 (x2 + (-1))), .inl v10] [] 229 jr0 g
              exact ih x1 (jw32 (x2 + (-1))) (.inl v10) g (by omega) hf (by omega)
            · have c18 : ¬ v16 = 0 := by first | exact c18 | exact Int.not_le.mp c18 | exact Int.not_lt.mp c18 | exact Decidable.not_not.mp c18
              refine st_gr jo_176 jr_176_21 ?_
              refine st_ai jo_195 (show 0 ≤ v10 by omega) (show v10 < ((16 : Nat) : Int) by omega) (fun v20 ev20 b21 => ?_)
              have ev20 : v20 = g 195 v10 := ev20
              have b21 := (jba_195 v10 _).1 b21
              refine And.intro (fun c22 => ?_) (fun c22 => ?_)
              · have c22 : v20 ≤ 0 := c22
                show jGo E l 90 229 229 _ 46 [.inr (.inr (.inl 176)), .inl x1, .inl x2, .inl v10] [] 229 jr0 g
                refine jGo_blk qX12_moveAll_46 ?_
                refine And.intro (fun c23 => ?_) (fun c23 => ?_)
                · have c23 : ¬ x2 = 5 := c23
                  show jGo E l 90 229 229 _ 89 [.inr (.inr (.inl 176)), .inl x1, .inl x2, .inl v10] [] 229 jr0 g
                  refine jGo_blk qX12_moveAll_89 ?_
                  refine st_gr jo_176 jr_176_28 ?_
                  have e24 : jw32 (x2 + 1) = x2 + 1 := j32e (by omega) (by omega)
                  refine st_ai jo_202 (show 0 ≤ jw32 (x2 + 1) by omega) (show jw32 (x2 + 1) < ((6 : Nat) : Int) by omega) (fun v25 ev25 b26 => ?_)
                  have ev25 : v25 = g 202 (jw32 (x2 + 1)) := ev25
                  have b26 := (jba_202 (jw32 (x2 + 1)) _).1 b26
                  refine And.intro (fun c27 => ?_) (fun c27 => ?_)
                  · have c27 : 0 ≤ v25 := c27
                    show jGo E l 90 229 229 _ 115 [.inr (.inr (.inl 176)), .inl x1, .inl x2, .inl v10] [] 229 jr0 g
                    refine jGo_blk qX12_moveAll_115 ?_
                    have e28 : jw32 (x2 + (-1)) = x2 + (-1) := j32e (by omega) (by omega)
                    show jGo E l 90 229 229 _ 4 [.inr (.inr (.inl 176)), .inl x1, .inl (jw32 (x2 + (-1))), .inl v10] [] 229 jr0 g
                    exact ih x1 (jw32 (x2 + (-1))) (.inl v10) g (by omega) hf (by omega)
                  · have c27 : v25 < 0 := by first | exact c27 | exact Int.not_le.mp c27 | exact Int.not_lt.mp c27 | exact Decidable.not_not.mp c27
                    refine st_gr jo_176 jr_176_28 ?_
                    refine st_si jo_202 (show 0 ≤ x2 by omega) (show x2 < ((6 : Nat) : Int) by omega) (fun hx => (jba_202 _ _).2 (show (-1 ≤ (-1) ∧ (-1) ≤ 15) ∨ (-1) = 100 by omega)) (fun g29 eg29 => ?_)
                    have eg29 : g29 = jup g 202 x2 (-1) := eg29
                    have fg29 : jfr w_X12_moveAll h g29 := jfr_up hf eg29 (by unfold w_X12_moveAll; omega)
                    have e30 : g29 202 x2 = (-1) := jup_s eg29
                    have e31 : jw32 (x2 + 1) = x2 + 1 := j32e (by omega) (by omega)
                    refine st_cv (na := 2) (st := [.inl (jw32 (x2 + 1)), .inl v10, .inr (.inr (.inl 176))]) jo_176 rfl rfl rfl (c_X12_enter v10 (jw32 (x2 + 1)) g29 (by omega) (by omega)) rfl ?_
                    rintro _ _ g33 ⟨rfl, ft32, rfl, zt32⟩ kt32
                    have fg33 : jfr w_X12_moveAll h g33 := jfr_tr fg29 ft32 (fun i k q => by unfold w_X12_enter at q; unfold w_X12_moveAll; omega)
                    show jGo E l 90 229 229 _ 115 [.inr (.inr (.inl 176)), .inl x1, .inl x2, .inl v10] [] 229 jr0 g33
                    refine jGo_blk qX12_moveAll_115 ?_
                    have e34 : jw32 (x2 + (-1)) = x2 + (-1) := j32e (by omega) (by omega)
                    show jGo E l 90 229 229 _ 4 [.inr (.inr (.inl 176)), .inl x1, .inl (jw32 (x2 + (-1))), .inl v10] [] 229 jr0 g33
                    exact ih x1 (jw32 (x2 + (-1))) (.inl v10) g33 (by omega) fg33 (by omega)
                · have c23 : x2 = 5 := by first | exact c23 | exact Int.not_le.mp c23 | exact Int.not_lt.mp c23 | exact Decidable.not_not.mp c23
                  refine st_gr jo_176 jr_176_28 ?_
                  refine st_si jo_202 (show 0 ≤ x2 by omega) (show x2 < ((6 : Nat) : Int) by omega) (fun hx => (jba_202 _ _).2 (show (-1 ≤ (-1) ∧ (-1) ≤ 15) ∨ (-1) = 100 by omega)) (fun g35 eg35 => ?_)
                  have eg35 : g35 = jup g 202 x2 (-1) := eg35
                  have fg35 : jfr w_X12_moveAll h g35 := jfr_up hf eg35 (by unfold w_X12_moveAll; omega)
                  have e36 : g35 202 x2 = (-1) := jup_s eg35
                  refine st_gr jo_176 jr_176_18 ?_
                  refine st_si jo_192 (show 0 ≤ v10 by omega) (show v10 < ((16 : Nat) : Int) by omega) (fun hx => (jba_192 _ _).2 (show 0 ≤ 2 ∧ 2 ≤ 3 by omega)) (fun g37 eg37 => ?_)
                  have eg37 : g37 = jup g35 192 v10 2 := eg37
                  have fg37 : jfr w_X12_moveAll h g37 := jfr_up fg35 eg37 (by unfold w_X12_moveAll; omega)
                  have e38 : g37 192 v10 = 2 := jup_s eg37
                  refine st_gr jo_176 jr_176_19 ?_
                  refine st_si jo_193 (show 0 ≤ v10 by omega) (show v10 < ((16 : Nat) : Int) by omega) (fun hx => (jba_193 _ _).2 (show -9 ≤ (-9) ∧ (-9) ≤ 5 by omega)) (fun g39 eg39 => ?_)
                  have eg39 : g39 = jup g37 193 v10 (-9) := eg39
                  have fg39 : jfr w_X12_moveAll h g39 := jfr_up fg37 eg39 (by unfold w_X12_moveAll; omega)
                  have e40 : g39 193 v10 = (-9) := jup_s eg39
                  refine st_gr jo_176 jr_176_24 ?_
                  refine st_gi jo_176 (fun v41 ev41 b42 => ?_)
                  have ev41 : v41 = g39 176 0 := ev41
                  have b42 := (jbf_12_0 jo_176 _).1 b42
                  have e43 : g39 176 0 = g37 176 0 := jup_o eg39 (by omega)
                  have e44 : g37 176 0 = g35 176 0 := jup_o eg37 (by omega)
                  have e45 : g35 176 0 = g 176 0 := jup_o eg35 (by omega)
                  refine st_si jo_198 (show 0 ≤ v10 by omega) (show v10 < ((16 : Nat) : Int) by omega) (fun hx => (jba_198 _ _).2 hx) (fun g46 eg46 => ?_)
                  have eg46 : g46 = jup g39 198 v10 v41 := eg46
                  have fg46 : jfr w_X12_moveAll h g46 := jfr_up fg39 eg46 (by unfold w_X12_moveAll; omega)
                  have e47 : g46 198 v10 = v41 := jup_s eg46
                  show jGo E l 90 229 229 _ 115 [.inr (.inr (.inl 176)), .inl (jw32 (x1 + 1)), .inl x2, .inl v10] [] 229 jr0 g46
                  refine jGo_blk qX12_moveAll_115 ?_
                  have e48 : jw32 (x2 + (-1)) = x2 + (-1) := j32e (by omega) (by omega)
                  show jGo E l 90 229 229 _ 4 [.inr (.inr (.inl 176)), .inl (jw32 (x1 + 1)), .inl (jw32 (x2 + (-1))), .inl v10] [] 229 jr0 g46
                  exact ih (jw32 (x1 + 1)) (jw32 (x2 + (-1))) (.inl v10) g46 (by omega) fg46 (by omega)
              · have c22 : 0 < v20 := by first | exact c22 | exact Int.not_le.mp c22 | exact Int.not_lt.mp c22 | exact Decidable.not_not.mp c22
                show jGo E l 90 229 229 _ 115 [.inr (.inr (.inl 176)), .inl x1, .inl x2, .inl v10] [] 229 jr0 g
                refine jGo_blk qX12_moveAll_115 ?_
                have e49 : jw32 (x2 + (-1)) = x2 + (-1) := j32e (by omega) (by omega)
                show jGo E l 90 229 229 _ 4 [.inr (.inr (.inl 176)), .inl x1, .inl (jw32 (x2 + (-1))), .inl v10] [] 229 jr0 g
                exact ih x1 (jw32 (x2 + (-1))) (.inl v10) g (by omega) hf (by omega)
  refine jGo_blk qX12_moveAll_0 ?_
  show jGo E l 90 229 229 _ 4 [.inr (.inr (.inl 176)), .inl 0, .inl 5, .inr (.inr (.inr ()))] [] 229 jr0 h
  exact (key 1000000000000) 0 5 (.inr (.inr (.inr ()))) h (by omega) f0 (by omega)

def w_X12_workAll (i k : Int) : Prop := (i = 195) ∨ (i = 176 ∧ k = 32)
def k_X12_workAll (h : JH) (v : Option JV) (r' g : JH) : Prop := r' = jr0 ∧ jfr w_X12_workAll h g ∧ v = none ∧ (True)
set_option maxHeartbeats 4000000 in
theorem c_X12_workAll {E : JE} {l : Launch} (h : JH) : jMt E l 92 [.inr (.inr (.inl 176))] 229 jr0 h (k_X12_workAll h) := by
  refine jMt0 (nL := 8) (ls := [.inr (.inr (.inl 176)), .inr (.inr (.inr ())), .inr (.inr (.inr ())), .inr (.inr (.inr ())), .inr (.inr (.inr ())), .inr (.inr (.inr ())), .inr (.inr (.inr ())), .inr (.inr (.inr ()))]) (by decide +kernel) (by decide +kernel) (by decide +kernel) rfl rfl ?_
  have f0 : jfr w_X12_workAll h h := jfr_rf _ _
  have key : ∀ N : Nat, (∀ (x1 : Int) (x2 : Int) (x3 : Int) (x4 : Int) (x5 : JV) (x6 : JV) (x7 : JV) (g : JH), (0 ≤ x1 ∧ x1 ≤ 200 ∧ 0 ≤ x2 ∧ x2 ≤ 1 ∧ 0 ≤ x3 ∧ x3 ≤ 200 ∧ 0 ≤ x4 ∧ x4 ≤ 4) → jfr w_X12_workAll h g → (4 - x4) * 1000000 + 999999 < (N : Int) → jGo E l 92 229 229 (jRK (k_X12_workAll h)) 44 [.inr (.inr (.inl 176)), .inl x1, .inl x2, .inl x3, .inl x4, x5, x6, x7] [] 229 jr0 g) ∧
      (∀ (x1 : Int) (x2 : Int) (x3 : Int) (x4 : Int) (x5 : Int) (x6 : Int) (x7 : JV) (m9 : Int) (g : JH), (0 ≤ x1 ∧ x1 ≤ 200 ∧ 0 ≤ x2 ∧ x2 ≤ 1 ∧ 0 ≤ x3 ∧ x3 ≤ 200 ∧ 0 ≤ x4 ∧ x4 ≤ 3 ∧ (-1) ≤ x6 ∧ x6 ≤ 15) → (0 ≤ m9 ∧ m9 ≤ 1700 ∧ (x6 < 0 ∨ 1700 - ((99 - g 190 x6) * 16 + x6) ≤ m9)) → jfr w_X12_workAll h g → (4 - x4) * 1000000 + m9 < (N : Int) → jGo E l 92 229 229 (jRK (k_X12_workAll h)) 70 [.inr (.inr (.inl 176)), .inl x1, .inl x2, .inl x3, .inl x4, .inl x5, .inl x6, x7] [] 229 jr0 g) := by
    intro N
    induction N with
    | zero => exact ⟨fun _ _ _ _ _ _ _ _ hi _ hN => absurd hN (by omega), fun _ _ _ _ _ _ _ _ _ hi hx0 _ hN => absurd hN (by omega)⟩
    | succ N ih =>
      refine ⟨?_, ?_⟩
      · intro x1 x2 x3 x4 x5 x6 x7 g hi hf hN
        refine jGo_blk qX12_workAll_44 ?_
        refine And.intro (fun c1 => ?_) (fun c1 => ?_)
        · have c1 : 4 ≤ x4 := c1
          show jGo E l 92 229 229 _ 189 [.inr (.inr (.inl 176)), .inl x1, .inl x2, .inl x3, .inl x4, x5, x6, x7] [] 229 jr0 g
          refine jGo_blk qX12_workAll_189 ?_
          exact ⟨rfl, rfl, hf, rfl, trivial⟩
        · have c1 : x4 < 4 := by first | exact c1 | exact Int.not_le.mp c1 | exact Int.not_lt.mp c1 | exact Decidable.not_not.mp c1
          refine st_gi jo_176 (fun v2 ev2 b3 => ?_)
          have ev2 : v2 = g 176 0 := ev2
          have b3 := (jbf_12_0 jo_176 _).1 b3
          refine st_cv (na := 2) (st := [.inl v2, .inl x4, .inr (.inr (.inl 176))]) jo_176 rfl rfl rfl (c_X12_handsAt x4 v2 g (by omega) (by omega)) rfl ?_
          rintro _ _ _ ⟨rfl, rfl, t4, rfl, ht4, zt4⟩ kt4
          have kt4 : -2147483648 ≤ t4 ∧ t4 ≤ 2147483647 := kt4
          have ht4 : 0 ≤ t4 ∧ t4 ≤ 400 := ht4
          refine st_cv (na := 2) (st := [.inl 1, .inl (-1), .inr (.inr (.inl 176))]) jo_176 rfl rfl rfl (c_X12_firstBehind (-1) 1 g (by omega)) rfl ?_
          rintro _ _ _ ⟨rfl, rfl, t6, rfl, ht6, zt6⟩ kt6
          have kt6 : -2147483648 ≤ t6 ∧ t6 ≤ 2147483647 := kt6
          have ht6 : -1 ≤ t6 ∧ t6 ≤ 15 := ht6
          have zt6 : t6 = -1 ∨ (0 ≤ t6 ∧ t6 ≤ 15 ∧ ((-1 : Int) < 0 ∨ (99 - g 190 (-1 : Int)) * 16 + (-1 : Int) < (99 - g 190 t6) * 16 + t6)) := zt6
          show jGo E l 92 229 229 _ 70 [.inr (.inr (.inl 176)), .inl x1, .inl x2, .inl x3, .inl x4, .inl t4, .inl t6, x7] [] 229 jr0 g
          refine jGo_bd (fun hbd8 => ?_)
          have b9 := (jba_190 t6 _).1 (hbd8 190 t6)
          exact ih.2 x1 x2 x3 x4 t4 t6 x7 1700 g (by omega) (by omega) hf (by omega)
      · intro x1 x2 x3 x4 x5 x6 x7 m9 g hi hx0 hf hN
        refine jGo_ok (fun hls _ => ?_)
        have rx5 : -2147483648 ≤ x5 ∧ x5 ≤ 2147483647 := hls (.inl x5) (by simp)
        refine jGo_blk qX12_workAll_70 ?_
        refine And.intro (fun c10 => ?_) (fun c10 => ?_)
        · have c10 : x6 < 0 := c10
          show jGo E l 92 229 229 _ 172 [.inr (.inr (.inl 176)), .inl x1, .inl x2, .inl x3, .inl x4, .inl x5, .inl x6, x7] [] 229 jr0 g
          refine jGo_blk qX12_workAll_172 ?_
          refine st_gi jo_176 (fun v11 ev11 b12 => ?_)
          have ev11 : v11 = g 176 32 := ev11
          have b12 := (jbf_12_32 jo_176 _).1 b12
          refine st_pi jo_176 (fun hx => (jbf_12_32 jo_176 _).2 hx) (fun g13 eg13 => ?_)
          have eg13 : g13 = jup g 176 32 (jw32 (v11 + x5)) := eg13
          have fg13 : jfr w_X12_workAll h g13 := jfr_up hf eg13 (by unfold w_X12_workAll; omega)
          have e14 : g13 176 32 = jw32 (v11 + x5) := jup_s eg13
          have e15 : jw32 (x4 + 1) = x4 + 1 := j32e (by omega) (by omega)
          show jGo E l 92 229 229 _ 44 [.inr (.inr (.inl 176)), .inl x1, .inl x2, .inl x3, .inl (jw32 (x4 + 1)), .inl x5, .inl x6, x7] [] 229 jr0 g13
          exact ih.1 x1 x2 x3 (jw32 (x4 + 1)) (.inl x5) (.inl x6) x7 g13 (by omega) fg13 (by omega)
        · have c10 : 0 ≤ x6 := by first | exact c10 | exact Int.not_le.mp c10 | exact Int.not_lt.mp c10 | exact Decidable.not_not.mp c10
          refine And.intro (fun c16 => ?_) (fun c16 => ?_)
          · have c16 : x2 = 0 := c16
            show jGo E l 92 229 229 _ 172 [.inr (.inr (.inl 176)), .inl x1, .inl x2, .inl x3, .inl x4, .inl x5, .inl x6, x7] [] 229 jr0 g
            refine jGo_blk qX12_workAll_172 ?_
            refine st_gi jo_176 (fun v17 ev17 b18 => ?_)
            have ev17 : v17 = g 176 32 := ev17
            have b18 := (jbf_12_32 jo_176 _).1 b18
            refine st_pi jo_176 (fun hx => (jbf_12_32 jo_176 _).2 hx) (fun g19 eg19 => ?_)
            have eg19 : g19 = jup g 176 32 (jw32 (v17 + x5)) := eg19
            have fg19 : jfr w_X12_workAll h g19 := jfr_up hf eg19 (by unfold w_X12_workAll; omega)
            have e20 : g19 176 32 = jw32 (v17 + x5) := jup_s eg19
            have e21 : jw32 (x4 + 1) = x4 + 1 := j32e (by omega) (by omega)
            show jGo E l 92 229 229 _ 44 [.inr (.inr (.inl 176)), .inl x1, .inl x2, .inl x3, .inl (jw32 (x4 + 1)), .inl x5, .inl x6, x7] [] 229 jr0 g19
            exact ih.1 x1 x2 x3 (jw32 (x4 + 1)) (.inl x5) (.inl x6) x7 g19 (by omega) fg19 (by omega)
          · have c16 : ¬ x2 = 0 := by first | exact c16 | exact Int.not_le.mp c16 | exact Int.not_lt.mp c16 | exact Decidable.not_not.mp c16
            refine st_gr jo_176 jr_176_22 ?_
            refine st_bi jo_196 (show 0 ≤ x6 by omega) (show x6 < ((16 : Nat) : Int) by omega) (fun v22 ev22 b23 => ?_)
            have ev22 : v22 = g 196 x6 := ev22
            have b23 := (jba_196 x6 _).1 b23
            refine And.intro (fun c24 => ?_) (fun c24 => ?_)
            · have c24 : v22 = 0 := c24
              show jGo E l 92 229 229 _ 160 [.inr (.inr (.inl 176)), .inl x1, .inl x2, .inl x3, .inl x4, .inl x5, .inl x6, x7] [] 229 jr0 g
              refine jGo_blk qX12_workAll_160 ?_
              refine st_cv (na := 2) (st := [.inl 1, .inl x6, .inr (.inr (.inl 176))]) jo_176 rfl rfl rfl (c_X12_firstBehind x6 1 g (by omega)) rfl ?_
              rintro _ _ _ ⟨rfl, rfl, t25, rfl, ht25, zt25⟩ kt25
              have kt25 : -2147483648 ≤ t25 ∧ t25 ≤ 2147483647 := kt25
              have ht25 : -1 ≤ t25 ∧ t25 ≤ 15 := ht25
              have zt25 : t25 = -1 ∨ (0 ≤ t25 ∧ t25 ≤ 15 ∧ (x6 < 0 ∨ (99 - g 190 x6) * 16 + x6 < (99 - g 190 t25) * 16 + t25)) := zt25
              show jGo E l 92 229 229 _ 70 [.inr (.inr (.inl 176)), .inl x1, .inl x2, .inl x3, .inl x4, .inl x5, .inl t25, x7] [] 229 jr0 g
              refine jGo_bd (fun hbd27 => ?_)
              have b28 := (jba_190 t25 _).1 (hbd27 190 t25)
              have b29 := (jba_190 x6 _).1 (hbd27 190 x6)
              exact ih.2 x1 x2 x3 x4 x5 t25 x7 (m9 - 1) g (by omega) (by omega) hf (by omega)
            · have c24 : ¬ v22 = 0 := by first | exact c24 | exact Int.not_le.mp c24 | exact Int.not_lt.mp c24 | exact Decidable.not_not.mp c24
              refine st_gr jo_176 jr_176_20 ?_
              refine st_ai jo_194 (show 0 ≤ x6 by omega) (show x6 < ((16 : Nat) : Int) by omega) (fun v30 ev30 b31 => ?_)
              have ev30 : v30 = g 194 x6 := ev30
              have b31 := (jba_194 x6 _).1 b31
              refine And.intro (fun c32 => ?_) (fun c32 => ?_)
              · have c32 : ¬ v30 = x4 := c32
                show jGo E l 92 229 229 _ 160 [.inr (.inr (.inl 176)), .inl x1, .inl x2, .inl x3, .inl x4, .inl x5, .inl x6, x7] [] 229 jr0 g
                refine jGo_blk qX12_workAll_160 ?_
                refine st_cv (na := 2) (st := [.inl 1, .inl x6, .inr (.inr (.inl 176))]) jo_176 rfl rfl rfl (c_X12_firstBehind x6 1 g (by omega)) rfl ?_
                rintro _ _ _ ⟨rfl, rfl, t33, rfl, ht33, zt33⟩ kt33
                have kt33 : -2147483648 ≤ t33 ∧ t33 ≤ 2147483647 := kt33
                have ht33 : -1 ≤ t33 ∧ t33 ≤ 15 := ht33
                have zt33 : t33 = -1 ∨ (0 ≤ t33 ∧ t33 ≤ 15 ∧ (x6 < 0 ∨ (99 - g 190 x6) * 16 + x6 < (99 - g 190 t33) * 16 + t33)) := zt33
                show jGo E l 92 229 229 _ 70 [.inr (.inr (.inl 176)), .inl x1, .inl x2, .inl x3, .inl x4, .inl x5, .inl t33, x7] [] 229 jr0 g
                refine jGo_bd (fun hbd35 => ?_)
                have b36 := (jba_190 t33 _).1 (hbd35 190 t33)
                have b37 := (jba_190 x6 _).1 (hbd35 190 x6)
                exact ih.2 x1 x2 x3 x4 x5 t33 x7 (m9 - 1) g (by omega) (by omega) hf (by omega)
              · have c32 : v30 = x4 := by first | exact c32 | exact Int.not_le.mp c32 | exact Int.not_lt.mp c32 | exact Decidable.not_not.mp c32
                refine And.intro (fun c38 => ?_) (fun c38 => ?_)
                · have c38 : x3 ≤ x5 := c38
                  show jGo E l 92 229 229 _ 112 [.inr (.inr (.inl 176)), .inl x1, .inl x2, .inl x3, .inl x4, .inl x5, .inl x6, x7] [] 229 jr0 g
                  refine jGo_blk qX12_workAll_112 ?_
                  show jGo E l 92 229 229 _ 113 [.inr (.inr (.inl 176)), .inl x1, .inl x2, .inl x3, .inl x4, .inl x5, .inl x6, x7] [.inl x3] 229 jr0 g
                  refine jGo_blk qX12_workAll_113 ?_
                  refine st_gr jo_176 jr_176_21 ?_
                  refine st_ai jo_195 (show 0 ≤ x6 by omega) (show x6 < ((16 : Nat) : Int) by omega) (fun v39 ev39 b40 => ?_)
                  have ev39 : v39 = g 195 x6 := ev39
                  have b40 := (jba_195 x6 _).1 b40
                  refine And.intro (fun c41 => ?_) (fun c41 => ?_)
                  · have c41 : v39 ≤ x3 := c41
                    show jGo E l 92 229 229 _ 132 [.inr (.inr (.inl 176)), .inl x1, .inl x2, .inl x3, .inl x4, .inl x5, .inl x6, .inl x3] [] 229 jr0 g
                    refine jGo_blk qX12_workAll_132 ?_
                    refine st_gr jo_176 jr_176_21 ?_
                    refine st_ai jo_195 (show 0 ≤ x6 by omega) (show x6 < ((16 : Nat) : Int) by omega) (fun v42 ev42 b43 => ?_)
                    have ev42 : v42 = g 195 x6 := ev42
                    have b43 := (jba_195 x6 _).1 b43
                    show jGo E l 92 229 229 _ 139 [.inr (.inr (.inl 176)), .inl x1, .inl x2, .inl x3, .inl x4, .inl x5, .inl x6, .inl x3] [.inl v42] 229 jr0 g
                    refine jGo_blk qX12_workAll_139 ?_
                    refine st_gr jo_176 jr_176_21 ?_
                    refine st_ai jo_195 (show 0 ≤ x6 by omega) (show x6 < ((16 : Nat) : Int) by omega) (fun v44 ev44 b45 => ?_)
                    have ev44 : v44 = g 195 x6 := ev44
                    have b45 := (jba_195 x6 _).1 b45
                    refine st_si jo_195 (show 0 ≤ x6 by omega) (show x6 < ((16 : Nat) : Int) by omega) (fun hx => (jba_195 _ _).2 hx) (fun g46 eg46 => ?_)
                    have eg46 : g46 = jup g 195 x6 (jw32 (v44 - v42)) := eg46
                    have fg46 : jfr w_X12_workAll h g46 := jfr_up hf eg46 (by unfold w_X12_workAll; omega)
                    have e47 : g46 195 x6 = jw32 (v44 - v42) := jup_s eg46
                    show jGo E l 92 229 229 _ 160 [.inr (.inr (.inl 176)), .inl x1, .inl x2, .inl x3, .inl x4, .inl (jw32 (x5 - v42)), .inl x6, .inl v42] [] 229 jr0 g46
                    refine jGo_blk qX12_workAll_160 ?_
                    refine st_cv (na := 2) (st := [.inl 1, .inl x6, .inr (.inr (.inl 176))]) jo_176 rfl rfl rfl (c_X12_firstBehind x6 1 g46 (by omega)) rfl ?_
                    rintro _ _ _ ⟨rfl, rfl, t48, rfl, ht48, zt48⟩ kt48
                    have kt48 : -2147483648 ≤ t48 ∧ t48 ≤ 2147483647 := kt48
                    have ht48 : -1 ≤ t48 ∧ t48 ≤ 15 := ht48
                    have zt48 : t48 = -1 ∨ (0 ≤ t48 ∧ t48 ≤ 15 ∧ (x6 < 0 ∨ (99 - g46 190 x6) * 16 + x6 < (99 - g46 190 t48) * 16 + t48)) := zt48
                    show jGo E l 92 229 229 _ 70 [.inr (.inr (.inl 176)), .inl x1, .inl x2, .inl x3, .inl x4, .inl (jw32 (x5 - v42)), .inl t48, .inl v42] [] 229 jr0 g46
                    refine jGo_bd (fun hbd50 => ?_)
                    have b51 := (jba_190 t48 _).1 (hbd50 190 t48)
                    have b52 := (jba_190 x6 _).1 (hbd50 190 x6)
                    have e53 : g46 190 x6 = g 190 x6 := jup_o eg46 (by omega)
                    exact ih.2 x1 x2 x3 x4 (jw32 (x5 - v42)) t48 (.inl v42) (m9 - 1) g46 (by omega) (by omega) fg46 (by omega)
                  · have c41 : x3 < v39 := by first | exact c41 | exact Int.not_le.mp c41 | exact Int.not_lt.mp c41 | exact Decidable.not_not.mp c41
                    show jGo E l 92 229 229 _ 139 [.inr (.inr (.inl 176)), .inl x1, .inl x2, .inl x3, .inl x4, .inl x5, .inl x6, .inl x3] [.inl x3] 229 jr0 g
                    refine jGo_blk qX12_workAll_139 ?_
                    refine st_gr jo_176 jr_176_21 ?_
                    refine st_ai jo_195 (show 0 ≤ x6 by omega) (show x6 < ((16 : Nat) : Int) by omega) (fun v54 ev54 b55 => ?_)
                    have ev54 : v54 = g 195 x6 := ev54
                    have b55 := (jba_195 x6 _).1 b55
                    have e56 : jw32 (v54 - x3) = v54 - x3 := j32e (by omega) (by omega)
                    refine st_si jo_195 (show 0 ≤ x6 by omega) (show x6 < ((16 : Nat) : Int) by omega) (fun hx => (jba_195 _ _).2 hx) (fun g57 eg57 => ?_)
                    have eg57 : g57 = jup g 195 x6 (jw32 (v54 - x3)) := eg57
                    have fg57 : jfr w_X12_workAll h g57 := jfr_up hf eg57 (by unfold w_X12_workAll; omega)
                    have e58 : g57 195 x6 = jw32 (v54 - x3) := jup_s eg57
                    have e59 : jw32 (x5 - x3) = x5 - x3 := j32e (by omega) (by omega)
                    show jGo E l 92 229 229 _ 160 [.inr (.inr (.inl 176)), .inl x1, .inl x2, .inl x3, .inl x4, .inl (jw32 (x5 - x3)), .inl x6, .inl x3] [] 229 jr0 g57
                    refine jGo_blk qX12_workAll_160 ?_
                    refine st_cv (na := 2) (st := [.inl 1, .inl x6, .inr (.inr (.inl 176))]) jo_176 rfl rfl rfl (c_X12_firstBehind x6 1 g57 (by omega)) rfl ?_
                    rintro _ _ _ ⟨rfl, rfl, t60, rfl, ht60, zt60⟩ kt60
                    have kt60 : -2147483648 ≤ t60 ∧ t60 ≤ 2147483647 := kt60
                    have ht60 : -1 ≤ t60 ∧ t60 ≤ 15 := ht60
                    have zt60 : t60 = -1 ∨ (0 ≤ t60 ∧ t60 ≤ 15 ∧ (x6 < 0 ∨ (99 - g57 190 x6) * 16 + x6 < (99 - g57 190 t60) * 16 + t60)) := zt60
                    show jGo E l 92 229 229 _ 70 [.inr (.inr (.inl 176)), .inl x1, .inl x2, .inl x3, .inl x4, .inl (jw32 (x5 - x3)), .inl t60, .inl x3] [] 229 jr0 g57
                    refine jGo_bd (fun hbd62 => ?_)
                    have b63 := (jba_190 t60 _).1 (hbd62 190 t60)
                    have b64 := (jba_190 x6 _).1 (hbd62 190 x6)
                    have e65 : g57 190 x6 = g 190 x6 := jup_o eg57 (by omega)
                    exact ih.2 x1 x2 x3 x4 (jw32 (x5 - x3)) t60 (.inl x3) (m9 - 1) g57 (by omega) (by omega) fg57 (by omega)
                · have c38 : x5 < x3 := by first | exact c38 | exact Int.not_le.mp c38 | exact Int.not_lt.mp c38 | exact Decidable.not_not.mp c38
                  show jGo E l 92 229 229 _ 113 [.inr (.inr (.inl 176)), .inl x1, .inl x2, .inl x3, .inl x4, .inl x5, .inl x6, x7] [.inl x5] 229 jr0 g
                  refine jGo_blk qX12_workAll_113 ?_
                  refine st_gr jo_176 jr_176_21 ?_
                  refine st_ai jo_195 (show 0 ≤ x6 by omega) (show x6 < ((16 : Nat) : Int) by omega) (fun v66 ev66 b67 => ?_)
                  have ev66 : v66 = g 195 x6 := ev66
                  have b67 := (jba_195 x6 _).1 b67
                  refine And.intro (fun c68 => ?_) (fun c68 => ?_)
                  · have c68 : v66 ≤ x5 := c68
                    show jGo E l 92 229 229 _ 132 [.inr (.inr (.inl 176)), .inl x1, .inl x2, .inl x3, .inl x4, .inl x5, .inl x6, .inl x5] [] 229 jr0 g
                    refine jGo_blk qX12_workAll_132 ?_
                    refine st_gr jo_176 jr_176_21 ?_
                    refine st_ai jo_195 (show 0 ≤ x6 by omega) (show x6 < ((16 : Nat) : Int) by omega) (fun v69 ev69 b70 => ?_)
                    have ev69 : v69 = g 195 x6 := ev69
                    have b70 := (jba_195 x6 _).1 b70
                    show jGo E l 92 229 229 _ 139 [.inr (.inr (.inl 176)), .inl x1, .inl x2, .inl x3, .inl x4, .inl x5, .inl x6, .inl x5] [.inl v69] 229 jr0 g
                    refine jGo_blk qX12_workAll_139 ?_
                    refine st_gr jo_176 jr_176_21 ?_
                    refine st_ai jo_195 (show 0 ≤ x6 by omega) (show x6 < ((16 : Nat) : Int) by omega) (fun v71 ev71 b72 => ?_)
                    have ev71 : v71 = g 195 x6 := ev71
                    have b72 := (jba_195 x6 _).1 b72
                    refine st_si jo_195 (show 0 ≤ x6 by omega) (show x6 < ((16 : Nat) : Int) by omega) (fun hx => (jba_195 _ _).2 hx) (fun g73 eg73 => ?_)
                    have eg73 : g73 = jup g 195 x6 (jw32 (v71 - v69)) := eg73
                    have fg73 : jfr w_X12_workAll h g73 := jfr_up hf eg73 (by unfold w_X12_workAll; omega)
                    have e74 : g73 195 x6 = jw32 (v71 - v69) := jup_s eg73
                    show jGo E l 92 229 229 _ 160 [.inr (.inr (.inl 176)), .inl x1, .inl x2, .inl x3, .inl x4, .inl (jw32 (x5 - v69)), .inl x6, .inl v69] [] 229 jr0 g73
                    refine jGo_blk qX12_workAll_160 ?_
                    refine st_cv (na := 2) (st := [.inl 1, .inl x6, .inr (.inr (.inl 176))]) jo_176 rfl rfl rfl (c_X12_firstBehind x6 1 g73 (by omega)) rfl ?_
                    rintro _ _ _ ⟨rfl, rfl, t75, rfl, ht75, zt75⟩ kt75
                    have kt75 : -2147483648 ≤ t75 ∧ t75 ≤ 2147483647 := kt75
                    have ht75 : -1 ≤ t75 ∧ t75 ≤ 15 := ht75
                    have zt75 : t75 = -1 ∨ (0 ≤ t75 ∧ t75 ≤ 15 ∧ (x6 < 0 ∨ (99 - g73 190 x6) * 16 + x6 < (99 - g73 190 t75) * 16 + t75)) := zt75
                    show jGo E l 92 229 229 _ 70 [.inr (.inr (.inl 176)), .inl x1, .inl x2, .inl x3, .inl x4, .inl (jw32 (x5 - v69)), .inl t75, .inl v69] [] 229 jr0 g73
                    refine jGo_bd (fun hbd77 => ?_)
                    have b78 := (jba_190 t75 _).1 (hbd77 190 t75)
                    have b79 := (jba_190 x6 _).1 (hbd77 190 x6)
                    have e80 : g73 190 x6 = g 190 x6 := jup_o eg73 (by omega)
                    exact ih.2 x1 x2 x3 x4 (jw32 (x5 - v69)) t75 (.inl v69) (m9 - 1) g73 (by omega) (by omega) fg73 (by omega)
                  · have c68 : x5 < v66 := by first | exact c68 | exact Int.not_le.mp c68 | exact Int.not_lt.mp c68 | exact Decidable.not_not.mp c68
                    show jGo E l 92 229 229 _ 139 [.inr (.inr (.inl 176)), .inl x1, .inl x2, .inl x3, .inl x4, .inl x5, .inl x6, .inl x5] [.inl x5] 229 jr0 g
                    refine jGo_blk qX12_workAll_139 ?_
                    refine st_gr jo_176 jr_176_21 ?_
                    refine st_ai jo_195 (show 0 ≤ x6 by omega) (show x6 < ((16 : Nat) : Int) by omega) (fun v81 ev81 b82 => ?_)
                    have ev81 : v81 = g 195 x6 := ev81
                    have b82 := (jba_195 x6 _).1 b82
                    refine st_si jo_195 (show 0 ≤ x6 by omega) (show x6 < ((16 : Nat) : Int) by omega) (fun hx => (jba_195 _ _).2 hx) (fun g83 eg83 => ?_)
                    have eg83 : g83 = jup g 195 x6 (jw32 (v81 - x5)) := eg83
                    have fg83 : jfr w_X12_workAll h g83 := jfr_up hf eg83 (by unfold w_X12_workAll; omega)
                    have e84 : g83 195 x6 = jw32 (v81 - x5) := jup_s eg83
                    show jGo E l 92 229 229 _ 160 [.inr (.inr (.inl 176)), .inl x1, .inl x2, .inl x3, .inl x4, .inl (jw32 (x5 - x5)), .inl x6, .inl x5] [] 229 jr0 g83
                    refine jGo_blk qX12_workAll_160 ?_
                    refine st_cv (na := 2) (st := [.inl 1, .inl x6, .inr (.inr (.inl 176))]) jo_176 rfl rfl rfl (c_X12_firstBehind x6 1 g83 (by omega)) rfl ?_
                    rintro _ _ _ ⟨rfl, rfl, t85, rfl, ht85, zt85⟩ kt85
                    have kt85 : -2147483648 ≤ t85 ∧ t85 ≤ 2147483647 := kt85
                    have ht85 : -1 ≤ t85 ∧ t85 ≤ 15 := ht85
                    have zt85 : t85 = -1 ∨ (0 ≤ t85 ∧ t85 ≤ 15 ∧ (x6 < 0 ∨ (99 - g83 190 x6) * 16 + x6 < (99 - g83 190 t85) * 16 + t85)) := zt85
                    show jGo E l 92 229 229 _ 70 [.inr (.inr (.inl 176)), .inl x1, .inl x2, .inl x3, .inl x4, .inl (jw32 (x5 - x5)), .inl t85, .inl x5] [] 229 jr0 g83
                    refine jGo_bd (fun hbd87 => ?_)
                    have b88 := (jba_190 t85 _).1 (hbd87 190 t85)
                    have b89 := (jba_190 x6 _).1 (hbd87 190 x6)
                    have e90 : g83 190 x6 = g 190 x6 := jup_o eg83 (by omega)
                    exact ih.2 x1 x2 x3 x4 (jw32 (x5 - x5)) t85 (.inl x5) (m9 - 1) g83 (by omega) (by omega) fg83 (by omega)
  refine jGo_blk qX12_workAll_0 ?_
  refine st_gi jo_176 (fun v91 ev91 b92 => ?_)
  have ev91 : v91 = h 176 0 := ev91
  have b92 := (jbf_12_0 jo_176 _).1 b92
  refine st_cv (na := 3) (st := [.inl v91, .inl 0, .inl 2, .inr (.inr (.inl 176))]) jo_176 rfl rfl rfl (c_X12_forceAt 2 0 v91 h) rfl ?_
  rintro _ _ _ ⟨rfl, rfl, t93, rfl, ht93, zt93⟩ kt93
  have kt93 : -2147483648 ≤ t93 ∧ t93 ≤ 2147483647 := kt93
  have ht93 : 0 ≤ t93 ∧ t93 ≤ 200 := ht93
  refine And.intro (fun c95 => ?_) (fun c95 => ?_)
  · have c95 : t93 = 0 := c95
    show jGo E l 92 229 229 _ 24 [.inr (.inr (.inl 176)), .inl t93, .inr (.inr (.inr ())), .inr (.inr (.inr ())), .inr (.inr (.inr ())), .inr (.inr (.inr ())), .inr (.inr (.inr ())), .inr (.inr (.inr ()))] [] 229 jr0 h
    refine jGo_blk qX12_workAll_24 ?_
    show jGo E l 92 229 229 _ 29 [.inr (.inr (.inl 176)), .inl t93, .inr (.inr (.inr ())), .inr (.inr (.inr ())), .inr (.inr (.inr ())), .inr (.inr (.inr ())), .inr (.inr (.inr ())), .inr (.inr (.inr ()))] [.inl 1] 229 jr0 h
    refine jGo_blk qX12_workAll_29 ?_
    refine st_gi jo_176 (fun v96 ev96 b97 => ?_)
    have ev96 : v96 = h 176 0 := ev96
    have b97 := (jbf_12_0 jo_176 _).1 b97
    refine st_cv (na := 3) (st := [.inl v96, .inl 0, .inl 3, .inr (.inr (.inl 176))]) jo_176 rfl rfl rfl (c_X12_forceAt 3 0 v96 h) rfl ?_
    rintro _ _ _ ⟨rfl, rfl, t98, rfl, ht98, zt98⟩ kt98
    have kt98 : -2147483648 ≤ t98 ∧ t98 ≤ 2147483647 := kt98
    have ht98 : 0 ≤ t98 ∧ t98 ≤ 200 := ht98
    show jGo E l 92 229 229 _ 44 [.inr (.inr (.inl 176)), .inl t93, .inl 1, .inl t98, .inl 0, .inr (.inr (.inr ())), .inr (.inr (.inr ())), .inr (.inr (.inr ()))] [] 229 jr0 h
    exact (key 1000000000000000000).1 t93 1 t98 0 (.inr (.inr (.inr ()))) (.inr (.inr (.inr ()))) (.inr (.inr (.inr ()))) h (by omega) f0 (by omega)
  · have c95 : ¬ t93 = 0 := by first | exact c95 | exact Int.not_le.mp c95 | exact Int.not_lt.mp c95 | exact Decidable.not_not.mp c95
    refine st_gi jo_176 (fun v100 ev100 b101 => ?_)
    have ev100 : v100 = h 176 0 := ev100
    have b101 := (jbf_12_0 jo_176 _).1 b101
    refine And.intro (show t93 ≠ 0 by omega) ?_
    have e102 : True ∧ 0 ≤ v100.tmod t93 ∧ v100.tmod t93 < t93 := ⟨trivial, (jmd (by omega) (by omega)).2⟩
    refine And.intro (fun c103 => ?_) (fun c103 => ?_)
    · have c103 : v100.tmod t93 = 0 := c103
      show jGo E l 92 229 229 _ 28 [.inr (.inr (.inl 176)), .inl t93, .inr (.inr (.inr ())), .inr (.inr (.inr ())), .inr (.inr (.inr ())), .inr (.inr (.inr ())), .inr (.inr (.inr ())), .inr (.inr (.inr ()))] [] 229 jr0 h
      refine jGo_blk qX12_workAll_28 ?_
      show jGo E l 92 229 229 _ 29 [.inr (.inr (.inl 176)), .inl t93, .inr (.inr (.inr ())), .inr (.inr (.inr ())), .inr (.inr (.inr ())), .inr (.inr (.inr ())), .inr (.inr (.inr ())), .inr (.inr (.inr ()))] [.inl 0] 229 jr0 h
      refine jGo_blk qX12_workAll_29 ?_
      refine st_gi jo_176 (fun v104 ev104 b105 => ?_)
      have ev104 : v104 = h 176 0 := ev104
      have b105 := (jbf_12_0 jo_176 _).1 b105
      refine st_cv (na := 3) (st := [.inl v104, .inl 0, .inl 3, .inr (.inr (.inl 176))]) jo_176 rfl rfl rfl (c_X12_forceAt 3 0 v104 h) rfl ?_
      rintro _ _ _ ⟨rfl, rfl, t106, rfl, ht106, zt106⟩ kt106
      have kt106 : -2147483648 ≤ t106 ∧ t106 ≤ 2147483647 := kt106
      have ht106 : 0 ≤ t106 ∧ t106 ≤ 200 := ht106
      show jGo E l 92 229 229 _ 44 [.inr (.inr (.inl 176)), .inl t93, .inl 0, .inl t106, .inl 0, .inr (.inr (.inr ())), .inr (.inr (.inr ())), .inr (.inr (.inr ()))] [] 229 jr0 h
      exact (key 1000000000000000000).1 t93 0 t106 0 (.inr (.inr (.inr ()))) (.inr (.inr (.inr ()))) (.inr (.inr (.inr ()))) h (by omega) f0 (by omega)
    · have c103 : ¬ v100.tmod t93 = 0 := by first | exact c103 | exact Int.not_le.mp c103 | exact Int.not_lt.mp c103 | exact Decidable.not_not.mp c103
      show jGo E l 92 229 229 _ 24 [.inr (.inr (.inl 176)), .inl t93, .inr (.inr (.inr ())), .inr (.inr (.inr ())), .inr (.inr (.inr ())), .inr (.inr (.inr ())), .inr (.inr (.inr ())), .inr (.inr (.inr ()))] [] 229 jr0 h
      refine jGo_blk qX12_workAll_24 ?_
      show jGo E l 92 229 229 _ 29 [.inr (.inr (.inl 176)), .inl t93, .inr (.inr (.inr ())), .inr (.inr (.inr ())), .inr (.inr (.inr ())), .inr (.inr (.inr ())), .inr (.inr (.inr ())), .inr (.inr (.inr ()))] [.inl 1] 229 jr0 h
      refine jGo_blk qX12_workAll_29 ?_
      refine st_gi jo_176 (fun v108 ev108 b109 => ?_)
      have ev108 : v108 = h 176 0 := ev108
      have b109 := (jbf_12_0 jo_176 _).1 b109
      refine st_cv (na := 3) (st := [.inl v108, .inl 0, .inl 3, .inr (.inr (.inl 176))]) jo_176 rfl rfl rfl (c_X12_forceAt 3 0 v108 h) rfl ?_
      rintro _ _ _ ⟨rfl, rfl, t110, rfl, ht110, zt110⟩ kt110
      have kt110 : -2147483648 ≤ t110 ∧ t110 ≤ 2147483647 := kt110
      have ht110 : 0 ≤ t110 ∧ t110 ≤ 200 := ht110
      show jGo E l 92 229 229 _ 44 [.inr (.inr (.inl 176)), .inl t93, .inl 1, .inl t110, .inl 0, .inr (.inr (.inr ())), .inr (.inr (.inr ())), .inr (.inr (.inr ()))] [] 229 jr0 h
      exact (key 1000000000000000000).1 t93 1 t110 0 (.inr (.inr (.inr ()))) (.inr (.inr (.inr ()))) (.inr (.inr (.inr ()))) h (by omega) f0 (by omega)
