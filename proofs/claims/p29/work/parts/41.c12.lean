def k_X4_mayMoveOn (a0 : Int) (h : JH) (v : Option JV) (r' g : JH) : Prop := r' = jr0 ∧ h = g ∧ ∃ x : Int, v = some (.inl x) ∧ (0 ≤ x ∧ x ≤ 1) ∧ ((x = 1 ∧ ¬ h a0 7 = 0 ∧ h a0 6 = 0) ∨ (x = 0 ∧ (h a0 7 = 0 ∨ ¬ h a0 6 = 0)))
set_option maxHeartbeats 4000000 in
theorem c_X4_mayMoveOn {E : JE} {l : Launch} (a0 : Int) (h : JH) (ha0 : jHl a0) : jMt E l 73 [.inr (.inr (.inl a0))] 229 jr0 h (k_X4_mayMoveOn a0 h) := by
  refine jMt0 (nL := 1) (ls := [.inr (.inr (.inl a0))]) (by decide +kernel) (by decide +kernel) (by decide +kernel) rfl rfl ?_
  refine jGo_blk qX4_mayMoveOn_0 ?_
  refine st_gi ha0.1 (fun v1 ev1 b2 => ?_)
  replace ev1 : v1 = h a0 7 := ev1
  replace b2 := (jbf_4_7 ha0.1 _).1 b2
  refine And.intro (fun c3 => ?_) (fun c3 => ?_)
  · replace c3 : v1 = 0 := c3
    show jGo E l 73 229 229 _ 18 [.inr (.inr (.inl a0))] [] 229 jr0 h
    refine jGo_blk qX4_mayMoveOn_18 ?_
    show jGo E l 73 229 229 _ 19 [.inr (.inr (.inl a0))] [.inl 0] 229 jr0 h
    refine jGo_blk qX4_mayMoveOn_19 ?_
    exact st_r1 (ls := []) (show (0 : Int) = 0 ∨ (0 : Int) = 1 by omega) ⟨rfl, rfl, rfl, 0, rfl, (by omega), (by omega)⟩
  · replace c3 : ¬ v1 = 0 := by first | exact c3 | exact Int.not_le.mp c3 | exact Int.not_lt.mp c3 | exact Decidable.not_not.mp c3
    refine st_gi ha0.1 (fun v4 ev4 b5 => ?_)
    replace ev4 : v4 = h a0 6 := ev4
    replace b5 := (jbf_4_6 ha0.1 _).1 b5
    refine And.intro (fun c6 => ?_) (fun c6 => ?_)
    · replace c6 : ¬ v4 = 0 := c6
      show jGo E l 73 229 229 _ 18 [.inr (.inr (.inl a0))] [] 229 jr0 h
      refine jGo_blk qX4_mayMoveOn_18 ?_
      show jGo E l 73 229 229 _ 19 [.inr (.inr (.inl a0))] [.inl 0] 229 jr0 h
      refine jGo_blk qX4_mayMoveOn_19 ?_
      exact st_r1 (ls := []) (show (0 : Int) = 0 ∨ (0 : Int) = 1 by omega) ⟨rfl, rfl, rfl, 0, rfl, (by omega), (by omega)⟩
    · replace c6 : v4 = 0 := by first | exact c6 | exact Int.not_le.mp c6 | exact Int.not_lt.mp c6 | exact Decidable.not_not.mp c6
      show jGo E l 73 229 229 _ 19 [.inr (.inr (.inl a0))] [.inl 1] 229 jr0 h
      refine jGo_blk qX4_mayMoveOn_19 ?_
      exact st_r1 (ls := []) (show (1 : Int) = 0 ∨ (1 : Int) = 1 by omega) ⟨rfl, rfl, rfl, 1, rfl, (by omega), (by omega)⟩

def w_X4_leave (a0 : Int) (i k : Int) : Prop := (a0 + 0 ≤ i ∧ i ≤ a0 + 0)
def k_X4_leave (a0 : Int) (a1 : Int) (h : JH) (v : Option JV) (r' g : JH) : Prop := r' = jr0 ∧ jfr (w_X4_leave a0) h g ∧ v = none ∧ (g = jLv a0 a1 h)
set_option maxHeartbeats 4000000 in
theorem c_X4_leave {E : JE} {l : Launch} (a0 : Int) (a1 : Int) (h : JH) (ha0 : jHl a0) : jMt E l 74 [.inr (.inr (.inl a0)), .inl a1] 229 jr0 h (k_X4_leave a0 a1 h) := by
  refine jMt0 (nL := 2) (ls := [.inr (.inr (.inl a0)), .inl a1]) (by decide +kernel) (by decide +kernel) (by decide +kernel) rfl rfl ?_
  have f0 : jfr (w_X4_leave a0) h h := jfr_rf _ _
  refine jGo_blk qX4_leave_0 ?_
  refine st_pi ha0.1 (fun hx => (jbf_4_3 ha0.1 _).2 (show 0 ≤ 2 ∧ 2 ≤ 3 by omega)) (fun g1 eg1 => ?_)
  replace eg1 : g1 = jup h a0 3 2 := eg1
  have fg1 : jfr (w_X4_leave a0) h g1 := jfr_up f0 eg1 (by unfold w_X4_leave; omega)
  have e2 : g1 a0 3 = 2 := jup_s eg1
  refine st_pi ha0.1 (fun hx => (jbf_4_4 ha0.1 _).2 (show -9 ≤ (-9) ∧ (-9) ≤ 5 by omega)) (fun g3 eg3 => ?_)
  replace eg3 : g3 = jup g1 a0 4 (-9) := eg3
  have fg3 : jfr (w_X4_leave a0) h g3 := jfr_up fg1 eg3 (by unfold w_X4_leave; omega)
  have e4 : g3 a0 4 = (-9) := jup_s eg3
  refine st_pi ha0.1 (fun hx => (jbf_4_7 ha0.1 _).2 (show 0 ≤ 0 ∧ 0 ≤ 1 by omega)) (fun g5 eg5 => ?_)
  replace eg5 : g5 = jup g3 a0 7 0 := eg5
  have fg5 : jfr (w_X4_leave a0) h g5 := jfr_up fg3 eg5 (by unfold w_X4_leave; omega)
  have e6 : g5 a0 7 = 0 := jup_s eg5
  refine st_pi ha0.1 (fun hx => (jbf_4_9 ha0.1 _).2 hx) (fun g7 eg7 => ?_)
  replace eg7 : g7 = jup g5 a0 9 a1 := eg7
  have fg7 : jfr (w_X4_leave a0) h g7 := jfr_up fg5 eg7 (by unfold w_X4_leave; omega)
  have e8 : g7 a0 9 = a1 := jup_s eg7
  exact ⟨rfl, rfl, fg7, rfl, (by subst eg7 eg5 eg3 eg1; unfold jLv; rfl)⟩

def w_X4_enter (a0 : Int) (i k : Int) : Prop := (a0 + 0 ≤ i ∧ i ≤ a0 + 0) ∨ (a0 + 1 ≤ i ∧ i ≤ a0 + 1) ∨ (a0 + 2 ≤ i ∧ i ≤ a0 + 2)
def k_X4_enter (a0 : Int) (a1 : Int) (h : JH) (v : Option JV) (r' g : JH) : Prop := r' = jr0 ∧ jfr (w_X4_enter a0) h g ∧ v = none ∧ (g = jEnt a0 a1 h)
set_option maxHeartbeats 4000000 in
theorem c_X4_enter {E : JE} {l : Launch} (a0 : Int) (a1 : Int) (h : JH) (ha0 : jHl a0) (p1 : 0 ≤ a1 ∧ a1 ≤ 5) : jMt E l 75 [.inr (.inr (.inl a0)), .inl a1, .inr (.inr (.inl 16))] 229 jr0 h (k_X4_enter a0 a1 h) := by
  refine jMt0 (nL := 4) (ls := [.inr (.inr (.inl a0)), .inl a1, .inr (.inr (.inl 16)), .inr (.inr (.inr ()))]) (by decide +kernel) (by decide +kernel) (by decide +kernel) rfl rfl ?_
  have f0 : jfr (w_X4_enter a0) h h := jfr_rf _ _
  have key : ∀ N : Nat, (∀ (x3 : Int) (g : JH), (0 ≤ x3 ∧ x3 ≤ 6) → (g = jit (jE5 a0 a1) (x3).toNat (jE4 a0 (jE3 a0 a1 (jE2 a0 a1 (jE1 a0 a1 h))))) → jfr (w_X4_enter a0) h g → (6 - x3) < (N : Int) → jGo E l 75 229 229 (jRK (k_X4_enter a0 a1 h)) 47 [.inr (.inr (.inl a0)), .inl a1, .inr (.inr (.inl 16)), .inl x3] [] 229 jr0 g) := by
    intro N
    induction N with
    | zero => exact fun _ _ hi hx0 _ hN => absurd hN (by omega)
    | succ N ih =>
      intro x3 g hi hx0 hf hN
      refine jGo_blk qX4_enter_47 ?_
      refine And.intro (fun c1 => ?_) (fun c1 => ?_)
      · replace c1 : 6 ≤ x3 := c1
        show jGo E l 75 229 229 _ 96 [.inr (.inr (.inl a0)), .inl a1, .inr (.inr (.inl 16)), .inl x3] [] 229 jr0 g
        refine jGo_blk qX4_enter_96 ?_
        exact ⟨rfl, rfl, hf, rfl, (by rw [hx0, show x3 = 6 by omega]; rfl)⟩
      · replace c1 : x3 < 6 := by first | exact c1 | exact Int.not_le.mp c1 | exact Int.not_lt.mp c1 | exact Decidable.not_not.mp c1
        refine st_gr ha0.1 rfl ?_
        refine st_gr jo_16 jr_16_2 ?_
        refine st_gi ha0.1 (fun v2 ev2 b3 => ?_)
        replace ev2 : v2 = g a0 0 := ev2
        replace b3 := (jbf_4_0 ha0.1 _).1 b3
        refine st_ar jo_25 (by decide) (show 0 ≤ v2 by omega) (show v2 < ((3 : Nat) : Int) by omega) (fun u4 eu4 => ?_)
        replace eu4 : u4 = jr0 25 v2 := eu4
        have qu4 : u4 = 26 + v2 := eu4.trans (jrow_25 v2 (by omega) (by omega)).1
        have ou4 : jF 229 u4 1 36 := by rw [eu4]; exact (jrow_25 v2 (by omega) (by omega)).2.1
        have wu4 : ∀ j v : Int, jbd u4 j v ↔ (0 ≤ v ∧ v ≤ 500) := by rw [eu4]; exact (jrow_25 v2 (by omega) (by omega)).2.2
        have e5 : jw32 (a1 * 6) = a1 * 6 := jzj32 (by omega)
        have e6 : jw32 ((jw32 (a1 * 6)) + x3) = (jw32 (a1 * 6)) + x3 := jzj32 (by omega)
        refine st_ai ou4 (show 0 ≤ jw32 ((jw32 (a1 * 6)) + x3) by omega) (show jw32 ((jw32 (a1 * 6)) + x3) < ((36 : Nat) : Int) by omega) (fun v7 ev7 b8 => ?_)
        replace ev7 : v7 = g u4 (jw32 ((jw32 (a1 * 6)) + x3)) := ev7
        replace b8 := (wu4 (jw32 ((jw32 (a1 * 6)) + x3)) _).1 b8
        refine st_si ha0.2.1 (show 0 ≤ x3 by omega) (show x3 < ((6 : Nat) : Int) by omega) (fun hx => (ha0.2.2.2.2.2.1 _ _).2 hx) (fun g9 eg9 => ?_)
        replace eg9 : g9 = jup g (jr0 a0 11) x3 v7 := eg9
        have fg9 : jfr (w_X4_enter a0) h g9 := jfr_up hf eg9 (by have q9 := ha0.2.2.2.1; have q8 := ha0.2.2.2.2.1; unfold w_X4_enter; omega)
        have e10 : g9 (jr0 a0 11) x3 = v7 := jup_s eg9
        refine st_gr ha0.1 rfl ?_
        refine st_ai ha0.2.2.1 (show 0 ≤ x3 by omega) (show x3 < ((6 : Nat) : Int) by omega) (fun v11 ev11 b12 => ?_)
        replace ev11 : v11 = g9 (jr0 a0 12) x3 := ev11
        replace b12 := (ha0.2.2.2.2.2.2 x3 _).1 b12
        refine st_gr ha0.1 rfl ?_
        refine st_ai ha0.2.1 (show 0 ≤ x3 by omega) (show x3 < ((6 : Nat) : Int) by omega) (fun v13 ev13 b14 => ?_)
        replace ev13 : v13 = g9 (jr0 a0 11) x3 := ev13
        replace b14 := (ha0.2.2.2.2.2.1 x3 _).1 b14
        refine st_si ha0.2.2.1 (show 0 ≤ x3 by omega) (show x3 < ((6 : Nat) : Int) by omega) (fun hx => (ha0.2.2.2.2.2.2 _ _).2 hx) (fun g15 eg15 => ?_)
        replace eg15 : g15 = jup g9 (jr0 a0 12) x3 (jw32 (v11 + v13)) := eg15
        have fg15 : jfr (w_X4_enter a0) h g15 := jfr_up fg9 eg15 (by have q9 := ha0.2.2.2.1; have q8 := ha0.2.2.2.2.1; unfold w_X4_enter; omega)
        have e16 : g15 (jr0 a0 12) x3 = jw32 (v11 + v13) := jup_s eg15
        have e17 : jw32 (x3 + 1) = x3 + 1 := jzj32 (by omega)
        show jGo E l 75 229 229 _ 47 [.inr (.inr (.inl a0)), .inl a1, .inr (.inr (.inl 16)), .inl (jw32 (x3 + 1))] [] 229 jr0 g15
        exact ih (jw32 (x3 + 1)) g15 (by omega) (by rw [show jw32 (x3 + 1) = x3 + 1 by omega, jit_s (by omega), ← hx0]; subst eg15 ev13 ev11 eg9 ev7 qu4 ev2; unfold jE5 jE6; (repeat (first | rw [if_pos (by omega)] | rw [if_neg (by omega)])); all_goals ((try rw [e17]); (try rw [e6]); (try rw [e5]); (try rw [ha0.2.2.2.1]); (try rw [ha0.2.2.2.2.1]); (try rfl))) fg15 (by omega)
  refine jGo_blk qX4_enter_0 ?_
  refine st_pi ha0.1 (fun hx => (jbf_4_3 ha0.1 _).2 (show 0 ≤ 1 ∧ 1 ≤ 3 by omega)) (fun g18 eg18 => ?_)
  replace eg18 : g18 = jup h a0 3 1 := eg18
  have fg18 : jfr (w_X4_enter a0) h g18 := jfr_up f0 eg18 (by unfold w_X4_enter; omega)
  have e19 : g18 a0 3 = 1 := jup_s eg18
  refine st_pi ha0.1 (fun hx => (jbf_4_4 ha0.1 _).2 (show -9 ≤ a1 ∧ a1 ≤ 5 by omega)) (fun g20 eg20 => ?_)
  replace eg20 : g20 = jup g18 a0 4 a1 := eg20
  have fg20 : jfr (w_X4_enter a0) h g20 := jfr_up fg18 eg20 (by unfold w_X4_enter; omega)
  have e21 : g20 a0 4 = a1 := jup_s eg20
  refine st_gr jo_16 jr_16_0 ?_
  refine st_gi ha0.1 (fun v22 ev22 b23 => ?_)
  replace ev22 : v22 = g20 a0 0 := ev22
  replace b23 := (jbf_4_0 ha0.1 _).1 b23
  refine st_ar jo_17 (by decide) (show 0 ≤ v22 by omega) (show v22 < ((3 : Nat) : Int) by omega) (fun u24 eu24 => ?_)
  replace eu24 : u24 = jr0 17 v22 := eu24
  have qu24 : u24 = 18 + v22 := eu24.trans (jrow_17 v22 (by omega) (by omega)).1
  have ou24 : jF 229 u24 1 6 := by rw [eu24]; exact (jrow_17 v22 (by omega) (by omega)).2.1
  have wu24 : ∀ j v : Int, jbd u24 j v ↔ (0 ≤ v ∧ v ≤ 3) := by rw [eu24]; exact (jrow_17 v22 (by omega) (by omega)).2.2
  refine st_ai ou24 (show 0 ≤ a1 by omega) (show a1 < ((6 : Nat) : Int) by omega) (fun v25 ev25 b26 => ?_)
  replace ev25 : v25 = g20 u24 a1 := ev25
  replace b26 := (wu24 a1 _).1 b26
  refine st_pi ha0.1 (fun hx => (jbf_4_5 ha0.1 _).2 (show 0 ≤ v25 ∧ v25 ≤ 3 by omega)) (fun g27 eg27 => ?_)
  replace eg27 : g27 = jup g20 a0 5 v25 := eg27
  have fg27 : jfr (w_X4_enter a0) h g27 := jfr_up fg20 eg27 (by unfold w_X4_enter; omega)
  have e28 : g27 a0 5 = v25 := jup_s eg27
  refine st_gr jo_16 jr_16_1 ?_
  refine st_gi ha0.1 (fun v29 ev29 b30 => ?_)
  replace ev29 : v29 = g27 a0 0 := ev29
  replace b30 := (jbf_4_0 ha0.1 _).1 b30
  refine st_ar jo_21 (by decide) (show 0 ≤ v29 by omega) (show v29 < ((3 : Nat) : Int) by omega) (fun u31 eu31 => ?_)
  replace eu31 : u31 = jr0 21 v29 := eu31
  have qu31 : u31 = 22 + v29 := eu31.trans (jrow_21 v29 (by omega) (by omega)).1
  have ou31 : jF 229 u31 1 6 := by rw [eu31]; exact (jrow_21 v29 (by omega) (by omega)).2.1
  have wu31 : ∀ j v : Int, jbd u31 j v ↔ (0 ≤ v ∧ v ≤ 2000) := by rw [eu31]; exact (jrow_21 v29 (by omega) (by omega)).2.2
  refine st_ai ou31 (show 0 ≤ a1 by omega) (show a1 < ((6 : Nat) : Int) by omega) (fun v32 ev32 b33 => ?_)
  replace ev32 : v32 = g27 u31 a1 := ev32
  replace b33 := (wu31 a1 _).1 b33
  refine st_pi ha0.1 (fun hx => (jbf_4_6 ha0.1 _).2 hx) (fun g34 eg34 => ?_)
  replace eg34 : g34 = jup g27 a0 6 v32 := eg34
  have fg34 : jfr (w_X4_enter a0) h g34 := jfr_up fg27 eg34 (by unfold w_X4_enter; omega)
  have e35 : g34 a0 6 = v32 := jup_s eg34
  refine st_pi ha0.1 (fun hx => (jbf_4_7 ha0.1 _).2 (show 0 ≤ 0 ∧ 0 ≤ 1 by omega)) (fun g36 eg36 => ?_)
  replace eg36 : g36 = jup g34 a0 7 0 := eg36
  have fg36 : jfr (w_X4_enter a0) h g36 := jfr_up fg34 eg36 (by unfold w_X4_enter; omega)
  have e37 : g36 a0 7 = 0 := jup_s eg36
  show jGo E l 75 229 229 _ 47 [.inr (.inr (.inl a0)), .inl a1, .inr (.inr (.inl 16)), .inl 0] [] 229 jr0 g36
  exact (key 1000000000000) 0 g36 (by omega) (by subst eg36 eg34 ev32 qu31 ev29 eg27 ev25 qu24 ev22 eg20 eg18; unfold jE4 jE3 jE2 jE1; (repeat (first | rw [if_pos (by omega)] | rw [if_neg (by omega)])); all_goals ((try rfl))) fg36 (by omega)

def w_X10_berth_29 (i k : Int) : Prop := (i = 31) ∨ (36 ≤ i ∧ i ≤ 83) ∨ (i = 29 ∧ k = 10)
def k_X10_berth_29 (a1 : Int) (a2 : Int) (h : JH) (v : Option JV) (r' g : JH) : Prop := r' = jr0 ∧ jfr w_X10_berth_29 h g ∧ v = none ∧ (g = jBrt 29 31 36 a1 a2 h)
set_option maxHeartbeats 4000000 in
theorem c_X10_berth_29 {E : JE} {l : Launch} (a1 : Int) (a2 : Int) (h : JH) (p1 : 0 ≤ a1 ∧ a1 ≤ 15) (p2 : 0 ≤ a2 ∧ a2 ≤ 5) : jMt E l 76 [.inr (.inr (.inl 29)), .inl a1, .inl a2, .inr (.inr (.inl 16))] 229 jr0 h (k_X10_berth_29 a1 a2 h) := by
  refine jMt0 (nL := 4) (ls := [.inr (.inr (.inl 29)), .inl a1, .inl a2, .inr (.inr (.inl 16))]) (by decide +kernel) (by decide +kernel) (by decide +kernel) rfl rfl ?_
  have f0 : jfr w_X10_berth_29 h h := jfr_rf _ _
  refine jGo_blk qX10_berth_0 ?_
  refine st_gr jo_29 jr_29_1 ?_
  refine st_si jo_31 (show 0 ≤ a2 by omega) (show a2 < ((6 : Nat) : Int) by omega) (fun hx => (jba_31 _ _).2 (show -2 ≤ a1 ∧ a1 ≤ 15 by omega)) (fun g1 eg1 => ?_)
  replace eg1 : g1 = jup h 31 a2 a1 := eg1
  have fg1 : jfr w_X10_berth_29 h g1 := jfr_up f0 eg1 (by unfold w_X10_berth_29; omega)
  have e2 : g1 31 a2 = a1 := jup_s eg1
  refine st_gr jo_29 jr_29_3 ?_
  refine st_ar jo_33 (by decide) (show 0 ≤ a1 by omega) (show a1 < ((16 : Nat) : Int) by omega) (fun u3 eu3 => ?_)
  replace eu3 : u3 = jr0 33 a1 := eu3
  have qu3 : u3 = 36 + 3 * a1 := eu3.trans (jhul_33 a1 (by omega) (by omega)).1
  have hu3 : jHl u3 := by rw [eu3]; exact (jhul_33 a1 (by omega) (by omega)).2
  refine st_cv (na := 2) (st := [.inr (.inr (.inl 16)), .inl a2, .inr (.inr (.inl u3))]) hu3.1 rfl rfl rfl (c_X4_enter u3 a2 g1 hu3 (by omega)) rfl ?_
  rintro _ _ g5 ⟨rfl, ft4, rfl, zt4⟩ kt4
  have fg5 : jfr w_X10_berth_29 h g5 := jfr_tr fg1 ft4 (fun i k q => by unfold w_X4_enter at q; unfold w_X10_berth_29; omega)
  replace zt4 : g5 = jEnt u3 a2 g1 := zt4
  refine st_pi jo_29 (fun hx => (jbf_10_10 jo_29 _).2 (show 0 ≤ 1 ∧ 1 ≤ 1 by omega)) (fun g6 eg6 => ?_)
  replace eg6 : g6 = jup g5 29 10 1 := eg6
  have fg6 : jfr w_X10_berth_29 h g6 := jfr_up fg5 eg6 (by unfold w_X10_berth_29; omega)
  have e7 : g6 29 10 = 1 := jup_s eg6
  exact ⟨rfl, rfl, fg6, rfl, (by subst eg6 zt4 qu3 eg1; unfold jBrt; rfl)⟩

def w_X10_moveOn_29 (i k : Int) : Prop := (i = 31) ∨ (36 ≤ i ∧ i ≤ 83) ∨ (i = 29 ∧ k = 10)
theorem ws_X10_berth_29__X10_moveOn_29 (i k : Int) (q : w_X10_berth_29 i k) : w_X10_moveOn_29 i k := by
  unfold w_X10_berth_29 at q; unfold w_X10_moveOn_29
  rcases q with q | q | q
  · exact (Or.inl (by omega))
  · exact (Or.inr (Or.inl (by omega)))
  · exact (Or.inr (Or.inr (by omega)))
def k_X10_moveOn_29 (a1 : Int) (h : JH) (v : Option JV) (r' g : JH) : Prop := r' = jr0 ∧ jfr w_X10_moveOn_29 h g ∧ ∃ x : Int, v = some (.inl x) ∧ (True) ∧ ((x = jMc 31 36 h) ∧ g = jit (jMvr 29 31 36 a1) 6 h)
set_option maxHeartbeats 4000000 in
theorem c_X10_moveOn_29 {E : JE} {l : Launch} (a1 : Int) (h : JH) : jMt E l 77 [.inr (.inr (.inl 29)), .inl a1, .inr (.inr (.inl 16))] 229 jr0 h (k_X10_moveOn_29 a1 h) := by
  refine jMt0 (nL := 6) (ls := [.inr (.inr (.inl 29)), .inl a1, .inr (.inr (.inl 16)), .inr (.inr (.inr ())), .inr (.inr (.inr ())), .inr (.inr (.inr ()))]) (by decide +kernel) (by decide +kernel) (by decide +kernel) rfl rfl ?_
  have f0 : jfr w_X10_moveOn_29 h h := jfr_rf _ _
  have key : ∀ N : Nat, (∀ (x3 : Int) (x4 : Int) (x5 : JV) (g : JH), ((-1) ≤ x4 ∧ x4 ≤ 5) → (g = jit (jMvr 29 31 36 a1) (5 - x4).toNat h) → (-1 ≤ x4 ∧ x4 ≤ 5) → ((x4 = 5 ∧ x3 = 0) ∨ (x4 < 5 ∧ x3 = jMc 31 36 h)) → jfr w_X10_moveOn_29 h g → (x4 - (-1)) < (N : Int) → jGo E l 77 229 229 (jRK (k_X10_moveOn_29 a1 h)) 5 [.inr (.inr (.inl 29)), .inl a1, .inr (.inr (.inl 16)), .inl x3, .inl x4, x5] [] 229 jr0 g) := by
    intro N
    induction N with
    | zero => exact fun _ _ _ _ hi hx0 hx1 hx2 _ hN => absurd hN (by omega)
    | succ N ih =>
      intro x3 x4 x5 g hi hx0 hx1 hx2 hf hN
      refine jGo_ok (fun hls _ => ?_)
      have rx3 : -2147483648 ≤ x3 ∧ x3 ≤ 2147483647 := hls (.inl x3) (by simp)
      refine jGo_blk qX10_moveOn_5 ?_
      refine And.intro (fun c1 => ?_) (fun c1 => ?_)
      · replace c1 : x4 < 0 := c1
        show jGo E l 77 229 229 _ 114 [.inr (.inr (.inl 29)), .inl a1, .inr (.inr (.inl 16)), .inl x3, .inl x4, x5] [] 229 jr0 g
        refine jGo_blk qX10_moveOn_114 ?_
        exact st_r0 (ls := []) ⟨rfl, rfl, hf, x3, rfl, trivial, (by refine ⟨by rcases hx2 with w | w <;> omega, ?_⟩; rw [hx0, show 5 - x4 = 6 by omega] <;> rfl)⟩
      · replace c1 : 0 ≤ x4 := by first | exact c1 | exact Int.not_le.mp c1 | exact Int.not_lt.mp c1 | exact Decidable.not_not.mp c1
        refine st_gr jo_29 jr_29_1 ?_
        refine st_ai jo_31 (show 0 ≤ x4 by omega) (show x4 < ((6 : Nat) : Int) by omega) (fun v2 ev2 b3 => ?_)
        replace ev2 : v2 = g 31 x4 := ev2
        replace b3 := (jba_31 x4 _).1 b3
        refine And.intro (fun c4 => ?_) (fun c4 => ?_)
        · replace c4 : v2 < 0 := c4
          show jGo E l 77 229 229 _ 108 [.inr (.inr (.inl 29)), .inl a1, .inr (.inr (.inl 16)), .inl x3, .inl x4, .inl v2] [] 229 jr0 g
          refine jGo_blk qX10_moveOn_108 ?_
          have e5 : jw32 (x4 + (-1)) = x4 + (-1) := jzj32 (by omega)
          show jGo E l 77 229 229 _ 5 [.inr (.inr (.inl 29)), .inl a1, .inr (.inr (.inl 16)), .inl x3, .inl (jw32 (x4 + (-1))), .inl v2] [] 229 jr0 g
          have hc6 : (jw32 (x4 + (-1)) = 5 ∧ x3 = 0) ∨ (jw32 (x4 + (-1)) < 5 ∧ x3 = jMc 31 36 h) := by
            refine Or.inr ⟨by omega, ?_⟩
            rcases hx2 with ⟨w1, w2⟩ | ⟨w1, w2⟩
            · have gh : g = h := by rw [hx0, w1]; rfl
              rw [← gh]; unfold jMc
              have e9 : g 31 5 = v2 := by rw [ev2, w1]
              rw [e9]
              first | (rw [if_pos (by omega)]; omega) | (rw [if_neg (by omega)]; omega)
            · omega
          exact ih x3 (jw32 (x4 + (-1))) (.inl v2) g (by omega) (by rw [show 5 - jw32 (x4 + (-1)) = (5 - x4) + 1 by omega, jit_s (by omega), ← hx0]; unfold jMvr; rw [show 5 - (5 - x4) = x4 by omega]; subst ev2; unfold jMv; (repeat (first | rw [if_pos (by omega)] | rw [if_neg (by omega)])); all_goals ((try rw [e5]); (try rfl))) (by omega) (by exact hc6) hf (by omega)
        · replace c4 : 0 ≤ v2 := by first | exact c4 | exact Int.not_le.mp c4 | exact Int.not_lt.mp c4 | exact Decidable.not_not.mp c4
          refine st_gr jo_29 jr_29_3 ?_
          refine st_ar jo_33 (by decide) (show 0 ≤ v2 by omega) (show v2 < ((16 : Nat) : Int) by omega) (fun u7 eu7 => ?_)
          replace eu7 : u7 = jr0 33 v2 := eu7
          have qu7 : u7 = 36 + 3 * v2 := eu7.trans (jhul_33 v2 (by omega) (by omega)).1
          have hu7 : jHl u7 := by rw [eu7]; exact (jhul_33 v2 (by omega) (by omega)).2
          refine st_cv (na := 0) (st := [.inr (.inr (.inl u7))]) hu7.1 rfl rfl rfl (c_X4_mayMoveOn u7 g hu7) rfl ?_
          rintro _ _ _ ⟨rfl, rfl, t8, rfl, ht8, zt8⟩ kt8
          replace kt8 : -2147483648 ≤ t8 ∧ t8 ≤ 2147483647 := kt8
          replace ht8 : 0 ≤ t8 ∧ t8 ≤ 1 := ht8
          replace zt8 : (t8 = 1 ∧ ¬ g u7 7 = 0 ∧ g u7 6 = 0) ∨ (t8 = 0 ∧ (g u7 7 = 0 ∨ ¬ g u7 6 = 0)) := zt8
          refine And.intro (fun c10 => ?_) (fun c10 => ?_)
          · replace c10 : ¬ t8 = 0 := c10
            show jGo E l 77 229 229 _ 40 [.inr (.inr (.inl 29)), .inl a1, .inr (.inr (.inl 16)), .inl x3, .inl x4, .inl v2] [] 229 jr0 g
            refine jGo_blk qX10_moveOn_40 ?_
            refine And.intro (fun c11 => ?_) (fun c11 => ?_)
            · replace c11 : ¬ x4 = 5 := c11
              show jGo E l 77 229 229 _ 76 [.inr (.inr (.inl 29)), .inl a1, .inr (.inr (.inl 16)), .inl x3, .inl x4, .inl v2] [] 229 jr0 g
              refine jGo_blk qX10_moveOn_76 ?_
              refine st_gr jo_29 jr_29_1 ?_
              have e12 : jw32 (x4 + 1) = x4 + 1 := jzj32 (by omega)
              refine st_ai jo_31 (show 0 ≤ jw32 (x4 + 1) by omega) (show jw32 (x4 + 1) < ((6 : Nat) : Int) by omega) (fun v13 ev13 b14 => ?_)
              replace ev13 : v13 = g 31 (jw32 (x4 + 1)) := ev13
              replace b14 := (jba_31 (jw32 (x4 + 1)) _).1 b14
              refine And.intro (fun c15 => ?_) (fun c15 => ?_)
              · replace c15 : ¬ v13 = (-1) := c15
                show jGo E l 77 229 229 _ 108 [.inr (.inr (.inl 29)), .inl a1, .inr (.inr (.inl 16)), .inl x3, .inl x4, .inl v2] [] 229 jr0 g
                refine jGo_blk qX10_moveOn_108 ?_
                have e16 : jw32 (x4 + (-1)) = x4 + (-1) := jzj32 (by omega)
                show jGo E l 77 229 229 _ 5 [.inr (.inr (.inl 29)), .inl a1, .inr (.inr (.inl 16)), .inl x3, .inl (jw32 (x4 + (-1))), .inl v2] [] 229 jr0 g
                have e17 : g 31 (jw32 (x4 + 1)) = g 31 (x4 + 1) := congrArg (g 31) (show jw32 (x4 + 1) = (x4 + 1) by omega)
                have hc18 : (jw32 (x4 + (-1)) = 5 ∧ x3 = 0) ∨ (jw32 (x4 + (-1)) < 5 ∧ x3 = jMc 31 36 h) := by
                  refine Or.inr ⟨by omega, ?_⟩
                  rcases hx2 with ⟨w1, w2⟩ | ⟨w1, w2⟩
                  · have gh : g = h := by rw [hx0, w1]; rfl
                    rw [← gh]; unfold jMc
                    have e9 : g 31 5 = v2 := by rw [ev2, w1]
                    rw [e9]
                    rw [show 36 + 3 * v2 = u7 by omega]
                    first | (rw [if_pos (by omega)]; omega) | (rw [if_neg (by omega)]; omega)
                  · omega
                exact ih x3 (jw32 (x4 + (-1))) (.inl v2) g (by omega) (by rw [show 5 - jw32 (x4 + (-1)) = (5 - x4) + 1 by omega, jit_s (by omega), ← hx0]; unfold jMvr; rw [show 5 - (5 - x4) = x4 by omega]; subst ev13 qu7 ev2; unfold jMv; (repeat (first | rw [if_pos (by omega)] | rw [if_neg (by omega)])); all_goals ((try rw [e16]); (try rw [e12]); (try rfl))) (by omega) (by exact hc18) hf (by omega)
              · replace c15 : v13 = (-1) := by first | exact c15 | exact Int.not_le.mp c15 | exact Int.not_lt.mp c15 | exact Decidable.not_not.mp c15
                refine st_gr jo_29 jr_29_1 ?_
                refine st_si jo_31 (show 0 ≤ x4 by omega) (show x4 < ((6 : Nat) : Int) by omega) (fun hx => (jba_31 _ _).2 (show -2 ≤ (-1) ∧ (-1) ≤ 15 by omega)) (fun g19 eg19 => ?_)
                replace eg19 : g19 = jup g 31 x4 (-1) := eg19
                have fg19 : jfr w_X10_moveOn_29 h g19 := jfr_up hf eg19 (by unfold w_X10_moveOn_29; omega)
                have e20 : g19 31 x4 = (-1) := jup_s eg19
                have e21 : jw32 (x4 + 1) = x4 + 1 := jzj32 (by omega)
                refine st_cv (na := 3) (st := [.inr (.inr (.inl 16)), .inl (jw32 (x4 + 1)), .inl v2, .inr (.inr (.inl 29))]) jo_29 rfl rfl rfl (c_X10_berth_29 v2 (jw32 (x4 + 1)) g19 (by omega) (by omega)) rfl ?_
                rintro _ _ g23 ⟨rfl, ft22, rfl, zt22⟩ kt22
                have fg23 : jfr w_X10_moveOn_29 h g23 := jfr_tr fg19 ft22 ws_X10_berth_29__X10_moveOn_29
                replace zt22 : g23 = jBrt 29 31 36 v2 (jw32 (x4 + 1)) g19 := zt22
                show jGo E l 77 229 229 _ 108 [.inr (.inr (.inl 29)), .inl a1, .inr (.inr (.inl 16)), .inl x3, .inl x4, .inl v2] [] 229 jr0 g23
                refine jGo_blk qX10_moveOn_108 ?_
                have e24 : jw32 (x4 + (-1)) = x4 + (-1) := jzj32 (by omega)
                show jGo E l 77 229 229 _ 5 [.inr (.inr (.inl 29)), .inl a1, .inr (.inr (.inl 16)), .inl x3, .inl (jw32 (x4 + (-1))), .inl v2] [] 229 jr0 g23
                have e25 : g 31 (jw32 (x4 + 1)) = g 31 (x4 + 1) := congrArg (g 31) (show jw32 (x4 + 1) = (x4 + 1) by omega)
                have hc26 : (jw32 (x4 + (-1)) = 5 ∧ x3 = 0) ∨ (jw32 (x4 + (-1)) < 5 ∧ x3 = jMc 31 36 h) := by
                  refine Or.inr ⟨by omega, ?_⟩
                  rcases hx2 with ⟨w1, w2⟩ | ⟨w1, w2⟩
                  · have gh : g = h := by rw [hx0, w1]; rfl
                    rw [← gh]; unfold jMc
                    have e9 : g 31 5 = v2 := by rw [ev2, w1]
                    rw [e9]
                    rw [show 36 + 3 * v2 = u7 by omega]
                    first | (rw [if_pos (by omega)]; omega) | (rw [if_neg (by omega)]; omega)
                  · omega
                exact ih x3 (jw32 (x4 + (-1))) (.inl v2) g23 (by omega) (by rw [show 5 - jw32 (x4 + (-1)) = (5 - x4) + 1 by omega, jit_s (by omega), ← hx0]; unfold jMvr; rw [show 5 - (5 - x4) = x4 by omega]; subst zt22 eg19 ev13 qu7 ev2; unfold jMv; (repeat (first | rw [if_pos (by omega)] | rw [if_neg (by omega)])); all_goals ((try rw [e24]); (try rw [e21]); (try rw [e12]); (try rfl))) (by omega) (by exact hc26) fg23 (by omega)
            · replace c11 : x4 = 5 := by first | exact c11 | exact Int.not_le.mp c11 | exact Int.not_lt.mp c11 | exact Decidable.not_not.mp c11
              refine st_gr jo_29 jr_29_1 ?_
              refine st_si jo_31 (show 0 ≤ x4 by omega) (show x4 < ((6 : Nat) : Int) by omega) (fun hx => (jba_31 _ _).2 (show -2 ≤ (-1) ∧ (-1) ≤ 15 by omega)) (fun g27 eg27 => ?_)
              replace eg27 : g27 = jup g 31 x4 (-1) := eg27
              have fg27 : jfr w_X10_moveOn_29 h g27 := jfr_up hf eg27 (by unfold w_X10_moveOn_29; omega)
              have e28 : g27 31 x4 = (-1) := jup_s eg27
              refine st_gr jo_29 jr_29_3 ?_
              refine st_ar jo_33 (by decide) (show 0 ≤ v2 by omega) (show v2 < ((16 : Nat) : Int) by omega) (fun u29 eu29 => ?_)
              replace eu29 : u29 = jr0 33 v2 := eu29
              have qu29 : u29 = 36 + 3 * v2 := eu29.trans (jhul_33 v2 (by omega) (by omega)).1
              have hu29 : jHl u29 := by rw [eu29]; exact (jhul_33 v2 (by omega) (by omega)).2
              refine st_cv (na := 1) (st := [.inl a1, .inr (.inr (.inl u29))]) hu29.1 rfl rfl rfl (c_X4_leave u29 a1 g27 hu29) rfl ?_
              rintro _ _ g31 ⟨rfl, ft30, rfl, zt30⟩ kt30
              have fg31 : jfr w_X10_moveOn_29 h g31 := jfr_tr fg27 ft30 (fun i k q => by unfold w_X4_leave at q; unfold w_X10_moveOn_29; omega)
              replace zt30 : g31 = jLv u29 a1 g27 := zt30
              refine st_pi jo_29 (fun hx => (jbf_10_10 jo_29 _).2 (show 0 ≤ 1 ∧ 1 ≤ 1 by omega)) (fun g32 eg32 => ?_)
              replace eg32 : g32 = jup g31 29 10 1 := eg32
              have fg32 : jfr w_X10_moveOn_29 h g32 := jfr_up fg31 eg32 (by unfold w_X10_moveOn_29; omega)
              have e33 : g32 29 10 = 1 := jup_s eg32
              show jGo E l 77 229 229 _ 108 [.inr (.inr (.inl 29)), .inl a1, .inr (.inr (.inl 16)), .inl (jw32 (x3 + 1)), .inl x4, .inl v2] [] 229 jr0 g32
              refine jGo_blk qX10_moveOn_108 ?_
              have e34 : jw32 (x4 + (-1)) = x4 + (-1) := jzj32 (by omega)
              show jGo E l 77 229 229 _ 5 [.inr (.inr (.inl 29)), .inl a1, .inr (.inr (.inl 16)), .inl (jw32 (x3 + 1)), .inl (jw32 (x4 + (-1))), .inl v2] [] 229 jr0 g32
              have hc35 : (jw32 (x4 + (-1)) = 5 ∧ jw32 (x3 + 1) = 0) ∨ (jw32 (x4 + (-1)) < 5 ∧ jw32 (x3 + 1) = jMc 31 36 h) := by
                refine Or.inr ⟨by omega, ?_⟩
                rcases hx2 with ⟨w1, w2⟩ | ⟨w1, w2⟩
                · have gh : g = h := by rw [hx0, w1]; rfl
                  rw [← gh]; unfold jMc
                  have e9 : g 31 5 = v2 := by rw [ev2, w1]
                  rw [e9]
                  rw [show 36 + 3 * v2 = u7 by omega]
                  have j9 : jw32 (x3 + 1) = x3 + 1 := jzj32 (by omega)
                  first | (rw [if_pos (by omega)]; omega) | (rw [if_neg (by omega)]; omega)
                · omega
              exact ih (jw32 (x3 + 1)) (jw32 (x4 + (-1))) (.inl v2) g32 (by omega) (by rw [show 5 - jw32 (x4 + (-1)) = (5 - x4) + 1 by omega, jit_s (by omega), ← hx0]; unfold jMvr; rw [show 5 - (5 - x4) = x4 by omega]; subst eg32 zt30 qu29 eg27 qu7 ev2; unfold jMv; (repeat (first | rw [if_pos (by omega)] | rw [if_neg (by omega)])); all_goals ((try rw [e34]); (try rfl))) (by omega) (by exact hc35) fg32 (by omega)
          · replace c10 : t8 = 0 := by first | exact c10 | exact Int.not_le.mp c10 | exact Int.not_lt.mp c10 | exact Decidable.not_not.mp c10
            show jGo E l 77 229 229 _ 108 [.inr (.inr (.inl 29)), .inl a1, .inr (.inr (.inl 16)), .inl x3, .inl x4, .inl v2] [] 229 jr0 g
            refine jGo_blk qX10_moveOn_108 ?_
            have e36 : jw32 (x4 + (-1)) = x4 + (-1) := jzj32 (by omega)
            show jGo E l 77 229 229 _ 5 [.inr (.inr (.inl 29)), .inl a1, .inr (.inr (.inl 16)), .inl x3, .inl (jw32 (x4 + (-1))), .inl v2] [] 229 jr0 g
            have hc37 : (jw32 (x4 + (-1)) = 5 ∧ x3 = 0) ∨ (jw32 (x4 + (-1)) < 5 ∧ x3 = jMc 31 36 h) := by
              refine Or.inr ⟨by omega, ?_⟩
              rcases hx2 with ⟨w1, w2⟩ | ⟨w1, w2⟩
              · have gh : g = h := by rw [hx0, w1]; rfl
                rw [← gh]; unfold jMc
                have e9 : g 31 5 = v2 := by rw [ev2, w1]
                rw [e9]
                rw [show 36 + 3 * v2 = u7 by omega]
                first | (rw [if_pos (by omega)]; omega) | (rw [if_neg (by omega)]; omega)
              · omega
            exact ih x3 (jw32 (x4 + (-1))) (.inl v2) g (by omega) (by rw [show 5 - jw32 (x4 + (-1)) = (5 - x4) + 1 by omega, jit_s (by omega), ← hx0]; unfold jMvr; rw [show 5 - (5 - x4) = x4 by omega]; subst qu7 ev2; unfold jMv; (repeat (first | rw [if_pos (by omega)] | rw [if_neg (by omega)])); all_goals ((try rw [e36]); (try rfl))) (by omega) (by exact hc37) hf (by omega)
  refine jGo_blk qX10_moveOn_0 ?_
  show jGo E l 77 229 229 _ 5 [.inr (.inr (.inl 29)), .inl a1, .inr (.inr (.inl 16)), .inl 0, .inl 5, .inr (.inr (.inr ()))] [] 229 jr0 h
  exact (key 1000000000000) 0 5 (.inr (.inr (.inr ()))) h (by omega) (by rfl) (by omega) (by exact Or.inl ⟨rfl, rfl⟩) f0 (by omega)

def w_X10_letIn_29 (i k : Int) : Prop := (i = 31) ∨ (36 ≤ i ∧ i ≤ 83) ∨ (i = 29 ∧ k = 10)
theorem ws_X10_berth_29__X10_letIn_29 (i k : Int) (q : w_X10_berth_29 i k) : w_X10_letIn_29 i k := by
  unfold w_X10_berth_29 at q; unfold w_X10_letIn_29
  rcases q with q | q | q
  · exact (Or.inl (by omega))
  · exact (Or.inr (Or.inl (by omega)))
  · exact (Or.inr (Or.inr (by omega)))
def k_X10_letIn_29 (h : JH) (v : Option JV) (r' g : JH) : Prop := r' = jr0 ∧ jfr w_X10_letIn_29 h g ∧ v = none ∧ (g = jP2 29 31 36 34 h)
set_option maxHeartbeats 4000000 in
theorem c_X10_letIn_29 {E : JE} {l : Launch} (h : JH) : jMt E l 78 [.inr (.inr (.inl 29)), .inr (.inr (.inl 16))] 229 jr0 h (k_X10_letIn_29 h) := by
  refine jMt0 (nL := 3) (ls := [.inr (.inr (.inl 29)), .inr (.inr (.inl 16)), .inr (.inr (.inr ()))]) (by decide +kernel) (by decide +kernel) (by decide +kernel) rfl rfl ?_
  have f0 : jfr w_X10_letIn_29 h h := jfr_rf _ _
  refine jGo_bd (fun hbd => ?_)
  have hb0 := (jbf_10_6 jo_29 _).1 (hbd 29 6)
  have key : ∀ N : Nat, (∀ (x2 : Int) (g : JH), (0 ≤ x2 ∧ x2 ≤ 16) → (g = jit (jLin 29 31 36 34) (x2).toNat h) → (g 29 6 = h 29 6 ∧ 0 ≤ x2 ∧ x2 ≤ h 29 6) → jfr w_X10_letIn_29 h g → (16 - x2) < (N : Int) → jGo E l 78 229 229 (jRK (k_X10_letIn_29 h)) 2 [.inr (.inr (.inl 29)), .inr (.inr (.inl 16)), .inl x2] [] 229 jr0 g) := by
    intro N
    induction N with
    | zero => exact fun _ _ hi hx0 hx1 _ hN => absurd hN (by omega)
    | succ N ih =>
      intro x2 g hi hx0 hx1 hf hN
      refine jGo_blk qX10_letIn_2 ?_
      refine st_gi jo_29 (fun v1 ev1 b2 => ?_)
      replace ev1 : v1 = g 29 6 := ev1
      replace b2 := (jbf_10_6 jo_29 _).1 b2
      refine And.intro (fun c3 => ?_) (fun c3 => ?_)
      · replace c3 : v1 ≤ x2 := c3
        show jGo E l 78 229 229 _ 55 [.inr (.inr (.inl 29)), .inr (.inr (.inl 16)), .inl x2] [] 229 jr0 g
        refine jGo_blk qX10_letIn_55 ?_
        exact ⟨rfl, rfl, hf, rfl, (by unfold jP2; rw [hx0, show x2 = h 29 6 by omega])⟩
      · replace c3 : x2 < v1 := by first | exact c3 | exact Int.not_le.mp c3 | exact Int.not_lt.mp c3 | exact Decidable.not_not.mp c3
        refine st_gr jo_29 jr_29_1 ?_
        refine st_ai jo_31 (show 0 ≤ 0 by omega) (show 0 < ((6 : Nat) : Int) by omega) (fun v4 ev4 b5 => ?_)
        replace ev4 : v4 = g 31 0 := ev4
        replace b5 := (jba_31 0 _).1 b5
        refine And.intro (fun c6 => ?_) (fun c6 => ?_)
        · replace c6 : ¬ v4 = (-1) := c6
          show jGo E l 78 229 229 _ 55 [.inr (.inr (.inl 29)), .inr (.inr (.inl 16)), .inl x2] [] 229 jr0 g
          refine jGo_blk qX10_letIn_55 ?_
          exact ⟨rfl, rfl, hf, rfl, (by unfold jP2; have q9 : ¬ jit (jLin 29 31 36 34) x2.toNat h 31 0 = -1 := (by rw [← hx0]; omega); rw [hx0]; exact (jLin_stop q9 _ (by omega)).symm)⟩
        · replace c6 : v4 = (-1) := by first | exact c6 | exact Int.not_le.mp c6 | exact Int.not_lt.mp c6 | exact Decidable.not_not.mp c6
          refine st_gr jo_29 jr_29_3 ?_
          refine st_gr jo_29 jr_29_5 ?_
          refine st_ai jo_34 (show 0 ≤ x2 by omega) (show x2 < ((16 : Nat) : Int) by omega) (fun v7 ev7 b8 => ?_)
          replace ev7 : v7 = g 34 x2 := ev7
          replace b8 := (jba_34 x2 _).1 b8
          refine st_ar jo_33 (by decide) (show 0 ≤ v7 by omega) (show v7 < ((16 : Nat) : Int) by omega) (fun u9 eu9 => ?_)
          replace eu9 : u9 = jr0 33 v7 := eu9
          have qu9 : u9 = 36 + 3 * v7 := eu9.trans (jhul_33 v7 (by omega) (by omega)).1
          have hu9 : jHl u9 := by rw [eu9]; exact (jhul_33 v7 (by omega) (by omega)).2
          refine st_gi hu9.1 (fun v10 ev10 b11 => ?_)
          replace ev10 : v10 = g u9 3 := ev10
          replace b11 := (jbf_4_3 hu9.1 _).1 b11
          refine And.intro (fun c12 => ?_) (fun c12 => ?_)
          · replace c12 : ¬ v10 = 0 := c12
            show jGo E l 78 229 229 _ 49 [.inr (.inr (.inl 29)), .inr (.inr (.inl 16)), .inl x2] [] 229 jr0 g
            refine jGo_blk qX10_letIn_49 ?_
            have e13 : jw32 (x2 + 1) = x2 + 1 := jzj32 (by omega)
            show jGo E l 78 229 229 _ 2 [.inr (.inr (.inl 29)), .inr (.inr (.inl 16)), .inl (jw32 (x2 + 1))] [] 229 jr0 g
            exact ih (jw32 (x2 + 1)) g (by omega) (by rw [show jw32 (x2 + 1) = x2 + 1 by omega, jit_s (by omega), ← hx0]; subst ev10 qu9 ev7 ev4 ev1; unfold jLin; (repeat (first | rw [if_pos (by omega)] | rw [if_neg (by omega)])); all_goals ((try rw [e13]); (try rfl))) (by omega) hf (by omega)
          · replace c12 : v10 = 0 := by first | exact c12 | exact Int.not_le.mp c12 | exact Int.not_lt.mp c12 | exact Decidable.not_not.mp c12
            refine st_gr jo_29 jr_29_5 ?_
            refine st_ai jo_34 (show 0 ≤ x2 by omega) (show x2 < ((16 : Nat) : Int) by omega) (fun v14 ev14 b15 => ?_)
            replace ev14 : v14 = g 34 x2 := ev14
            replace b15 := (jba_34 x2 _).1 b15
            refine st_cv (na := 3) (st := [.inr (.inr (.inl 16)), .inl 0, .inl v14, .inr (.inr (.inl 29))]) jo_29 rfl rfl rfl (c_X10_berth_29 v14 0 g (by omega) (by omega)) rfl ?_
            rintro _ _ g17 ⟨rfl, ft16, rfl, zt16⟩ kt16
            have fg17 : jfr w_X10_letIn_29 h g17 := jfr_tr hf ft16 ws_X10_berth_29__X10_letIn_29
            replace zt16 : g17 = jBrt 29 31 36 v14 (0 : Int) g := zt16
            show jGo E l 78 229 229 _ 49 [.inr (.inr (.inl 29)), .inr (.inr (.inl 16)), .inl x2] [] 229 jr0 g17
            refine jGo_blk qX10_letIn_49 ?_
            have e18 : jw32 (x2 + 1) = x2 + 1 := jzj32 (by omega)
            show jGo E l 78 229 229 _ 2 [.inr (.inr (.inl 29)), .inr (.inr (.inl 16)), .inl (jw32 (x2 + 1))] [] 229 jr0 g17
            have e19 : g17 29 6 = g 29 6 := ft16 29 6 (by unfold w_X10_berth_29; omega)
            exact ih (jw32 (x2 + 1)) g17 (by omega) (by rw [show jw32 (x2 + 1) = x2 + 1 by omega, jit_s (by omega), ← hx0]; subst zt16 ev14 ev10 qu9 ev7 ev4 ev1; unfold jLin; (repeat (first | rw [if_pos (by omega)] | rw [if_neg (by omega)])); all_goals ((try rw [e18]); (try rfl))) (by omega) fg17 (by omega)
  refine jGo_blk qX10_letIn_0 ?_
  show jGo E l 78 229 229 _ 2 [.inr (.inr (.inl 29)), .inr (.inr (.inl 16)), .inl 0] [] 229 jr0 h
  exact (key 1000000000000) 0 h (by omega) (by rfl) (by omega) f0 (by omega)

def k_X10_hasAll_29 (a1 : Int) (h : JH) (v : Option JV) (r' g : JH) : Prop := r' = jr0 ∧ h = g ∧ ∃ x : Int, v = some (.inl x) ∧ (0 ≤ x ∧ x ≤ 1) ∧ ((x = 1 ∧ jAl 30 a1 h) ∨ (x = 0 ∧ ¬ jAl 30 a1 h))
set_option maxHeartbeats 4000000 in
theorem c_X10_hasAll_29 {E : JE} {l : Launch} (a1 : Int) (h : JH) (ha1 : jF 229 a1 1 6) : jMt E l 79 [.inr (.inr (.inl 29)), .inr (.inr (.inl a1))] 229 jr0 h (k_X10_hasAll_29 a1 h) := by
  refine jMt0 (nL := 3) (ls := [.inr (.inr (.inl 29)), .inr (.inr (.inl a1)), .inr (.inr (.inr ()))]) (by decide +kernel) (by decide +kernel) (by decide +kernel) rfl rfl ?_
  have key : ∀ N : Nat, (∀ (x2 : Int), (0 ≤ x2 ∧ x2 ≤ 6) → (∀ t : Int, 0 ≤ t → t < x2 → h a1 t ≤ h 30 t) → (6 - x2) < (N : Int) → jGo E l 79 229 229 (jRK (k_X10_hasAll_29 a1 h)) 2 [.inr (.inr (.inl 29)), .inr (.inr (.inl a1)), .inl x2] [] 229 jr0 h) := by
    intro N
    induction N with
    | zero => exact fun _ hi hx0 hN => absurd hN (by omega)
    | succ N ih =>
      intro x2 hi hx0 hN
      refine jGo_blk qX10_hasAll_2 ?_
      refine And.intro (fun c1 => ?_) (fun c1 => ?_)
      · replace c1 : 6 ≤ x2 := c1
        show jGo E l 79 229 229 _ 28 [.inr (.inr (.inl 29)), .inr (.inr (.inl a1)), .inl x2] [] 229 jr0 h
        refine jGo_blk qX10_hasAll_28 ?_
        exact st_r1 (ls := []) (show (1 : Int) = 0 ∨ (1 : Int) = 1 by omega) ⟨rfl, rfl, rfl, 1, rfl, (by omega), (by exact Or.inl ⟨rfl, hx0 0 (by omega) (by omega), hx0 1 (by omega) (by omega), hx0 2 (by omega) (by omega), hx0 3 (by omega) (by omega), hx0 4 (by omega) (by omega), hx0 5 (by omega) (by omega)⟩)⟩
      · replace c1 : x2 < 6 := by first | exact c1 | exact Int.not_le.mp c1 | exact Int.not_lt.mp c1 | exact Decidable.not_not.mp c1
        refine st_gr jo_29 jr_29_0 ?_
        refine st_ai jo_30 (show 0 ≤ x2 by omega) (show x2 < ((6 : Nat) : Int) by omega) (fun v2 ev2 b3 => ?_)
        replace ev2 : v2 = h 30 x2 := ev2
        replace b3 := (jba_30 x2 _).1 b3
        refine st_ai ha1 (show 0 ≤ x2 by omega) (show x2 < ((6 : Nat) : Int) by omega) (fun v4 ev4 b5 => ?_)
        replace ev4 : v4 = h a1 x2 := ev4
        refine And.intro (fun c6 => ?_) (fun c6 => ?_)
        · replace c6 : v4 ≤ v2 := c6
          show jGo E l 79 229 229 _ 22 [.inr (.inr (.inl 29)), .inr (.inr (.inl a1)), .inl x2] [] 229 jr0 h
          refine jGo_blk qX10_hasAll_22 ?_
          have e7 : jw32 (x2 + 1) = x2 + 1 := jzj32 (by omega)
          show jGo E l 79 229 229 _ 2 [.inr (.inr (.inl 29)), .inr (.inr (.inl a1)), .inl (jw32 (x2 + 1))] [] 229 jr0 h
          exact ih (jw32 (x2 + 1)) (by omega) (by exact fun t p1 p2 => (by by_cases z : t = x2; exact (by rw [z]; omega); exact hx0 t p1 (by omega))) (by omega)
        · replace c6 : v2 < v4 := by first | exact c6 | exact Int.not_le.mp c6 | exact Int.not_lt.mp c6 | exact Decidable.not_not.mp c6
          exact st_r1 (ls := []) (show (0 : Int) = 0 ∨ (0 : Int) = 1 by omega) ⟨rfl, rfl, rfl, 0, rfl, (by omega), (by exact Or.inr ⟨rfl, fun q => by obtain ⟨q0, q1, q2, q3, q4, q5⟩ := q; rcases (show x2 = 0 ∨ x2 = 1 ∨ x2 = 2 ∨ x2 = 3 ∨ x2 = 4 ∨ x2 = 5 by omega) with z | z | z | z | z | z <;> subst z <;> omega⟩)⟩
  refine jGo_blk qX10_hasAll_0 ?_
  show jGo E l 79 229 229 _ 2 [.inr (.inr (.inl 29)), .inr (.inr (.inl a1)), .inl 0] [] 229 jr0 h
  exact (key 1000000000000) 0 (by omega) (by exact fun t p1 p2 => absurd p2 (by omega)) (by omega)

def w_X10_takeGoods_29 (i k : Int) : Prop := (i = 30) ∨ (36 ≤ i ∧ i ≤ 83) ∨ (i = 29 ∧ k = 10)
def k_X10_takeGoods_29 (h : JH) (v : Option JV) (r' g : JH) : Prop := r' = jr0 ∧ jfr w_X10_takeGoods_29 h g ∧ v = none ∧ (g = jP3 29 30 36 34 h)
set_option maxHeartbeats 4000000 in
theorem c_X10_takeGoods_29 {E : JE} {l : Launch} (h : JH) : jMt E l 80 [.inr (.inr (.inl 29))] 229 jr0 h (k_X10_takeGoods_29 h) := by
  refine jMt0 (nL := 4) (ls := [.inr (.inr (.inl 29)), .inr (.inr (.inr ())), .inr (.inr (.inr ())), .inr (.inr (.inr ()))]) (by decide +kernel) (by decide +kernel) (by decide +kernel) rfl rfl ?_
  have f0 : jfr w_X10_takeGoods_29 h h := jfr_rf _ _
  refine jGo_bd (fun hbd => ?_)
  have hb0 := (jbf_10_6 jo_29 _).1 (hbd 29 6)
  have key : ∀ N : Nat, (∀ (x1 : Int) (x2 : JV) (x3 : JV) (g : JH), (0 ≤ x1 ∧ x1 ≤ 16) → (g = jit (jTg 29 30 36 34) (x1).toNat h) → (g 29 6 = h 29 6 ∧ 0 ≤ x1 ∧ x1 ≤ h 29 6) → jfr w_X10_takeGoods_29 h g → (16 - x1) * 1000000 + 999999 < (N : Int) → jGo E l 80 229 229 (jRK (k_X10_takeGoods_29 h)) 2 [.inr (.inr (.inl 29)), .inl x1, x2, x3] [] 229 jr0 g) ∧
      (∀ (x1 : Int) (x2 : Int) (x3 : Int) (g : JH), (0 ≤ x1 ∧ x1 ≤ 15 ∧ 36 ≤ x2 ∧ x2 + 2 ≤ 83 ∧ 0 ≤ x3 ∧ x3 ≤ 6) → jHl x2 → (g = jit (jTs 30 (x2 + 1)) (x3).toNat (jit (jTg 29 30 36 34) (x1).toNat h)) → (x2 = 36 + 3 * (jit (jTg 29 30 36 34) (x1).toNat h) 34 x1) → ((jit (jTg 29 30 36 34) (x1).toNat h) x2 3 = 1 ∧ (jit (jTg 29 30 36 34) (x1).toNat h) x2 7 = 0 ∧ jAl 30 (x2 + 1) (jit (jTg 29 30 36 34) (x1).toNat h)) → (g 29 6 = h 29 6 ∧ 0 ≤ x1 ∧ x1 < h 29 6) → jfr w_X10_takeGoods_29 h g → (16 - x1) * 1000000 + (6 - x3) < (N : Int) → jGo E l 80 229 229 (jRK (k_X10_takeGoods_29 h)) 53 [.inr (.inr (.inl 29)), .inl x1, .inr (.inr (.inl x2)), .inl x3] [] 229 jr0 g) := by
    intro N
    induction N with
    | zero => exact ⟨fun _ _ _ _ hi hx0 hx1 _ hN => absurd hN (by omega), fun _ _ _ _ hi _ hx0 hx1 hx2 hx3 _ hN => absurd hN (by omega)⟩
    | succ N ih =>
      refine ⟨?_, ?_⟩
      · intro x1 x2 x3 g hi hx0 hx1 hf hN
        refine jGo_blk qX10_takeGoods_2 ?_
        refine st_gi jo_29 (fun v1 ev1 b2 => ?_)
        replace ev1 : v1 = g 29 6 := ev1
        replace b2 := (jbf_10_6 jo_29 _).1 b2
        refine And.intro (fun c3 => ?_) (fun c3 => ?_)
        · replace c3 : v1 ≤ x1 := c3
          show jGo E l 80 229 229 _ 109 [.inr (.inr (.inl 29)), .inl x1, x2, x3] [] 229 jr0 g
          refine jGo_blk qX10_takeGoods_109 ?_
          exact ⟨rfl, rfl, hf, rfl, (by unfold jP3; rw [hx0, show x1 = h 29 6 by omega])⟩
        · replace c3 : x1 < v1 := by first | exact c3 | exact Int.not_le.mp c3 | exact Int.not_lt.mp c3 | exact Decidable.not_not.mp c3
          refine st_gr jo_29 jr_29_3 ?_
          refine st_gr jo_29 jr_29_5 ?_
          refine st_ai jo_34 (show 0 ≤ x1 by omega) (show x1 < ((16 : Nat) : Int) by omega) (fun v4 ev4 b5 => ?_)
          replace ev4 : v4 = g 34 x1 := ev4
          replace b5 := (jba_34 x1 _).1 b5
          refine st_ar jo_33 (by decide) (show 0 ≤ v4 by omega) (show v4 < ((16 : Nat) : Int) by omega) (fun u6 eu6 => ?_)
          replace eu6 : u6 = jr0 33 v4 := eu6
          have qu6 : u6 = 36 + 3 * v4 := eu6.trans (jhul_33 v4 (by omega) (by omega)).1
          have hu6 : jHl u6 := by rw [eu6]; exact (jhul_33 v4 (by omega) (by omega)).2
          refine And.intro (show u6 ≠ -1 by omega) ?_
          refine st_gi hu6.1 (fun v7 ev7 b8 => ?_)
          replace ev7 : v7 = g u6 3 := ev7
          replace b8 := (jbf_4_3 hu6.1 _).1 b8
          refine And.intro (fun c9 => ?_) (fun c9 => ?_)
          · replace c9 : ¬ v7 = 1 := c9
            show jGo E l 80 229 229 _ 103 [.inr (.inr (.inl 29)), .inl x1, .inr (.inr (.inl u6)), x3] [] 229 jr0 g
            refine jGo_blk qX10_takeGoods_103 ?_
            have e10 : jw32 (x1 + 1) = x1 + 1 := jzj32 (by omega)
            show jGo E l 80 229 229 _ 2 [.inr (.inr (.inl 29)), .inl (jw32 (x1 + 1)), .inr (.inr (.inl u6)), x3] [] 229 jr0 g
            exact ih.1 (jw32 (x1 + 1)) (.inr (.inr (.inl u6))) x3 g (by omega) (by rw [show jw32 (x1 + 1) = x1 + 1 by omega, jit_s (by omega)]; rw [← hx0]; subst ev7 qu6 ev4 ev1; unfold jTg; (repeat (first | rw [if_pos (by omega)] | rw [if_neg (by omega)])); all_goals ((try rw [e10]); (try rfl))) (by omega) hf (by omega)
          · replace c9 : v7 = 1 := by first | exact c9 | exact Int.not_le.mp c9 | exact Int.not_lt.mp c9 | exact Decidable.not_not.mp c9
            refine st_gi hu6.1 (fun v11 ev11 b12 => ?_)
            replace ev11 : v11 = g u6 7 := ev11
            replace b12 := (jbf_4_7 hu6.1 _).1 b12
            refine And.intro (fun c13 => ?_) (fun c13 => ?_)
            · replace c13 : v11 = 0 := c13
              show jGo E l 80 229 229 _ 40 [.inr (.inr (.inl 29)), .inl x1, .inr (.inr (.inl u6)), x3] [] 229 jr0 g
              refine jGo_blk qX10_takeGoods_40 ?_
              refine st_gr hu6.1 rfl ?_
              refine st_cv (na := 1) (st := [.inr (.inr (.inl (jr0 u6 11))), .inr (.inr (.inl 29))]) jo_29 rfl rfl rfl (c_X10_hasAll_29 (jr0 u6 11) g hu6.2.1) rfl ?_
              rintro _ _ _ ⟨rfl, rfl, t14, rfl, ht14, zt14⟩ kt14
              replace kt14 : -2147483648 ≤ t14 ∧ t14 ≤ 2147483647 := kt14
              replace ht14 : 0 ≤ t14 ∧ t14 ≤ 1 := ht14
              replace zt14 : (t14 = 1 ∧ jAl 30 (jr0 u6 11) g) ∨ (t14 = 0 ∧ ¬ jAl 30 (jr0 u6 11) g) := zt14
              refine And.intro (fun c16 => ?_) (fun c16 => ?_)
              · replace c16 : t14 = 0 := c16
                show jGo E l 80 229 229 _ 93 [.inr (.inr (.inl 29)), .inl x1, .inr (.inr (.inl u6)), x3] [] 229 jr0 g
                refine jGo_blk qX10_takeGoods_93 ?_
                refine st_gi hu6.1 (fun v17 ev17 b18 => ?_)
                replace ev17 : v17 = g u6 8 := ev17
                replace b18 := (jbf_4_8 hu6.1 _).1 b18
                refine st_pi hu6.1 (fun hx => (jbf_4_8 hu6.1 _).2 hx) (fun g19 eg19 => ?_)
                replace eg19 : g19 = jup g u6 8 (jw32 (v17 + 1)) := eg19
                have fg19 : jfr w_X10_takeGoods_29 h g19 := jfr_up hf eg19 (by unfold w_X10_takeGoods_29; omega)
                have e20 : g19 u6 8 = jw32 (v17 + 1) := jup_s eg19
                show jGo E l 80 229 229 _ 103 [.inr (.inr (.inl 29)), .inl x1, .inr (.inr (.inl u6)), x3] [] 229 jr0 g19
                refine jGo_blk qX10_takeGoods_103 ?_
                have e21 : jw32 (x1 + 1) = x1 + 1 := jzj32 (by omega)
                show jGo E l 80 229 229 _ 2 [.inr (.inr (.inl 29)), .inl (jw32 (x1 + 1)), .inr (.inr (.inl u6)), x3] [] 229 jr0 g19
                have hna9 : ¬ jAl 30 (u6 + 1) g := by have q9 := zt14; rw [hu6.2.2.2.1] at q9; rcases q9 with q9 | q9 <;> first | exact q9.2 | (exfalso; omega)
                have e22 : g19 29 6 = g 29 6 := jup_o eg19 (by first | exact fun q => absurd q.1 (by decide) | exact fun q => absurd q.2 (by decide) | omega)
                exact ih.1 (jw32 (x1 + 1)) (.inr (.inr (.inl u6))) x3 g19 (by omega) (by rw [show jw32 (x1 + 1) = x1 + 1 by omega, jit_s (by omega)]; rw [← hx0]; subst eg19 ev17 ev11 ev7 qu6 ev4 ev1; unfold jTg; (repeat (first | rw [if_pos (by omega)] | rw [if_neg (by omega)])); (try rw [if_neg hna9]); all_goals ((try rw [e21]); (try rfl))) (by omega) fg19 (by omega)
              · replace c16 : ¬ t14 = 0 := by first | exact c16 | exact Int.not_le.mp c16 | exact Int.not_lt.mp c16 | exact Decidable.not_not.mp c16
                show jGo E l 80 229 229 _ 53 [.inr (.inr (.inl 29)), .inl x1, .inr (.inr (.inl u6)), .inl 0] [] 229 jr0 g
                have hal9 : jAl 30 (u6 + 1) g := by have q9 := zt14; rw [hu6.2.2.2.1] at q9; rcases q9 with q9 | q9 <;> first | exact q9.2 | (exfalso; omega)
                exact ih.2 x1 u6 0 g (by omega) hu6 (by rw [← hx0]; rfl) (by rw [← hx0, qu6]; omega) (by rw [← hx0]; exact ⟨by omega, by omega, hal9⟩) (by omega) hf (by omega)
            · replace c13 : ¬ v11 = 0 := by first | exact c13 | exact Int.not_le.mp c13 | exact Int.not_lt.mp c13 | exact Decidable.not_not.mp c13
              show jGo E l 80 229 229 _ 103 [.inr (.inr (.inl 29)), .inl x1, .inr (.inr (.inl u6)), x3] [] 229 jr0 g
              refine jGo_blk qX10_takeGoods_103 ?_
              have e23 : jw32 (x1 + 1) = x1 + 1 := jzj32 (by omega)
              show jGo E l 80 229 229 _ 2 [.inr (.inr (.inl 29)), .inl (jw32 (x1 + 1)), .inr (.inr (.inl u6)), x3] [] 229 jr0 g
              exact ih.1 (jw32 (x1 + 1)) (.inr (.inr (.inl u6))) x3 g (by omega) (by rw [show jw32 (x1 + 1) = x1 + 1 by omega, jit_s (by omega)]; rw [← hx0]; subst ev11 ev7 qu6 ev4 ev1; unfold jTg; (repeat (first | rw [if_pos (by omega)] | rw [if_neg (by omega)])); all_goals ((try rw [e23]); (try rfl))) (by omega) hf (by omega)
      · intro x1 x2 x3 g hi hu2 hx0 hx1 hx2 hx3 hf hN
        refine jGo_blk qX10_takeGoods_53 ?_
        refine And.intro (fun c24 => ?_) (fun c24 => ?_)
        · replace c24 : 6 ≤ x3 := c24
          show jGo E l 80 229 229 _ 80 [.inr (.inr (.inl 29)), .inl x1, .inr (.inr (.inl x2)), .inl x3] [] 229 jr0 g
          refine jGo_blk qX10_takeGoods_80 ?_
          refine st_pi hu2.1 (fun hx => (jbf_4_7 hu2.1 _).2 (show 0 ≤ 1 ∧ 1 ≤ 1 by omega)) (fun g25 eg25 => ?_)
          replace eg25 : g25 = jup g x2 7 1 := eg25
          have fg25 : jfr w_X10_takeGoods_29 h g25 := jfr_up hf eg25 (by unfold w_X10_takeGoods_29; omega)
          have e26 : g25 x2 7 = 1 := jup_s eg25
          refine st_pi jo_29 (fun hx => (jbf_10_10 jo_29 _).2 (show 0 ≤ 1 ∧ 1 ≤ 1 by omega)) (fun g27 eg27 => ?_)
          replace eg27 : g27 = jup g25 29 10 1 := eg27
          have fg27 : jfr w_X10_takeGoods_29 h g27 := jfr_up fg25 eg27 (by unfold w_X10_takeGoods_29; omega)
          have e28 : g27 29 10 = 1 := jup_s eg27
          show jGo E l 80 229 229 _ 103 [.inr (.inr (.inl 29)), .inl x1, .inr (.inr (.inl x2)), .inl x3] [] 229 jr0 g27
          refine jGo_blk qX10_takeGoods_103 ?_
          have e29 : jw32 (x1 + 1) = x1 + 1 := jzj32 (by omega)
          show jGo E l 80 229 229 _ 2 [.inr (.inr (.inl 29)), .inl (jw32 (x1 + 1)), .inr (.inr (.inl x2)), .inl x3] [] 229 jr0 g27
          have tg_end : g27 = jit (jTg 29 30 36 34) (jw32 (x1 + 1)).toNat h := by
            rw [show jw32 (x1 + 1) = x1 + 1 by omega, jit_s (by omega)]
            have k0 := hx0; rw [show x3 = 6 by omega] at k0
            generalize jit (jTg 29 30 36 34) x1.toNat h = P at hx1 hx2 k0 ⊢
            subst eg27 eg25; subst hx1; subst k0; unfold jTg; rw [if_neg (by omega), if_pos hx2.2.2]; rfl
          have e30 : g27 29 6 = g25 29 6 := jup_o eg27 (by first | exact fun q => absurd q.1 (by decide) | exact fun q => absurd q.2 (by decide) | omega)
          have e31 : g25 29 6 = g 29 6 := jup_o eg25 (by first | exact fun q => absurd q.1 (by decide) | exact fun q => absurd q.2 (by decide) | omega)
          exact ih.1 (jw32 (x1 + 1)) (.inr (.inr (.inl x2))) (.inl x3) g27 (by omega) (by exact tg_end) (by omega) fg27 (by omega)
        · replace c24 : x3 < 6 := by first | exact c24 | exact Int.not_le.mp c24 | exact Int.not_lt.mp c24 | exact Decidable.not_not.mp c24
          refine st_gr jo_29 jr_29_0 ?_
          refine st_ai jo_30 (show 0 ≤ x3 by omega) (show x3 < ((6 : Nat) : Int) by omega) (fun v32 ev32 b33 => ?_)
          replace ev32 : v32 = g 30 x3 := ev32
          replace b33 := (jba_30 x3 _).1 b33
          refine st_gr hu2.1 rfl ?_
          refine st_ai hu2.2.1 (show 0 ≤ x3 by omega) (show x3 < ((6 : Nat) : Int) by omega) (fun v34 ev34 b35 => ?_)
          replace ev34 : v34 = g (jr0 x2 11) x3 := ev34
          replace b35 := (hu2.2.2.2.2.2.1 x3 _).1 b35
          refine st_si jo_30 (show 0 ≤ x3 by omega) (show x3 < ((6 : Nat) : Int) by omega) (fun hx => (jba_30 _ _).2 hx) (fun g36 eg36 => ?_)
          replace eg36 : g36 = jup g 30 x3 (jw32 (v32 - v34)) := eg36
          have fg36 : jfr w_X10_takeGoods_29 h g36 := jfr_up hf eg36 (by unfold w_X10_takeGoods_29; omega)
          have e37 : g36 30 x3 = jw32 (v32 - v34) := jup_s eg36
          have e38 : jw32 (x3 + 1) = x3 + 1 := jzj32 (by omega)
          show jGo E l 80 229 229 _ 53 [.inr (.inr (.inl 29)), .inl x1, .inr (.inr (.inl x2)), .inl (jw32 (x3 + 1))] [] 229 jr0 g36
          have e39 : g36 29 6 = g 29 6 := jup_o eg36 (by first | exact fun q => absurd q.1 (by decide) | exact fun q => absurd q.2 (by decide) | omega)
          exact ih.2 x1 x2 (jw32 (x3 + 1)) g36 (by omega) hu2 (by rw [show jw32 (x3 + 1) = x3 + 1 by omega, jit_s (by omega), ← hx0]; subst eg36 ev34 ev32; unfold jTs; (repeat (first | rw [if_pos (by omega)] | rw [if_neg (by omega)])); all_goals ((try rw [e38]); (try rw [hu2.2.2.2.1]); (try rw [hu2.2.2.2.2.1]); (try rfl))) (by exact hx1) (by exact hx2) (by omega) fg36 (by omega)
  refine jGo_blk qX10_takeGoods_0 ?_
  show jGo E l 80 229 229 _ 2 [.inr (.inr (.inl 29)), .inl 0, .inr (.inr (.inr ())), .inr (.inr (.inr ()))] [] 229 jr0 h
  exact (key 1000000000000000000).1 0 (.inr (.inr (.inr ()))) (.inr (.inr (.inr ()))) h (by omega) (by rfl) (by omega) f0 (by omega)
