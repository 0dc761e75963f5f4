def w_X7_swapTried (i k : Int) : Prop := (i = 175)
def k_X7_swapTried (a1 : Int) (a2 : Int) (h : JH) (v : Option JV) (r' g : JH) : Prop := r' = jr0 ∧ jfr w_X7_swapTried h g ∧ v = none ∧ (∀ i : Int, g 175 i = jsw a1 a2 (h 175) i)
set_option maxHeartbeats 4000000 in
theorem c_X7_swapTried {E : JE} {l : Launch} (a1 : Int) (a2 : Int) (h : JH) (p1 : 0 ≤ a1 ∧ a1 ≤ 4) (p2 : 0 ≤ a2 ∧ a2 ≤ 4) : jMt E l 159 [.inr (.inr (.inl 111)), .inl a1, .inl a2] 229 jr0 h (k_X7_swapTried a1 a2 h) := by
  refine jMt0 (nL := 4) (ls := [.inr (.inr (.inl 111)), .inl a1, .inl a2, .inr (.inr (.inr ()))]) (by decide +kernel) (by decide +kernel) (by decide +kernel) rfl rfl ?_
  have f0 : jfr w_X7_swapTried h h := jfr_rf _ _
  refine jGo_blk qX7_swapTried_0 ?_
  refine st_gr jo_111 jr_111_8 ?_
  refine st_ai jo_175 (show 0 ≤ a1 by omega) (show a1 < ((5 : Nat) : Int) by omega) (fun v1 ev1 b2 => ?_)
  replace ev1 : v1 = h 175 a1 := ev1
  replace b2 := (jba_175 a1 _).1 b2
  refine st_gr jo_111 jr_111_8 ?_
  refine st_gr jo_111 jr_111_8 ?_
  refine st_ai jo_175 (show 0 ≤ a2 by omega) (show a2 < ((5 : Nat) : Int) by omega) (fun v3 ev3 b4 => ?_)
  replace ev3 : v3 = h 175 a2 := ev3
  replace b4 := (jba_175 a2 _).1 b4
  refine st_si jo_175 (show 0 ≤ a1 by omega) (show a1 < ((5 : Nat) : Int) by omega) (fun hx => (jba_175 _ _).2 (show 0 ≤ v3 ∧ v3 ≤ 15 by omega)) (fun g5 eg5 => ?_)
  replace eg5 : g5 = jup h 175 a1 v3 := eg5
  have fg5 : jfr w_X7_swapTried h g5 := jfr_up f0 eg5 (by unfold w_X7_swapTried; omega)
  have e6 : g5 175 a1 = v3 := jup_s eg5
  refine st_gr jo_111 jr_111_8 ?_
  refine st_si jo_175 (show 0 ≤ a2 by omega) (show a2 < ((5 : Nat) : Int) by omega) (fun hx => (jba_175 _ _).2 (show 0 ≤ v1 ∧ v1 ≤ 15 by omega)) (fun g7 eg7 => ?_)
  replace eg7 : g7 = jup g5 175 a2 v1 := eg7
  have fg7 : jfr w_X7_swapTried h g7 := jfr_up fg5 eg7 (by unfold w_X7_swapTried; omega)
  have e8 : g7 175 a2 = v1 := jup_s eg7
  exact ⟨rfl, rfl, fg7, rfl, (by exact fun i => by rw [eg7, eg5, ev1, ev3]; exact jsw_u)⟩
