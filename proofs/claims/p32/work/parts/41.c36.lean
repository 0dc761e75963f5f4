def w_X12_swap (i k : Int) : Prop := (i = 224)
def k_X12_swap (a1 : Int) (a2 : Int) (a3 : Int) (h : JH) (v : Option JV) (r' g : JH) : Prop := r' = jr0 ∧ jfr w_X12_swap h g ∧ ∃ x : Int, v = some (.inl x) ∧ (True) ∧ (jbd 224 a1 x ∧ (a3 = 0 → x = a2 ∧ g = jup h 224 a1 a2) ∧ (¬ a3 = 0 → x = h 224 a1 ∧ g = h) ∧ (∀ j : Int, j ≠ a1 → g 224 j = h 224 j) ∧ (x = if a3 = 0 then a2 else h 224 a1) ∧ (g = if a3 = 0 then jup h 224 a1 a2 else h))
set_option maxHeartbeats 4000000 in
theorem c_X12_swap {E : JE} {l : Launch} (a1 : Int) (a2 : Int) (a3 : Int) (h : JH) (p1 : 0 ≤ a1 ∧ a1 ≤ 399) (p3 : a3 = 0 ∨ a3 = 1) (q0 : jR32 a2 → jbd 224 a1 a2) : jMt E l 148 [.inr (.inr (.inl 176)), .inl a1, .inl a2, .inl a3] 229 jr0 h (k_X12_swap a1 a2 a3 h) := by
  refine jMt0 (nL := 4) (ls := [.inr (.inr (.inl 176)), .inl a1, .inl a2, .inl a3]) (by decide +kernel) (by decide +kernel) (by decide +kernel) rfl rfl ?_
  have f0 : jfr w_X12_swap h h := jfr_rf _ _
  refine jGo_blk qX12_swap_0 ?_
  refine And.intro (fun c1 => ?_) (fun c1 => ?_)
  · replace c1 : ¬ a3 = 0 := c1
    show jGo E l 148 229 229 _ 11 [.inr (.inr (.inl 176)), .inl a1, .inl a2, .inl a3] [] 229 jr0 h
    refine jGo_blk qX12_swap_11 ?_
    refine st_gr jo_176 jr_176_59 ?_
    refine st_ai jo_224 (show 0 ≤ a1 by omega) (show a1 < ((400 : Nat) : Int) by omega) (fun v2 ev2 b3 => ?_)
    replace ev2 : v2 = h 224 a1 := ev2
    exact st_r0 (ls := []) ⟨rfl, rfl, f0, v2, rfl, trivial, (by exact ⟨by assumption, fun q => absurd q (by assumption), fun _ => ⟨ev2, rfl⟩, fun _ _ => rfl, ev2.trans (if_neg (by assumption)).symm, (if_neg (by assumption)).symm⟩)⟩
  · replace c1 : a3 = 0 := by first | exact c1 | exact Int.not_le.mp c1 | exact Int.not_lt.mp c1 | exact Decidable.not_not.mp c1
    refine st_gr jo_176 jr_176_59 ?_
    refine st_si jo_224 (show 0 ≤ a1 by omega) (show a1 < ((400 : Nat) : Int) by omega) (q0) (fun g4 eg4 => ?_)
    replace eg4 : g4 = jup h 224 a1 a2 := eg4
    have fg4 : jfr w_X12_swap h g4 := jfr_up f0 eg4 (by unfold w_X12_swap; omega)
    have e5 : g4 224 a1 = a2 := jup_s eg4
    show jGo E l 148 229 229 _ 11 [.inr (.inr (.inl 176)), .inl a1, .inl a2, .inl a3] [] 229 jr0 g4
    refine jGo_blk qX12_swap_11 ?_
    refine st_gr jo_176 jr_176_59 ?_
    refine st_ai jo_224 (show 0 ≤ a1 by omega) (show a1 < ((400 : Nat) : Int) by omega) (fun v6 ev6 b7 => ?_)
    replace ev6 : v6 = g4 224 a1 := ev6
    exact st_r0 (ls := []) ⟨rfl, rfl, fg4, v6, rfl, trivial, (by exact ⟨by assumption, fun _ => ⟨ev6.trans (jup_s eg4), eg4⟩, fun q => absurd (by assumption) q, fun j hj => jup_o eg4 (by omega), (ev6.trans (jup_s eg4)).trans (if_pos (by assumption)).symm, eg4.trans (if_pos (by assumption)).symm⟩)⟩
