def k_X12_lateBy (a0 : Int) (a1 : Int) (a2 : Int) (h : JH) (v : Option JV) (r' g : JH) : Prop := r' = jr0 ∧ h = g ∧ ∃ x : Int, v = some (.inl x) ∧ (True) ∧ (x = jlbw a0 a1 a2)
set_option maxHeartbeats 4000000 in
theorem c_X12_lateBy {E : JE} {l : Launch} (a0 : Int) (a1 : Int) (a2 : Int) (h : JH) : jMt E l 154 [.inl a0, .inl a1, .inl a2] 229 jr0 h (k_X12_lateBy a0 a1 a2 h) := by
  refine jMt0 (nL := 4) (ls := [.inl a0, .inl a1, .inl a2, .inr (.inr (.inr ()))]) (by decide +kernel) (by decide +kernel) (by decide +kernel) rfl rfl ?_
  refine jGo_blk qX12_lateBy_0 ?_
  refine And.intro (fun c1 => ?_) (fun c1 => ?_)
  · replace c1 : 0 ≤ a0 := c1
    show jGo E l 154 229 229 _ 12 [.inl a0, .inl a1, .inl a2, .inr (.inr (.inr ()))] [] 229 jr0 h
    refine jGo_blk qX12_lateBy_12 ?_
    show jGo E l 154 229 229 _ 13 [.inl a0, .inl a1, .inl a2, .inr (.inr (.inr ()))] [.inl a0] 229 jr0 h
    refine jGo_blk qX12_lateBy_13 ?_
    refine And.intro (fun c2 => ?_) (fun c2 => ?_)
    · replace c2 : jw32 (a0 - a2) ≤ 0 := c2
      show jGo E l 154 229 229 _ 24 [.inl a0, .inl a1, .inl a2, .inl (jw32 (a0 - a2))] [] 229 jr0 h
      refine jGo_blk qX12_lateBy_24 ?_
      show jGo E l 154 229 229 _ 25 [.inl a0, .inl a1, .inl a2, .inl (jw32 (a0 - a2))] [.inl 0] 229 jr0 h
      refine jGo_blk qX12_lateBy_25 ?_
      exact st_r0 (ls := []) ⟨rfl, rfl, rfl, 0, rfl, trivial, (by unfold jlbw; (first | rw [show (if a0 < 0 then jw32 (a1 + 301) else a0) = a0 from if_neg (by omega)] | rw [show (if a0 < 0 then jw32 (a1 + 301) else a0) = jw32 (a1 + 301) from if_pos (by omega)]); first | rw [if_pos (by omega)] | rw [if_neg (by omega)])⟩
    · replace c2 : 0 < jw32 (a0 - a2) := by first | exact c2 | exact Int.not_le.mp c2 | exact Int.not_lt.mp c2 | exact Decidable.not_not.mp c2
      show jGo E l 154 229 229 _ 25 [.inl a0, .inl a1, .inl a2, .inl (jw32 (a0 - a2))] [.inl (jw32 (a0 - a2))] 229 jr0 h
      refine jGo_blk qX12_lateBy_25 ?_
      exact st_r0 (ls := []) ⟨rfl, rfl, rfl, jw32 (a0 - a2), rfl, trivial, (by unfold jlbw; (first | rw [show (if a0 < 0 then jw32 (a1 + 301) else a0) = a0 from if_neg (by omega)] | rw [show (if a0 < 0 then jw32 (a1 + 301) else a0) = jw32 (a1 + 301) from if_pos (by omega)]); first | rw [if_pos (by omega)] | rw [if_neg (by omega)])⟩
  · replace c1 : a0 < 0 := by first | exact c1 | exact Int.not_le.mp c1 | exact Int.not_lt.mp c1 | exact Decidable.not_not.mp c1
    show jGo E l 154 229 229 _ 13 [.inl a0, .inl a1, .inl a2, .inr (.inr (.inr ()))] [.inl (jw32 (a1 + 301))] 229 jr0 h
    refine jGo_blk qX12_lateBy_13 ?_
    refine And.intro (fun c3 => ?_) (fun c3 => ?_)
    · replace c3 : jw32 ((jw32 (a1 + 301)) - a2) ≤ 0 := c3
      show jGo E l 154 229 229 _ 24 [.inl a0, .inl a1, .inl a2, .inl (jw32 ((jw32 (a1 + 301)) - a2))] [] 229 jr0 h
      refine jGo_blk qX12_lateBy_24 ?_
      show jGo E l 154 229 229 _ 25 [.inl a0, .inl a1, .inl a2, .inl (jw32 ((jw32 (a1 + 301)) - a2))] [.inl 0] 229 jr0 h
      refine jGo_blk qX12_lateBy_25 ?_
      exact st_r0 (ls := []) ⟨rfl, rfl, rfl, 0, rfl, trivial, (by unfold jlbw; (first | rw [show (if a0 < 0 then jw32 (a1 + 301) else a0) = a0 from if_neg (by omega)] | rw [show (if a0 < 0 then jw32 (a1 + 301) else a0) = jw32 (a1 + 301) from if_pos (by omega)]); first | rw [if_pos (by omega)] | rw [if_neg (by omega)])⟩
    · replace c3 : 0 < jw32 ((jw32 (a1 + 301)) - a2) := by first | exact c3 | exact Int.not_le.mp c3 | exact Int.not_lt.mp c3 | exact Decidable.not_not.mp c3
      show jGo E l 154 229 229 _ 25 [.inl a0, .inl a1, .inl a2, .inl (jw32 ((jw32 (a1 + 301)) - a2))] [.inl (jw32 ((jw32 (a1 + 301)) - a2))] 229 jr0 h
      refine jGo_blk qX12_lateBy_25 ?_
      exact st_r0 (ls := []) ⟨rfl, rfl, rfl, jw32 ((jw32 (a1 + 301)) - a2), rfl, trivial, (by unfold jlbw; (first | rw [show (if a0 < 0 then jw32 (a1 + 301) else a0) = a0 from if_neg (by omega)] | rw [show (if a0 < 0 then jw32 (a1 + 301) else a0) = jw32 (a1 + 301) from if_pos (by omega)]); first | rw [if_pos (by omega)] | rw [if_neg (by omega)])⟩
