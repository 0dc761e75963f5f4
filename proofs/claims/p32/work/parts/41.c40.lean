def k_X11_lateness (a0 : Int) (a1 : Int) (a2 : Int) (h : JH) (v : Option JV) (r' g : JH) : Prop := r' = jr0 ∧ h = g ∧ ∃ x : Int, v = some (.inl x) ∧ (True) ∧ (x = jlt a0 a1 a2)
set_option maxHeartbeats 4000000 in
theorem c_X11_lateness {E : JE} {l : Launch} (a0 : Int) (a1 : Int) (a2 : Int) (h : JH) : jMt E l 152 [.inl a0, .inl a1, .inl a2] 229 jr0 h (k_X11_lateness a0 a1 a2 h) := by
  refine jMt0 (nL := 4) (ls := [.inl a0, .inl a1, .inl a2, .inr (.inr (.inr ()))]) (by decide +kernel) (by decide +kernel) (by decide +kernel) rfl rfl ?_
  refine jGo_blk qX11_lateness_0 ?_
  refine And.intro (fun c1 => ?_) (fun c1 => ?_)
  · replace c1 : ¬ a0 = (-9) := c1
    show jGo E l 152 229 229 _ 16 [.inl a0, .inl a1, .inl a2, .inr (.inr (.inr ()))] [] 229 jr0 h
    refine jGo_blk qX11_lateness_16 ?_
    show jGo E l 152 229 229 _ 17 [.inl a0, .inl a1, .inl a2, .inr (.inr (.inr ()))] [.inl a0] 229 jr0 h
    refine jGo_blk qX11_lateness_17 ?_
    refine st_m1 rfl (fun v2 m1v2 m2v2 m3v2 => ?_)
    replace m1v2 : v2 ≥ 0 := m1v2; replace m2v2 : v2 ≥ jw32 (a0 - a1) := m2v2; replace m3v2 : v2 = 0 ∨ v2 = jw32 (a0 - a1) := m3v2
    exact st_r0 (ls := []) ⟨rfl, rfl, rfl, v2, rfl, trivial, (by unfold jlt; rw [show (if a0 = -9 then jw32 (jw32 (a2 + 300) + 1) else a0) = a0 from if_neg (by assumption)]; split <;> omega)⟩
  · replace c1 : a0 = (-9) := by first | exact c1 | exact Int.not_le.mp c1 | exact Int.not_lt.mp c1 | exact Decidable.not_not.mp c1
    show jGo E l 152 229 229 _ 17 [.inl a0, .inl a1, .inl a2, .inr (.inr (.inr ()))] [.inl (jw32 ((jw32 (a2 + 300)) + 1))] 229 jr0 h
    refine jGo_blk qX11_lateness_17 ?_
    refine st_m1 rfl (fun v3 m1v3 m2v3 m3v3 => ?_)
    replace m1v3 : v3 ≥ 0 := m1v3; replace m2v3 : v3 ≥ jw32 ((jw32 ((jw32 (a2 + 300)) + 1)) - a1) := m2v3; replace m3v3 : v3 = 0 ∨ v3 = jw32 ((jw32 ((jw32 (a2 + 300)) + 1)) - a1) := m3v3
    exact st_r0 (ls := []) ⟨rfl, rfl, rfl, v3, rfl, trivial, (by unfold jlt; rw [show (if a0 = -9 then jw32 (jw32 (a2 + 300) + 1) else a0) = jw32 (jw32 (a2 + 300) + 1) from if_pos (by assumption)]; split <;> omega)⟩
