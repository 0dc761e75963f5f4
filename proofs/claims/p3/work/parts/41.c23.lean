def w_X11_ready (i k : Int) : Prop := (i = 1) ∨ (i = 15) ∨ (i = 34) ∨ (114 ≤ i ∧ i ≤ 118) ∨ (120 ≤ i ∧ i ≤ 121) ∨ (124 ≤ i ∧ i ≤ 174) ∨ (i = 11 ∧ k = 5) ∨ (i = 29 ∧ k = 6) ∨ (i = 111 ∧ k = 3) ∨ (i = 111 ∧ 9 ≤ k ∧ k ≤ 10) ∨ (i = 119 ∧ 6 ≤ k ∧ k ≤ 10)
def k_X11_ready (a1 : Int) (h : JH) (v : Option JV) (r' g : JH) : Prop := r' = jr0 ∧ jfr w_X11_ready h g ∧ ∃ x : Int, v = some (.inl x) ∧ (True) ∧ (True)
set_option maxHeartbeats 4000000 in
theorem c_X11_ready {E : JE} {l : Launch} (a1 : Int) (h : JH) : jMt E l 147 [.inr (.inr (.inl 0)), .inl a1] 229 jr0 h (k_X11_ready a1 h) := by
  refine jMt0 (nL := 3) (ls := [.inr (.inr (.inl 0)), .inl a1, .inr (.inr (.inr ()))]) (by decide +kernel) (by decide +kernel) (by decide +kernel) rfl rfl ?_
  have f0 : jfr w_X11_ready h h := jfr_rf _ _
  refine jGo_blk qX11_ready_0 ?_
  refine st_cv (na := 1) (st := [.inl a1, .inr (.inr (.inl 0))]) jo_0 rfl rfl rfl (c_X11_isHull a1 h) rfl ?_
  rintro _ _ _ ⟨rfl, rfl, t1, rfl, ht1, zt1⟩ kt1
  replace kt1 : -2147483648 ≤ t1 ∧ t1 ≤ 2147483647 := kt1
  replace ht1 : 0 ≤ t1 ∧ t1 ≤ 1 := ht1
  replace zt1 : (t1 = 1 ∧ 0 ≤ a1 ∧ a1 < h 29 4 ∧ h 29 4 ≤ 16) ∨ (t1 = 0 ∧ ¬ (0 ≤ a1 ∧ a1 < h 29 4)) := zt1
  refine And.intro (fun c3 => ?_) (fun c3 => ?_)
  · replace c3 : ¬ t1 = 0 := c3
    show jGo E l 147 229 229 _ 12 [.inr (.inr (.inl 0)), .inl a1, .inr (.inr (.inr ()))] [] 229 jr0 h
    refine jGo_blk qX11_ready_12 ?_
    refine st_gr jo_0 jr_0_5 ?_
    refine st_gr jo_29 jr_29_3 ?_
    refine st_ar jo_33 (by decide) (show 0 ≤ a1 by omega) (show a1 < ((16 : Nat) : Int) by omega) (fun u4 eu4 => ?_)
    replace eu4 : u4 = jr0 33 a1 := eu4
    have qu4 : u4 = 36 + 3 * a1 := eu4.trans (jhul_33 a1 (by omega) (by omega)).1
    have hu4 : jHl u4 := by rw [eu4]; exact (jhul_33 a1 (by omega) (by omega)).2
    refine st_gi hu4.1 (fun v5 ev5 b6 => ?_)
    replace ev5 : v5 = h u4 3 := ev5
    replace b6 := (jbf_4_3 hu4.1 _).1 b6
    refine And.intro (fun c7 => ?_) (fun c7 => ?_)
    · replace c7 : ¬ v5 = 3 := c7
      show jGo E l 147 229 229 _ 33 [.inr (.inr (.inl 0)), .inl a1, .inr (.inr (.inr ()))] [] 229 jr0 h
      refine jGo_blk qX11_ready_33 ?_
      show jGo E l 147 229 229 _ 34 [.inr (.inr (.inl 0)), .inl a1, .inr (.inr (.inr ()))] [.inl 0] 229 jr0 h
      refine jGo_blk qX11_ready_34 ?_
      refine And.intro (fun c8 => ?_) (fun c8 => ?_)
      · replace c8 : (0 : Int) = 0 := c8
        show jGo E l 147 229 229 _ 45 [.inr (.inr (.inl 0)), .inl a1, .inl 0] [] 229 jr0 h
        refine jGo_blk qX11_ready_45 ?_
        refine st_gr jo_0 jr_0_5 ?_
        refine st_gr jo_29 jr_29_3 ?_
        refine st_ar jo_33 (by decide) (show 0 ≤ a1 by omega) (show a1 < ((16 : Nat) : Int) by omega) (fun u9 eu9 => ?_)
        replace eu9 : u9 = jr0 33 a1 := eu9
        have qu9 : u9 = 36 + 3 * a1 := eu9.trans (jhul_33 a1 (by omega) (by omega)).1
        have hu9 : jHl u9 := by rw [eu9]; exact (jhul_33 a1 (by omega) (by omega)).2
        refine st_gi hu9.1 (fun v10 ev10 b11 => ?_)
        replace ev10 : v10 = h u9 3 := ev10
        replace b11 := (jbf_4_3 hu9.1 _).1 b11
        refine And.intro (fun c12 => ?_) (fun c12 => ?_)
        · replace c12 : ¬ v10 = 2 := c12
          show jGo E l 147 229 229 _ 74 [.inr (.inr (.inl 0)), .inl a1, .inl 0] [] 229 jr0 h
          refine jGo_blk qX11_ready_74 ?_
          refine st_cv (na := 1) (st := [.inl a1, .inr (.inr (.inl 0))]) jo_0 rfl rfl rfl (c_X11_readyAhead a1 h (by omega)) rfl ?_
          rintro _ _ g14 ⟨rfl, ft13, t13, rfl, ht13, zt13⟩ kt13
          replace kt13 : -2147483648 ≤ t13 ∧ t13 ≤ 2147483647 := kt13
          have fg14 : jfr w_X11_ready h g14 := jfr_tr f0 ft13 (fun i k q => by unfold w_X11_readyAhead at q; unfold w_X11_ready; omega)
          exact st_r0 (ls := []) ⟨rfl, rfl, fg14, t13, rfl, trivial, trivial⟩
        · replace c12 : v10 = 2 := by first | exact c12 | exact Int.not_le.mp c12 | exact Int.not_lt.mp c12 | exact Decidable.not_not.mp c12
          refine st_gr jo_0 jr_0_5 ?_
          refine st_gr jo_29 jr_29_3 ?_
          refine st_ar jo_33 (by decide) (show 0 ≤ a1 by omega) (show a1 < ((16 : Nat) : Int) by omega) (fun u15 eu15 => ?_)
          replace eu15 : u15 = jr0 33 a1 := eu15
          have qu15 : u15 = 36 + 3 * a1 := eu15.trans (jhul_33 a1 (by omega) (by omega)).1
          have hu15 : jHl u15 := by rw [eu15]; exact (jhul_33 a1 (by omega) (by omega)).2
          refine st_gi hu15.1 (fun v16 ev16 b17 => ?_)
          replace ev16 : v16 = h u15 9 := ev16
          replace b17 := (jbf_4_9 hu15.1 _).1 b17
          exact st_r0 (ls := []) ⟨rfl, rfl, f0, v16, rfl, trivial, trivial⟩
      · replace c8 : ¬ (0 : Int) = 0 := by first | exact c8 | exact Int.not_le.mp c8 | exact Int.not_lt.mp c8 | exact Decidable.not_not.mp c8
        exfalso; omega
    · replace c7 : v5 = 3 := by first | exact c7 | exact Int.not_le.mp c7 | exact Int.not_lt.mp c7 | exact Decidable.not_not.mp c7
      show jGo E l 147 229 229 _ 34 [.inr (.inr (.inl 0)), .inl a1, .inr (.inr (.inr ()))] [.inl (-3)] 229 jr0 h
      refine jGo_blk qX11_ready_34 ?_
      refine And.intro (fun c18 => ?_) (fun c18 => ?_)
      · replace c18 : (-3 : Int) = 0 := c18
        exfalso; omega
      · replace c18 : ¬ (-3 : Int) = 0 := by first | exact c18 | exact Int.not_le.mp c18 | exact Int.not_lt.mp c18 | exact Decidable.not_not.mp c18
        refine st_cv (na := 1) (st := [.inl (-3), .inr (.inr (.inl 0))]) jo_0 rfl rfl rfl (c_X11_refused (-3) h (by omega)) rfl ?_
        rintro _ _ g20 ⟨rfl, ft19, t19, rfl, ht19, zt19⟩ kt19
        replace kt19 : -2147483648 ≤ t19 ∧ t19 ≤ 2147483647 := kt19
        replace ht19 : -7 ≤ t19 ∧ t19 ≤ -1 := ht19
        have fg20 : jfr w_X11_ready h g20 := jfr_tr f0 ft19 (fun i k q => by unfold w_X11_refused at q; unfold w_X11_ready; omega)
        replace zt19 : t19 = (-3 : Int) := zt19
        exact st_r0 (ls := []) ⟨rfl, rfl, fg20, t19, rfl, trivial, trivial⟩
  · replace c3 : t1 = 0 := by first | exact c3 | exact Int.not_le.mp c3 | exact Int.not_lt.mp c3 | exact Decidable.not_not.mp c3
    show jGo E l 147 229 229 _ 34 [.inr (.inr (.inl 0)), .inl a1, .inr (.inr (.inr ()))] [.inl (-1)] 229 jr0 h
    refine jGo_blk qX11_ready_34 ?_
    refine And.intro (fun c21 => ?_) (fun c21 => ?_)
    · replace c21 : (-1 : Int) = 0 := c21
      exfalso; omega
    · replace c21 : ¬ (-1 : Int) = 0 := by first | exact c21 | exact Int.not_le.mp c21 | exact Int.not_lt.mp c21 | exact Decidable.not_not.mp c21
      refine st_cv (na := 1) (st := [.inl (-1), .inr (.inr (.inl 0))]) jo_0 rfl rfl rfl (c_X11_refused (-1) h (by omega)) rfl ?_
      rintro _ _ g23 ⟨rfl, ft22, t22, rfl, ht22, zt22⟩ kt22
      replace kt22 : -2147483648 ≤ t22 ∧ t22 ≤ 2147483647 := kt22
      replace ht22 : -7 ≤ t22 ∧ t22 ≤ -1 := ht22
      have fg23 : jfr w_X11_ready h g23 := jfr_tr f0 ft22 (fun i k q => by unfold w_X11_refused at q; unfold w_X11_ready; omega)
      replace zt22 : t22 = (-1 : Int) := zt22
      exact st_r0 (ls := []) ⟨rfl, rfl, fg23, t22, rfl, trivial, trivial⟩

def w_X12_swap (i k : Int) : Prop := (i = 224)
def k_X12_swap (a1 : Int) (a2 : Int) (a3 : Int) (h : JH) (v : Option JV) (r' g : JH) : Prop := r' = jr0 ∧ jfr w_X12_swap h g ∧ ∃ x : Int, v = some (.inl x) ∧ (True) ∧ (jbd 224 a1 x ∧ (a3 = 0 → x = a2 ∧ g = jup h 224 a1 a2) ∧ (¬ a3 = 0 → x = h 224 a1 ∧ g = h) ∧ (∀ j : Int, j ≠ a1 → g 224 j = h 224 j) ∧ (x = if a3 = 0 then a2 else h 224 a1) ∧ (g = if a3 = 0 then jup h 224 a1 a2 else h))
set_option maxHeartbeats 4000000 in
theorem c_X12_swap {E : JE} {l : Launch} (a1 : Int) (a2 : Int) (a3 : Int) (h : JH) (p1 : 0 ≤ a1 ∧ a1 ≤ 399) (p3 : a3 = 0 ∨ a3 = 1) (q0 : jR32 a2 → jbd 224 a1 a2) : jMt E l 148 [.inr (.inr (.inl 176)), .inl a1, .inl a2, .inl a3] 229 jr0 h (k_X12_swap a1 a2 a3 h) := by
  refine jMt0 (nL := 4) (ls := [.inr (.inr (.inl 176)), .inl a1, .inl a2, .inl a3]) (by decide +kernel) (by decide +kernel) (by decide +kernel) rfl rfl ?_
  have f0 : jfr w_X12_swap h h := jfr_rf _ _
  refine jGo_blk qX12_swap_0 ?_
  refine And.intro (fun c1 => ?_) (fun c1 => ?_)
  · replace c1 : ¬ a3 = 0 := c1
    show jGo E l 148 229 229 _ 11 [.inr (.inr (.inl 176)), .inl a1, .inl a2, .inl a3] [] 229 jr0 h
    refine jGo_blk qX12_swap_11 ?_
    refine st_gr jo_176 jr_176_59 ?_
    refine st_ai jo_224 (show 0 ≤ a1 by omega) (show a1 < ((400 : Nat) : Int) by omega) (fun v2 ev2 b3 => ?_)
    replace ev2 : v2 = h 224 a1 := ev2
    exact st_r0 (ls := []) ⟨rfl, rfl, f0, v2, rfl, trivial, (by exact ⟨by assumption, fun q => absurd q (by assumption), fun _ => ⟨ev2, rfl⟩, fun _ _ => rfl, ev2.trans (if_neg (by assumption)).symm, (if_neg (by assumption)).symm⟩)⟩
  · replace c1 : a3 = 0 := by first | exact c1 | exact Int.not_le.mp c1 | exact Int.not_lt.mp c1 | exact Decidable.not_not.mp c1
    refine st_gr jo_176 jr_176_59 ?_
    refine st_si jo_224 (show 0 ≤ a1 by omega) (show a1 < ((400 : Nat) : Int) by omega) (q0) (fun g4 eg4 => ?_)
    replace eg4 : g4 = jup h 224 a1 a2 := eg4
    have fg4 : jfr w_X12_swap h g4 := jfr_up f0 eg4 (by unfold w_X12_swap; omega)
    have e5 : g4 224 a1 = a2 := jup_s eg4
    show jGo E l 148 229 229 _ 11 [.inr (.inr (.inl 176)), .inl a1, .inl a2, .inl a3] [] 229 jr0 g4
    refine jGo_blk qX12_swap_11 ?_
    refine st_gr jo_176 jr_176_59 ?_
    refine st_ai jo_224 (show 0 ≤ a1 by omega) (show a1 < ((400 : Nat) : Int) by omega) (fun v6 ev6 b7 => ?_)
    replace ev6 : v6 = g4 224 a1 := ev6
    exact st_r0 (ls := []) ⟨rfl, rfl, fg4, v6, rfl, trivial, (by exact ⟨by assumption, fun _ => ⟨ev6.trans (jup_s eg4), eg4⟩, fun q => absurd (by assumption) q, fun j hj => jup_o eg4 (by omega), (ev6.trans (jup_s eg4)).trans (if_pos (by assumption)).symm, eg4.trans (if_pos (by assumption)).symm⟩)⟩
