def w_X11_gap (i k : Int) : Prop := (i = 1)
def k_X11_gap (a1 : Int) (a2 : Int) (h : JH) (v : Option JV) (r' g : JH) : Prop := r' = jr0 ∧ jfr w_X11_gap h g ∧ ∃ x : Int, v = some (.inl x) ∧ (True) ∧ (True)
set_option maxHeartbeats 4000000 in
theorem c_X11_gap {E : JE} {l : Launch} (a1 : Int) (a2 : Int) (h : JH) : jMt E l 131 [.inr (.inr (.inl 0)), .inl a1, .inl a2] 229 jr0 h (k_X11_gap a1 a2 h) := by
  refine jMt0 (nL := 3) (ls := [.inr (.inr (.inl 0)), .inl a1, .inl a2]) (by decide +kernel) (by decide +kernel) (by decide +kernel) rfl rfl ?_
  have f0 : jfr w_X11_gap h h := jfr_rf _ _
  refine jGo_blk qX11_gap_0 ?_
  refine st_gr jo_0 jr_0_9 ?_
  refine st_gi jo_101 (fun v1 ev1 b2 => ?_)
  replace ev1 : v1 = h 101 0 := ev1
  replace b2 := (jbf_5_0 jo_101 _).1 b2
  refine st_cs (na := 2) (st := [.inl v1, .inl a1]) rfl rfl rfl (c_X11_within a1 v1 h) rfl ?_
  rintro _ _ _ ⟨rfl, rfl, t3, rfl, ht3, zt3⟩ kt3
  replace kt3 : -2147483648 ≤ t3 ∧ t3 ≤ 2147483647 := kt3
  replace ht3 : 0 ≤ t3 ∧ t3 ≤ 1 := ht3
  replace zt3 : (t3 = 1 ∧ 0 ≤ a1 ∧ a1 < v1) ∨ (t3 = 0 ∧ ¬ (0 ≤ a1 ∧ a1 < v1)) := zt3
  refine And.intro (fun c5 => ?_) (fun c5 => ?_)
  · replace c5 : ¬ t3 = 0 := c5
    show jGo E l 131 229 229 _ 20 [.inr (.inr (.inl 0)), .inl a1, .inl a2] [] 229 jr0 h
    refine jGo_blk qX11_gap_20 ?_
    refine And.intro (fun c6 => ?_) (And.intro (fun c6 => ?_) (And.intro (fun c6 => ?_) (And.intro (fun c6 => ?_) (And.intro (fun c6 => ?_) (trivial)))))
    · replace c6 : a2 < 0 ∨ 3 < a2 := c6
      show jGo E l 131 229 229 _ 92 [.inr (.inr (.inl 0)), .inl a1, .inl a2] [] 229 jr0 h
      refine jGo_blk qX11_gap_92 ?_
      refine st_cv (na := 1) (st := [.inl (-2), .inr (.inr (.inl 0))]) jo_0 rfl rfl rfl (c_X11_refusedAside (-2) h (by omega)) rfl ?_
      rintro _ _ g8 ⟨rfl, ft7, t7, rfl, ht7, zt7⟩ kt7
      replace kt7 : -2147483648 ≤ t7 ∧ t7 ≤ 2147483647 := kt7
      replace ht7 : 2000000001 ≤ t7 ∧ t7 ≤ 2000000007 := ht7
      have fg8 : jfr w_X11_gap h g8 := jfr_tr f0 ft7 (fun i k q => by unfold w_X11_refusedAside at q; unfold w_X11_gap; omega)
      replace zt7 : t7 = 2000000000 - (-2 : Int) := zt7
      exact st_r0 (ls := []) ⟨rfl, rfl, fg8, t7, rfl, trivial, trivial⟩
    · replace c6 : a2 = 0 := c6
      show jGo E l 131 229 229 _ 52 [.inr (.inr (.inl 0)), .inl a1, .inl a2] [] 229 jr0 h
      refine jGo_blk qX11_gap_52 ?_
      refine st_gr jo_0 jr_0_9 ?_
      refine st_gr jo_101 jr_101_1 ?_
      refine st_ai jo_102 (show 0 ≤ a1 by omega) (show a1 < ((40 : Nat) : Int) by omega) (fun v9 ev9 b10 => ?_)
      replace ev9 : v9 = h 102 a1 := ev9
      replace b10 := (jba_102 a1 _).1 b10
      exact st_r0 (ls := []) ⟨rfl, rfl, f0, v9, rfl, trivial, trivial⟩
    · replace c6 : a2 = 1 := c6
      show jGo E l 131 229 229 _ 62 [.inr (.inr (.inl 0)), .inl a1, .inl a2] [] 229 jr0 h
      refine jGo_blk qX11_gap_62 ?_
      refine st_gr jo_0 jr_0_9 ?_
      refine st_gr jo_101 jr_101_2 ?_
      refine st_ai jo_103 (show 0 ≤ a1 by omega) (show a1 < ((40 : Nat) : Int) by omega) (fun v11 ev11 b12 => ?_)
      replace ev11 : v11 = h 103 a1 := ev11
      replace b12 := (jba_103 a1 _).1 b12
      exact st_r0 (ls := []) ⟨rfl, rfl, f0, v11, rfl, trivial, trivial⟩
    · replace c6 : a2 = 2 := c6
      show jGo E l 131 229 229 _ 72 [.inr (.inr (.inl 0)), .inl a1, .inl a2] [] 229 jr0 h
      refine jGo_blk qX11_gap_72 ?_
      refine st_gr jo_0 jr_0_9 ?_
      refine st_gr jo_101 jr_101_3 ?_
      refine st_ai jo_104 (show 0 ≤ a1 by omega) (show a1 < ((40 : Nat) : Int) by omega) (fun v13 ev13 b14 => ?_)
      replace ev13 : v13 = h 104 a1 := ev13
      replace b14 := (jba_104 a1 _).1 b14
      exact st_r0 (ls := []) ⟨rfl, rfl, f0, v13, rfl, trivial, trivial⟩
    · replace c6 : a2 = 3 := c6
      show jGo E l 131 229 229 _ 82 [.inr (.inr (.inl 0)), .inl a1, .inl a2] [] 229 jr0 h
      refine jGo_blk qX11_gap_82 ?_
      refine st_gr jo_0 jr_0_9 ?_
      refine st_gr jo_101 jr_101_4 ?_
      refine st_ai jo_105 (show 0 ≤ a1 by omega) (show a1 < ((40 : Nat) : Int) by omega) (fun v15 ev15 b16 => ?_)
      replace ev15 : v15 = h 105 a1 := ev15
      replace b16 := (jba_105 a1 _).1 b16
      exact st_r0 (ls := []) ⟨rfl, rfl, f0, v15, rfl, trivial, trivial⟩
  · replace c5 : t3 = 0 := by first | exact c5 | exact Int.not_le.mp c5 | exact Int.not_lt.mp c5 | exact Decidable.not_not.mp c5
    refine st_cv (na := 1) (st := [.inl (-1), .inr (.inr (.inl 0))]) jo_0 rfl rfl rfl (c_X11_refusedAside (-1) h (by omega)) rfl ?_
    rintro _ _ g18 ⟨rfl, ft17, t17, rfl, ht17, zt17⟩ kt17
    replace kt17 : -2147483648 ≤ t17 ∧ t17 ≤ 2147483647 := kt17
    replace ht17 : 2000000001 ≤ t17 ∧ t17 ≤ 2000000007 := ht17
    have fg18 : jfr w_X11_gap h g18 := jfr_tr f0 ft17 (fun i k q => by unfold w_X11_refusedAside at q; unfold w_X11_gap; omega)
    replace zt17 : t17 = 2000000000 - (-1 : Int) := zt17
    exact st_r0 (ls := []) ⟨rfl, rfl, fg18, t17, rfl, trivial, trivial⟩

def w_X12_gap (i k : Int) : Prop := (i = 219)
def k_X12_gap (a1 : Int) (a2 : Int) (h : JH) (v : Option JV) (r' g : JH) : Prop := r' = jr0 ∧ jfr w_X12_gap h g ∧ ∃ x : Int, v = some (.inl x) ∧ (True) ∧ (True)
set_option maxHeartbeats 4000000 in
theorem c_X12_gap {E : JE} {l : Launch} (a1 : Int) (a2 : Int) (h : JH) : jMt E l 132 [.inr (.inr (.inl 176)), .inl a1, .inl a2] 229 jr0 h (k_X12_gap a1 a2 h) := by
  refine jMt0 (nL := 3) (ls := [.inr (.inr (.inl 176)), .inl a1, .inl a2]) (by decide +kernel) (by decide +kernel) (by decide +kernel) rfl rfl ?_
  have f0 : jfr w_X12_gap h h := jfr_rf _ _
  refine jGo_blk qX12_gap_0 ?_
  refine st_gi jo_176 (fun v1 ev1 b2 => ?_)
  replace ev1 : v1 = h 176 45 := ev1
  replace b2 := (jbf_12_45 jo_176 _).1 b2
  have e3 : jw32 (v1 - 1) = v1 - 1 := j32e (by omega) (by omega)
  refine st_cs (na := 3) (st := [.inl (jw32 (v1 - 1)), .inl 0, .inl a1]) rfl rfl rfl (c_X12_in a1 0 (jw32 (v1 - 1)) h) rfl ?_
  rintro _ _ _ ⟨rfl, rfl, t4, rfl, ht4, zt4⟩ kt4
  replace kt4 : -2147483648 ≤ t4 ∧ t4 ≤ 2147483647 := kt4
  replace ht4 : 0 ≤ t4 ∧ t4 ≤ 1 := ht4
  replace zt4 : (t4 = 1 ∧ (0 : Int) ≤ a1 ∧ a1 ≤ (jw32 (v1 - 1))) ∨ (t4 = 0 ∧ ¬ ((0 : Int) ≤ a1 ∧ a1 ≤ (jw32 (v1 - 1)))) := zt4
  refine And.intro (fun c6 => ?_) (fun c6 => ?_)
  · replace c6 : ¬ t4 = 0 := c6
    show jGo E l 132 229 229 _ 20 [.inr (.inr (.inl 176)), .inl a1, .inl a2] [] 229 jr0 h
    refine jGo_blk qX12_gap_20 ?_
    refine And.intro (fun c7 => ?_) (And.intro (fun c7 => ?_) (And.intro (fun c7 => ?_) (And.intro (fun c7 => ?_) (And.intro (fun c7 => ?_) (trivial)))))
    · replace c7 : a2 < 0 ∨ 3 < a2 := c7
      show jGo E l 132 229 229 _ 80 [.inr (.inr (.inl 176)), .inl a1, .inl a2] [] 229 jr0 h
      refine jGo_blk qX12_gap_80 ?_
      refine st_cv (na := 1) (st := [.inl (-2), .inr (.inr (.inl 176))]) jo_176 rfl rfl rfl (c_X12_refuseFar (-2) h (by omega)) rfl ?_
      rintro _ _ g9 ⟨rfl, ft8, t8, rfl, ht8, zt8⟩ kt8
      replace kt8 : -2147483648 ≤ t8 ∧ t8 ≤ 2147483647 := kt8
      replace ht8 : 2000000001 ≤ t8 ∧ t8 ≤ 2000000007 := ht8
      have fg9 : jfr w_X12_gap h g9 := jfr_tr f0 ft8 (fun i k q => by unfold w_X12_refuseFar at q; unfold w_X12_gap; omega)
      replace zt8 : t8 = 2000000000 - (-2 : Int) := zt8
      exact st_r0 (ls := []) ⟨rfl, rfl, fg9, t8, rfl, trivial, trivial⟩
    · replace c7 : a2 = 0 := c7
      show jGo E l 132 229 229 _ 52 [.inr (.inr (.inl 176)), .inl a1, .inl a2] [] 229 jr0 h
      refine jGo_blk qX12_gap_52 ?_
      refine st_gr jo_176 jr_176_46 ?_
      refine st_ai jo_215 (show 0 ≤ a1 by omega) (show a1 < ((40 : Nat) : Int) by omega) (fun v10 ev10 b11 => ?_)
      replace ev10 : v10 = h 215 a1 := ev10
      replace b11 := (jba_215 a1 _).1 b11
      exact st_r0 (ls := []) ⟨rfl, rfl, f0, v10, rfl, trivial, trivial⟩
    · replace c7 : a2 = 1 := c7
      show jGo E l 132 229 229 _ 59 [.inr (.inr (.inl 176)), .inl a1, .inl a2] [] 229 jr0 h
      refine jGo_blk qX12_gap_59 ?_
      refine st_gr jo_176 jr_176_47 ?_
      refine st_ai jo_216 (show 0 ≤ a1 by omega) (show a1 < ((40 : Nat) : Int) by omega) (fun v12 ev12 b13 => ?_)
      replace ev12 : v12 = h 216 a1 := ev12
      replace b13 := (jba_216 a1 _).1 b13
      exact st_r0 (ls := []) ⟨rfl, rfl, f0, v12, rfl, trivial, trivial⟩
    · replace c7 : a2 = 2 := c7
      show jGo E l 132 229 229 _ 66 [.inr (.inr (.inl 176)), .inl a1, .inl a2] [] 229 jr0 h
      refine jGo_blk qX12_gap_66 ?_
      refine st_gr jo_176 jr_176_48 ?_
      refine st_ai jo_217 (show 0 ≤ a1 by omega) (show a1 < ((40 : Nat) : Int) by omega) (fun v14 ev14 b15 => ?_)
      replace ev14 : v14 = h 217 a1 := ev14
      replace b15 := (jba_217 a1 _).1 b15
      exact st_r0 (ls := []) ⟨rfl, rfl, f0, v14, rfl, trivial, trivial⟩
    · replace c7 : a2 = 3 := c7
      show jGo E l 132 229 229 _ 73 [.inr (.inr (.inl 176)), .inl a1, .inl a2] [] 229 jr0 h
      refine jGo_blk qX12_gap_73 ?_
      refine st_gr jo_176 jr_176_49 ?_
      refine st_ai jo_218 (show 0 ≤ a1 by omega) (show a1 < ((40 : Nat) : Int) by omega) (fun v16 ev16 b17 => ?_)
      replace ev16 : v16 = h 218 a1 := ev16
      replace b17 := (jba_218 a1 _).1 b17
      exact st_r0 (ls := []) ⟨rfl, rfl, f0, v16, rfl, trivial, trivial⟩
  · replace c6 : t4 = 0 := by first | exact c6 | exact Int.not_le.mp c6 | exact Int.not_lt.mp c6 | exact Decidable.not_not.mp c6
    refine st_cv (na := 1) (st := [.inl (-1), .inr (.inr (.inl 176))]) jo_176 rfl rfl rfl (c_X12_refuseFar (-1) h (by omega)) rfl ?_
    rintro _ _ g19 ⟨rfl, ft18, t18, rfl, ht18, zt18⟩ kt18
    replace kt18 : -2147483648 ≤ t18 ∧ t18 ≤ 2147483647 := kt18
    replace ht18 : 2000000001 ≤ t18 ∧ t18 ≤ 2000000007 := ht18
    have fg19 : jfr w_X12_gap h g19 := jfr_tr f0 ft18 (fun i k q => by unfold w_X12_refuseFar at q; unfold w_X12_gap; omega)
    replace zt18 : t18 = 2000000000 - (-1 : Int) := zt18
    exact st_r0 (ls := []) ⟨rfl, rfl, fg19, t18, rfl, trivial, trivial⟩

def k_X5_spanOf (a1 : Int) (h : JH) (v : Option JV) (r' g : JH) : Prop := r' = jr0 ∧ h = g ∧ ∃ x : Int, v = some (.inl x) ∧ (1 ≤ x ∧ x ≤ 2000) ∧ (True)
set_option maxHeartbeats 4000000 in
theorem c_X5_spanOf {E : JE} {l : Launch} (a1 : Int) (h : JH) (p1 : 0 ≤ a1 ∧ a1 ≤ 39) : jMt E l 134 [.inr (.inr (.inl 101)), .inl a1] 229 jr0 h (k_X5_spanOf a1 h) := by
  refine jMt0 (nL := 2) (ls := [.inr (.inr (.inl 101)), .inl a1]) (by decide +kernel) (by decide +kernel) (by decide +kernel) rfl rfl ?_
  refine jGo_blk qX5_spanOf_0 ?_
  refine st_gr jo_101 jr_101_2 ?_
  refine st_ai jo_103 (show 0 ≤ a1 by omega) (show a1 < ((40 : Nat) : Int) by omega) (fun v1 ev1 b2 => ?_)
  replace ev1 : v1 = h 103 a1 := ev1
  replace b2 := (jba_103 a1 _).1 b2
  refine st_gr jo_101 jr_101_4 ?_
  refine st_ai jo_105 (show 0 ≤ a1 by omega) (show a1 < ((40 : Nat) : Int) by omega) (fun v3 ev3 b4 => ?_)
  replace ev3 : v3 = h 105 a1 := ev3
  replace b4 := (jba_105 a1 _).1 b4
  have e5 : jw32 (v1 - v3) = v1 - v3 := j32e (by omega) (by omega)
  refine st_m1 rfl (fun v6 m1v6 m2v6 m3v6 => ?_)
  replace m1v6 : v6 ≥ 1 := m1v6; replace m2v6 : v6 ≥ jw32 (v1 - v3) := m2v6; replace m3v6 : v6 = 1 ∨ v6 = jw32 (v1 - v3) := m3v6
  exact st_r0 (ls := []) ⟨rfl, rfl, rfl, v6, rfl, (by omega), trivial⟩

def k_X5_isWorse (a1 : Int) (a2 : Int) (h : JH) (v : Option JV) (r' g : JH) : Prop := r' = jr0 ∧ h = g ∧ ∃ x : Int, v = some (.inl x) ∧ (0 ≤ x ∧ x ≤ 1) ∧ (True)
set_option maxHeartbeats 4000000 in
theorem c_X5_isWorse {E : JE} {l : Launch} (a1 : Int) (a2 : Int) (h : JH) (p1 : 0 ≤ a1 ∧ a1 ≤ 39) (p2 : 0 ≤ a2 ∧ a2 ≤ 39) : jMt E l 135 [.inr (.inr (.inl 101)), .inl a1, .inl a2] 229 jr0 h (k_X5_isWorse a1 a2 h) := by
  refine jMt0 (nL := 3) (ls := [.inr (.inr (.inl 101)), .inl a1, .inl a2]) (by decide +kernel) (by decide +kernel) (by decide +kernel) rfl rfl ?_
  refine jGo_blk qX5_isWorse_0 ?_
  refine st_gr jo_101 jr_101_3 ?_
  refine st_ai jo_104 (show 0 ≤ a1 by omega) (show a1 < ((40 : Nat) : Int) by omega) (fun v1 ev1 b2 => ?_)
  replace ev1 : v1 = h 104 a1 := ev1
  replace b2 := (jba_104 a1 _).1 b2
  refine st_cv (na := 1) (st := [.inl a2, .inr (.inr (.inl 101)), .inr (.inl v1)]) jo_101 rfl rfl rfl (c_X5_spanOf a2 h (by omega)) rfl ?_
  rintro _ _ _ ⟨rfl, rfl, t3, rfl, ht3, zt3⟩ kt3
  replace kt3 : -2147483648 ≤ t3 ∧ t3 ≤ 2147483647 := kt3
  replace ht3 : 1 ≤ t3 ∧ t3 ≤ 2000 := ht3
  refine st_gr jo_101 jr_101_3 ?_
  refine st_ai jo_104 (show 0 ≤ a2 by omega) (show a2 < ((40 : Nat) : Int) by omega) (fun v5 ev5 b6 => ?_)
  replace ev5 : v5 = h 104 a2 := ev5
  replace b6 := (jba_104 a2 _).1 b6
  refine st_cv (na := 1) (st := [.inl a1, .inr (.inr (.inl 101)), .inr (.inl v5), .inr (.inl (jw64 (v1 * t3)))]) jo_101 rfl rfl rfl (c_X5_spanOf a1 h (by omega)) rfl ?_
  rintro _ _ _ ⟨rfl, rfl, t7, rfl, ht7, zt7⟩ kt7
  replace kt7 : -2147483648 ≤ t7 ∧ t7 ≤ 2147483647 := kt7
  replace ht7 : 1 ≤ t7 ∧ t7 ≤ 2000 := ht7
  have e9 := jlc_u (jw64 (v1 * t3)) (jw64 (v5 * t7))
  refine And.intro (fun c10 => ?_) (fun c10 => ?_)
  · replace c10 : jlc (jw64 (v1 * t3)) (jw64 (v5 * t7)) ≤ 0 := c10
    show jGo E l 135 229 229 _ 36 [.inr (.inr (.inl 101)), .inl a1, .inl a2] [] 229 jr0 h
    refine jGo_blk qX5_isWorse_36 ?_
    show jGo E l 135 229 229 _ 37 [.inr (.inr (.inl 101)), .inl a1, .inl a2] [.inl 0] 229 jr0 h
    refine jGo_blk qX5_isWorse_37 ?_
    exact st_r1 (ls := []) (show (0 : Int) = 0 ∨ (0 : Int) = 1 by omega) ⟨rfl, rfl, rfl, 0, rfl, (by omega), trivial⟩
  · replace c10 : 0 < jlc (jw64 (v1 * t3)) (jw64 (v5 * t7)) := by first | exact c10 | exact Int.not_le.mp c10 | exact Int.not_lt.mp c10 | exact Decidable.not_not.mp c10
    show jGo E l 135 229 229 _ 37 [.inr (.inr (.inl 101)), .inl a1, .inl a2] [.inl 1] 229 jr0 h
    refine jGo_blk qX5_isWorse_37 ?_
    exact st_r1 (ls := []) (show (1 : Int) = 0 ∨ (1 : Int) = 1 by omega) ⟨rfl, rfl, rfl, 1, rfl, (by omega), trivial⟩

def k_X5_worstOf (a1 : Int) (h : JH) (v : Option JV) (r' g : JH) : Prop := r' = jr0 ∧ h = g ∧ ∃ x : Int, v = some (.inl x) ∧ (-9 ≤ x ∧ x ≤ 39) ∧ (True)
set_option maxHeartbeats 4000000 in
theorem c_X5_worstOf {E : JE} {l : Launch} (a1 : Int) (h : JH) : jMt E l 136 [.inr (.inr (.inl 101)), .inl a1] 229 jr0 h (k_X5_worstOf a1 h) := by
  refine jMt0 (nL := 4) (ls := [.inr (.inr (.inl 101)), .inl a1, .inr (.inr (.inr ())), .inr (.inr (.inr ()))]) (by decide +kernel) (by decide +kernel) (by decide +kernel) rfl rfl ?_
  have key : ∀ N : Nat, (∀ (x2 : Int) (x3 : Int), ((-9) ≤ x2 ∧ x2 ≤ 39 ∧ 0 ≤ x3 ∧ x3 ≤ 40) → (x2 = -9 ∨ (0 ≤ x2 ∧ x2 ≤ 39)) → (40 - x3) < (N : Int) → jGo E l 136 229 229 (jRK (k_X5_worstOf a1 h)) 5 [.inr (.inr (.inl 101)), .inl a1, .inl x2, .inl x3] [] 229 jr0 h) := by
    intro N
    induction N with
    | zero => exact fun _ _ hi hx0 hN => absurd hN (by omega)
    | succ N ih =>
      intro x2 x3 hi hx0 hN
      refine jGo_blk qX5_worstOf_5 ?_
      refine st_gi jo_101 (fun v1 ev1 b2 => ?_)
      replace ev1 : v1 = h 101 0 := ev1
      replace b2 := (jbf_5_0 jo_101 _).1 b2
      refine And.intro (fun c3 => ?_) (fun c3 => ?_)
      · replace c3 : v1 ≤ x3 := c3
        show jGo E l 136 229 229 _ 55 [.inr (.inr (.inl 101)), .inl a1, .inl x2, .inl x3] [] 229 jr0 h
        refine jGo_blk qX5_worstOf_55 ?_
        exact st_r0 (ls := []) ⟨rfl, rfl, rfl, x2, rfl, (by omega), trivial⟩
      · replace c3 : x3 < v1 := by first | exact c3 | exact Int.not_le.mp c3 | exact Int.not_lt.mp c3 | exact Decidable.not_not.mp c3
        refine st_gr jo_101 jr_101_1 ?_
        refine st_ai jo_102 (show 0 ≤ x3 by omega) (show x3 < ((40 : Nat) : Int) by omega) (fun v4 ev4 b5 => ?_)
        replace ev4 : v4 = h 102 x3 := ev4
        replace b5 := (jba_102 x3 _).1 b5
        refine And.intro (fun c6 => ?_) (fun c6 => ?_)
        · replace c6 : ¬ v4 = a1 := c6
          show jGo E l 136 229 229 _ 49 [.inr (.inr (.inl 101)), .inl a1, .inl x2, .inl x3] [] 229 jr0 h
          refine jGo_blk qX5_worstOf_49 ?_
          have e7 : jw32 (x3 + 1) = x3 + 1 := j32e (by omega) (by omega)
          show jGo E l 136 229 229 _ 5 [.inr (.inr (.inl 101)), .inl a1, .inl x2, .inl (jw32 (x3 + 1))] [] 229 jr0 h
          exact ih x2 (jw32 (x3 + 1)) (by omega) (by omega) (by omega)
        · replace c6 : v4 = a1 := by first | exact c6 | exact Int.not_le.mp c6 | exact Int.not_lt.mp c6 | exact Decidable.not_not.mp c6
          refine st_gr jo_101 jr_101_3 ?_
          refine st_ai jo_104 (show 0 ≤ x3 by omega) (show x3 < ((40 : Nat) : Int) by omega) (fun v8 ev8 b9 => ?_)
          replace ev8 : v8 = h 104 x3 := ev8
          replace b9 := (jba_104 x3 _).1 b9
          refine And.intro (fun c10 => ?_) (fun c10 => ?_)
          · replace c10 : v8 ≤ 0 := c10
            show jGo E l 136 229 229 _ 49 [.inr (.inr (.inl 101)), .inl a1, .inl x2, .inl x3] [] 229 jr0 h
            refine jGo_blk qX5_worstOf_49 ?_
            have e11 : jw32 (x3 + 1) = x3 + 1 := j32e (by omega) (by omega)
            show jGo E l 136 229 229 _ 5 [.inr (.inr (.inl 101)), .inl a1, .inl x2, .inl (jw32 (x3 + 1))] [] 229 jr0 h
            exact ih x2 (jw32 (x3 + 1)) (by omega) (by omega) (by omega)
          · replace c10 : 0 < v8 := by first | exact c10 | exact Int.not_le.mp c10 | exact Int.not_lt.mp c10 | exact Decidable.not_not.mp c10
            refine And.intro (fun c12 => ?_) (fun c12 => ?_)
            · replace c12 : x2 = (-9) := c12
              show jGo E l 136 229 229 _ 47 [.inr (.inr (.inl 101)), .inl a1, .inl x2, .inl x3] [] 229 jr0 h
              refine jGo_blk qX5_worstOf_47 ?_
              show jGo E l 136 229 229 _ 49 [.inr (.inr (.inl 101)), .inl a1, .inl x3, .inl x3] [] 229 jr0 h
              refine jGo_blk qX5_worstOf_49 ?_
              have e13 : jw32 (x3 + 1) = x3 + 1 := j32e (by omega) (by omega)
              show jGo E l 136 229 229 _ 5 [.inr (.inr (.inl 101)), .inl a1, .inl x3, .inl (jw32 (x3 + 1))] [] 229 jr0 h
              exact ih x3 (jw32 (x3 + 1)) (by omega) (by omega) (by omega)
            · replace c12 : ¬ x2 = (-9) := by first | exact c12 | exact Int.not_le.mp c12 | exact Int.not_lt.mp c12 | exact Decidable.not_not.mp c12
              refine st_cv (na := 2) (st := [.inl x2, .inl x3, .inr (.inr (.inl 101))]) jo_101 rfl rfl rfl (c_X5_isWorse x3 x2 h (by omega) (by omega)) rfl ?_
              rintro _ _ _ ⟨rfl, rfl, t14, rfl, ht14, zt14⟩ kt14
              replace kt14 : -2147483648 ≤ t14 ∧ t14 ≤ 2147483647 := kt14
              replace ht14 : 0 ≤ t14 ∧ t14 ≤ 1 := ht14
              refine And.intro (fun c16 => ?_) (fun c16 => ?_)
              · replace c16 : t14 = 0 := c16
                show jGo E l 136 229 229 _ 49 [.inr (.inr (.inl 101)), .inl a1, .inl x2, .inl x3] [] 229 jr0 h
                refine jGo_blk qX5_worstOf_49 ?_
                have e17 : jw32 (x3 + 1) = x3 + 1 := j32e (by omega) (by omega)
                show jGo E l 136 229 229 _ 5 [.inr (.inr (.inl 101)), .inl a1, .inl x2, .inl (jw32 (x3 + 1))] [] 229 jr0 h
                exact ih x2 (jw32 (x3 + 1)) (by omega) (by omega) (by omega)
              · replace c16 : ¬ t14 = 0 := by first | exact c16 | exact Int.not_le.mp c16 | exact Int.not_lt.mp c16 | exact Decidable.not_not.mp c16
                show jGo E l 136 229 229 _ 47 [.inr (.inr (.inl 101)), .inl a1, .inl x2, .inl x3] [] 229 jr0 h
                refine jGo_blk qX5_worstOf_47 ?_
                show jGo E l 136 229 229 _ 49 [.inr (.inr (.inl 101)), .inl a1, .inl x3, .inl x3] [] 229 jr0 h
                refine jGo_blk qX5_worstOf_49 ?_
                have e18 : jw32 (x3 + 1) = x3 + 1 := j32e (by omega) (by omega)
                show jGo E l 136 229 229 _ 5 [.inr (.inr (.inl 101)), .inl a1, .inl x3, .inl (jw32 (x3 + 1))] [] 229 jr0 h
                exact ih x3 (jw32 (x3 + 1)) (by omega) (by omega) (by omega)
  refine jGo_blk qX5_worstOf_0 ?_
  show jGo E l 136 229 229 _ 5 [.inr (.inr (.inl 101)), .inl a1, .inl (-9), .inl 0] [] 229 jr0 h
  exact (key 1000000000000) (-9) 0 (by omega) (by omega) (by omega)

def w_X11_worst (i k : Int) : Prop := (i = 1)
def k_X11_worst (a1 : Int) (h : JH) (v : Option JV) (r' g : JH) : Prop := r' = jr0 ∧ jfr w_X11_worst h g ∧ ∃ x : Int, v = some (.inl x) ∧ (-9 ≤ x ∧ x ≤ 39) ∧ (True)
set_option maxHeartbeats 4000000 in
theorem c_X11_worst {E : JE} {l : Launch} (a1 : Int) (h : JH) : jMt E l 137 [.inr (.inr (.inl 0)), .inl a1] 229 jr0 h (k_X11_worst a1 h) := by
  refine jMt0 (nL := 2) (ls := [.inr (.inr (.inl 0)), .inl a1]) (by decide +kernel) (by decide +kernel) (by decide +kernel) rfl rfl ?_
  have f0 : jfr w_X11_worst h h := jfr_rf _ _
  refine jGo_blk qX11_worst_0 ?_
  refine st_cs (na := 2) (st := [.inl 6, .inl a1]) rfl rfl rfl (c_X11_within a1 6 h) rfl ?_
  rintro _ _ _ ⟨rfl, rfl, t1, rfl, ht1, zt1⟩ kt1
  replace kt1 : -2147483648 ≤ t1 ∧ t1 ≤ 2147483647 := kt1
  replace ht1 : 0 ≤ t1 ∧ t1 ≤ 1 := ht1
  replace zt1 : (t1 = 1 ∧ 0 ≤ a1 ∧ a1 < (6 : Int)) ∨ (t1 = 0 ∧ ¬ (0 ≤ a1 ∧ a1 < (6 : Int))) := zt1
  refine And.intro (fun c3 => ?_) (fun c3 => ?_)
  · replace c3 : ¬ t1 = 0 := c3
    show jGo E l 137 229 229 _ 17 [.inr (.inr (.inl 0)), .inl a1] [] 229 jr0 h
    refine jGo_blk qX11_worst_17 ?_
    refine st_gr jo_0 jr_0_9 ?_
    refine st_cv (na := 1) (st := [.inl a1, .inr (.inr (.inl 101))]) jo_101 rfl rfl rfl (c_X5_worstOf a1 h) rfl ?_
    rintro _ _ _ ⟨rfl, rfl, t4, rfl, ht4, zt4⟩ kt4
    replace kt4 : -2147483648 ≤ t4 ∧ t4 ≤ 2147483647 := kt4
    replace ht4 : -9 ≤ t4 ∧ t4 ≤ 39 := ht4
    show jGo E l 137 229 229 _ 25 [.inr (.inr (.inl 0)), .inl a1] [.inl t4] 229 jr0 h
    refine jGo_blk qX11_worst_25 ?_
    exact st_r0 (ls := []) ⟨rfl, rfl, f0, t4, rfl, (by omega), trivial⟩
  · replace c3 : t1 = 0 := by first | exact c3 | exact Int.not_le.mp c3 | exact Int.not_lt.mp c3 | exact Decidable.not_not.mp c3
    refine st_cv (na := 1) (st := [.inl (-1), .inr (.inr (.inl 0))]) jo_0 rfl rfl rfl (c_X11_refused (-1) h (by omega)) rfl ?_
    rintro _ _ g7 ⟨rfl, ft6, t6, rfl, ht6, zt6⟩ kt6
    replace kt6 : -2147483648 ≤ t6 ∧ t6 ≤ 2147483647 := kt6
    replace ht6 : -7 ≤ t6 ∧ t6 ≤ -1 := ht6
    have fg7 : jfr w_X11_worst h g7 := jfr_tr f0 ft6 (fun i k q => by unfold w_X11_refused at q; unfold w_X11_worst; omega)
    replace zt6 : t6 = (-1 : Int) := zt6
    show jGo E l 137 229 229 _ 25 [.inr (.inr (.inl 0)), .inl a1] [.inl t6] 229 jr0 g7
    refine jGo_blk qX11_worst_25 ?_
    exact st_r0 (ls := []) ⟨rfl, rfl, fg7, t6, rfl, (by omega), trivial⟩

def k_X12_spanOf (a1 : Int) (h : JH) (v : Option JV) (r' g : JH) : Prop := r' = jr0 ∧ h = g ∧ ∃ x : Int, v = some (.inr (.inl x)) ∧ (-1998 ≤ x ∧ x ≤ 2000) ∧ (True)
set_option maxHeartbeats 4000000 in
theorem c_X12_spanOf {E : JE} {l : Launch} (a1 : Int) (h : JH) (p1 : 0 ≤ a1 ∧ a1 ≤ 39) : jMt E l 138 [.inr (.inr (.inl 176)), .inl a1] 229 jr0 h (k_X12_spanOf a1 h) := by
  refine jMt0 (nL := 2) (ls := [.inr (.inr (.inl 176)), .inl a1]) (by decide +kernel) (by decide +kernel) (by decide +kernel) rfl rfl ?_
  refine jGo_blk qX12_spanOf_0 ?_
  refine st_gr jo_176 jr_176_47 ?_
  refine st_ai jo_216 (show 0 ≤ a1 by omega) (show a1 < ((40 : Nat) : Int) by omega) (fun v1 ev1 b2 => ?_)
  replace ev1 : v1 = h 216 a1 := ev1
  replace b2 := (jba_216 a1 _).1 b2
  refine st_gr jo_176 jr_176_49 ?_
  refine st_ai jo_218 (show 0 ≤ a1 by omega) (show a1 < ((40 : Nat) : Int) by omega) (fun v3 ev3 b4 => ?_)
  replace ev3 : v3 = h 218 a1 := ev3
  replace b4 := (jba_218 a1 _).1 b4
  refine And.intro (fun c5 => ?_) (fun c5 => ?_)
  · replace c5 : v1 ≤ v3 := c5
    show jGo E l 138 229 229 _ 32 [.inr (.inr (.inl 176)), .inl a1] [] 229 jr0 h
    refine jGo_blk qX12_spanOf_32 ?_
    show jGo E l 138 229 229 _ 33 [.inr (.inr (.inl 176)), .inl a1] [.inr (.inl 1)] 229 jr0 h
    refine jGo_blk qX12_spanOf_33 ?_
    exact ⟨rfl, rfl, rfl, 1, rfl, (by omega), trivial⟩
  · replace c5 : v3 < v1 := by first | exact c5 | exact Int.not_le.mp c5 | exact Int.not_lt.mp c5 | exact Decidable.not_not.mp c5
    refine st_gr jo_176 jr_176_47 ?_
    refine st_ai jo_216 (show 0 ≤ a1 by omega) (show a1 < ((40 : Nat) : Int) by omega) (fun v6 ev6 b7 => ?_)
    replace ev6 : v6 = h 216 a1 := ev6
    replace b7 := (jba_216 a1 _).1 b7
    refine st_gr jo_176 jr_176_49 ?_
    refine st_ai jo_218 (show 0 ≤ a1 by omega) (show a1 < ((40 : Nat) : Int) by omega) (fun v8 ev8 b9 => ?_)
    replace ev8 : v8 = h 218 a1 := ev8
    replace b9 := (jba_218 a1 _).1 b9
    have e10 : jw32 (v6 - v8) = v6 - v8 := j32e (by omega) (by omega)
    show jGo E l 138 229 229 _ 33 [.inr (.inr (.inl 176)), .inl a1] [.inr (.inl (jw32 (v6 - v8)))] 229 jr0 h
    refine jGo_blk qX12_spanOf_33 ?_
    exact ⟨rfl, rfl, rfl, jw32 (v6 - v8), rfl, (by omega), trivial⟩

def w_X12_worst (i k : Int) : Prop := (i = 219)
def k_X12_worst (a1 : Int) (h : JH) (v : Option JV) (r' g : JH) : Prop := r' = jr0 ∧ jfr w_X12_worst h g ∧ ∃ x : Int, v = some (.inl x) ∧ (-9 ≤ x ∧ x ≤ 39) ∧ (True)
set_option maxHeartbeats 4000000 in
theorem c_X12_worst {E : JE} {l : Launch} (a1 : Int) (h : JH) : jMt E l 139 [.inr (.inr (.inl 176)), .inl a1] 229 jr0 h (k_X12_worst a1 h) := by
  refine jMt0 (nL := 4) (ls := [.inr (.inr (.inl 176)), .inl a1, .inr (.inr (.inr ())), .inr (.inr (.inr ()))]) (by decide +kernel) (by decide +kernel) (by decide +kernel) rfl rfl ?_
  have f0 : jfr w_X12_worst h h := jfr_rf _ _
  have key : ∀ N : Nat, (∀ (x2 : Int) (x3 : Int) (g : JH), (0 ≤ a1 ∧ a1 ≤ 5 ∧ (-9) ≤ x2 ∧ x2 ≤ 39 ∧ 0 ≤ x3 ∧ x3 ≤ 40) → (x2 = -9 ∨ (0 ≤ x2 ∧ x2 ≤ 39)) → jfr w_X12_worst h g → (40 - x3) < (N : Int) → jGo E l 139 229 229 (jRK (k_X12_worst a1 h)) 20 [.inr (.inr (.inl 176)), .inl a1, .inl x2, .inl x3] [] 229 jr0 g) := by
    intro N
    induction N with
    | zero => exact fun _ _ _ hi hx0 _ hN => absurd hN (by omega)
    | succ N ih =>
      intro x2 x3 g hi hx0 hf hN
      refine jGo_blk qX12_worst_20 ?_
      refine st_gi jo_176 (fun v1 ev1 b2 => ?_)
      replace ev1 : v1 = g 176 45 := ev1
      replace b2 := (jbf_12_45 jo_176 _).1 b2
      refine And.intro (fun c3 => ?_) (fun c3 => ?_)
      · replace c3 : v1 ≤ x3 := c3
        show jGo E l 139 229 229 _ 89 [.inr (.inr (.inl 176)), .inl a1, .inl x2, .inl x3] [] 229 jr0 g
        refine jGo_blk qX12_worst_89 ?_
        exact st_r0 (ls := []) ⟨rfl, rfl, hf, x2, rfl, (by omega), trivial⟩
      · replace c3 : x3 < v1 := by first | exact c3 | exact Int.not_le.mp c3 | exact Int.not_lt.mp c3 | exact Decidable.not_not.mp c3
        refine st_gr jo_176 jr_176_46 ?_
        refine st_ai jo_215 (show 0 ≤ x3 by omega) (show x3 < ((40 : Nat) : Int) by omega) (fun v4 ev4 b5 => ?_)
        replace ev4 : v4 = g 215 x3 := ev4
        replace b5 := (jba_215 x3 _).1 b5
        refine And.intro (fun c6 => ?_) (fun c6 => ?_)
        · replace c6 : ¬ v4 = a1 := c6
          show jGo E l 139 229 229 _ 83 [.inr (.inr (.inl 176)), .inl a1, .inl x2, .inl x3] [] 229 jr0 g
          refine jGo_blk qX12_worst_83 ?_
          have e7 : jw32 (x3 + 1) = x3 + 1 := j32e (by omega) (by omega)
          show jGo E l 139 229 229 _ 20 [.inr (.inr (.inl 176)), .inl a1, .inl x2, .inl (jw32 (x3 + 1))] [] 229 jr0 g
          exact ih x2 (jw32 (x3 + 1)) g (by omega) (by omega) hf (by omega)
        · replace c6 : v4 = a1 := by first | exact c6 | exact Int.not_le.mp c6 | exact Int.not_lt.mp c6 | exact Decidable.not_not.mp c6
          refine st_gr jo_176 jr_176_48 ?_
          refine st_ai jo_217 (show 0 ≤ x3 by omega) (show x3 < ((40 : Nat) : Int) by omega) (fun v8 ev8 b9 => ?_)
          replace ev8 : v8 = g 217 x3 := ev8
          replace b9 := (jba_217 x3 _).1 b9
          refine And.intro (fun c10 => ?_) (fun c10 => ?_)
          · replace c10 : v8 ≤ 0 := c10
            show jGo E l 139 229 229 _ 83 [.inr (.inr (.inl 176)), .inl a1, .inl x2, .inl x3] [] 229 jr0 g
            refine jGo_blk qX12_worst_83 ?_
            have e11 : jw32 (x3 + 1) = x3 + 1 := j32e (by omega) (by omega)
            show jGo E l 139 229 229 _ 20 [.inr (.inr (.inl 176)), .inl a1, .inl x2, .inl (jw32 (x3 + 1))] [] 229 jr0 g
            exact ih x2 (jw32 (x3 + 1)) g (by omega) (by omega) hf (by omega)
          · replace c10 : 0 < v8 := by first | exact c10 | exact Int.not_le.mp c10 | exact Int.not_lt.mp c10 | exact Decidable.not_not.mp c10
            refine And.intro (fun c12 => ?_) (fun c12 => ?_)
            · replace c12 : x2 < 0 := c12
              show jGo E l 139 229 229 _ 81 [.inr (.inr (.inl 176)), .inl a1, .inl x2, .inl x3] [] 229 jr0 g
              refine jGo_blk qX12_worst_81 ?_
              show jGo E l 139 229 229 _ 83 [.inr (.inr (.inl 176)), .inl a1, .inl x3, .inl x3] [] 229 jr0 g
              refine jGo_blk qX12_worst_83 ?_
              have e13 : jw32 (x3 + 1) = x3 + 1 := j32e (by omega) (by omega)
              show jGo E l 139 229 229 _ 20 [.inr (.inr (.inl 176)), .inl a1, .inl x3, .inl (jw32 (x3 + 1))] [] 229 jr0 g
              exact ih x3 (jw32 (x3 + 1)) g (by omega) (by omega) hf (by omega)
            · replace c12 : 0 ≤ x2 := by first | exact c12 | exact Int.not_le.mp c12 | exact Int.not_lt.mp c12 | exact Decidable.not_not.mp c12
              refine st_gr jo_176 jr_176_48 ?_
              refine st_ai jo_217 (show 0 ≤ x3 by omega) (show x3 < ((40 : Nat) : Int) by omega) (fun v14 ev14 b15 => ?_)
              replace ev14 : v14 = g 217 x3 := ev14
              replace b15 := (jba_217 x3 _).1 b15
              refine st_cv (na := 1) (st := [.inl x2, .inr (.inr (.inl 176)), .inr (.inl v14)]) jo_176 rfl rfl rfl (c_X12_spanOf x2 g (by omega)) rfl ?_
              rintro _ _ _ ⟨rfl, rfl, t16, rfl, ht16, zt16⟩ kt16
              replace kt16 : -9223372036854775808 ≤ t16 ∧ t16 ≤ 9223372036854775807 := kt16
              replace ht16 : -1998 ≤ t16 ∧ t16 ≤ 2000 := ht16
              refine st_gr jo_176 jr_176_48 ?_
              refine st_ai jo_217 (show 0 ≤ x2 by omega) (show x2 < ((40 : Nat) : Int) by omega) (fun v18 ev18 b19 => ?_)
              replace ev18 : v18 = g 217 x2 := ev18
              replace b19 := (jba_217 x2 _).1 b19
              refine st_cv (na := 1) (st := [.inl x3, .inr (.inr (.inl 176)), .inr (.inl v18), .inr (.inl (jw64 (v14 * t16)))]) jo_176 rfl rfl rfl (c_X12_spanOf x3 g (by omega)) rfl ?_
              rintro _ _ _ ⟨rfl, rfl, t20, rfl, ht20, zt20⟩ kt20
              replace kt20 : -9223372036854775808 ≤ t20 ∧ t20 ≤ 9223372036854775807 := kt20
              replace ht20 : -1998 ≤ t20 ∧ t20 ≤ 2000 := ht20
              have e22 := jlc_u (jw64 (v14 * t16)) (jw64 (v18 * t20))
              refine And.intro (fun c23 => ?_) (fun c23 => ?_)
              · replace c23 : jlc (jw64 (v14 * t16)) (jw64 (v18 * t20)) ≤ 0 := c23
                show jGo E l 139 229 229 _ 83 [.inr (.inr (.inl 176)), .inl a1, .inl x2, .inl x3] [] 229 jr0 g
                refine jGo_blk qX12_worst_83 ?_
                have e24 : jw32 (x3 + 1) = x3 + 1 := j32e (by omega) (by omega)
                show jGo E l 139 229 229 _ 20 [.inr (.inr (.inl 176)), .inl a1, .inl x2, .inl (jw32 (x3 + 1))] [] 229 jr0 g
                exact ih x2 (jw32 (x3 + 1)) g (by omega) (by omega) hf (by omega)
              · replace c23 : 0 < jlc (jw64 (v14 * t16)) (jw64 (v18 * t20)) := by first | exact c23 | exact Int.not_le.mp c23 | exact Int.not_lt.mp c23 | exact Decidable.not_not.mp c23
                show jGo E l 139 229 229 _ 81 [.inr (.inr (.inl 176)), .inl a1, .inl x2, .inl x3] [] 229 jr0 g
                refine jGo_blk qX12_worst_81 ?_
                show jGo E l 139 229 229 _ 83 [.inr (.inr (.inl 176)), .inl a1, .inl x3, .inl x3] [] 229 jr0 g
                refine jGo_blk qX12_worst_83 ?_
                have e25 : jw32 (x3 + 1) = x3 + 1 := j32e (by omega) (by omega)
                show jGo E l 139 229 229 _ 20 [.inr (.inr (.inl 176)), .inl a1, .inl x3, .inl (jw32 (x3 + 1))] [] 229 jr0 g
                exact ih x3 (jw32 (x3 + 1)) g (by omega) (by omega) hf (by omega)
  refine jGo_blk qX12_worst_0 ?_
  refine st_cs (na := 3) (st := [.inl 5, .inl 0, .inl a1]) rfl rfl rfl (c_X12_in a1 0 5 h) rfl ?_
  rintro _ _ _ ⟨rfl, rfl, t26, rfl, ht26, zt26⟩ kt26
  replace kt26 : -2147483648 ≤ t26 ∧ t26 ≤ 2147483647 := kt26
  replace ht26 : 0 ≤ t26 ∧ t26 ≤ 1 := ht26
  replace zt26 : (t26 = 1 ∧ (0 : Int) ≤ a1 ∧ a1 ≤ (5 : Int)) ∨ (t26 = 0 ∧ ¬ ((0 : Int) ≤ a1 ∧ a1 ≤ (5 : Int))) := zt26
  refine And.intro (fun c28 => ?_) (fun c28 => ?_)
  · replace c28 : ¬ t26 = 0 := c28
    show jGo E l 139 229 229 _ 15 [.inr (.inr (.inl 176)), .inl a1, .inr (.inr (.inr ())), .inr (.inr (.inr ()))] [] 229 jr0 h
    refine jGo_blk qX12_worst_15 ?_
    show jGo E l 139 229 229 _ 20 [.inr (.inr (.inl 176)), .inl a1, .inl (-9), .inl 0] [] 229 jr0 h
    exact (key 1000000000000) (-9) 0 h (by omega) (by omega) f0 (by omega)
  · replace c28 : t26 = 0 := by first | exact c28 | exact Int.not_le.mp c28 | exact Int.not_lt.mp c28 | exact Decidable.not_not.mp c28
    refine st_cv (na := 1) (st := [.inl (-1), .inr (.inr (.inl 176))]) jo_176 rfl rfl rfl (c_X12_refuse (-1) h (by omega)) rfl ?_
    rintro _ _ g30 ⟨rfl, ft29, t29, rfl, ht29, zt29⟩ kt29
    replace kt29 : -2147483648 ≤ t29 ∧ t29 ≤ 2147483647 := kt29
    replace ht29 : -7 ≤ t29 ∧ t29 ≤ -1 := ht29
    have fg30 : jfr w_X12_worst h g30 := jfr_tr f0 ft29 (fun i k q => by unfold w_X12_refuse at q; unfold w_X12_worst; omega)
    replace zt29 : t29 = (-1 : Int) := zt29
    exact st_r0 (ls := []) ⟨rfl, rfl, fg30, t29, rfl, (by omega), trivial⟩

def w_X0_write_113 (i k : Int) : Prop := (i = 15) ∨ (114 ≤ i ∧ i ≤ 117) ∨ (i = 11 ∧ k = 5)
def k_X0_write_113 (a1 : Int) (a2 : Int) (h : JH) (v : Option JV) (r' g : JH) : Prop := r' = jr0 ∧ jfr w_X0_write_113 h g ∧ v = none ∧ (True)
set_option maxHeartbeats 4000000 in
theorem c_X0_write_113 {E : JE} {l : Launch} (a1 : Int) (a2 : Int) (h : JH) (p1 : 0 ≤ a1 ∧ a1 ≤ 299) (p2 : 0 ≤ a2 ∧ a2 ≤ 2400) : jMt E l 72 [.inr (.inr (.inl 113)), .inl a1, .inl a2, .inr (.inr (.inl 2)), .inr (.inr (.inl 11))] 229 jr0 h (k_X0_write_113 a1 a2 h) := by
  refine jMt0 (nL := 8) (ls := [.inr (.inr (.inl 113)), .inl a1, .inl a2, .inr (.inr (.inl 2)), .inr (.inr (.inl 11)), .inr (.inr (.inr ())), .inr (.inr (.inr ())), .inr (.inr (.inr ()))]) (by decide +kernel) (by decide +kernel) (by decide +kernel) rfl rfl ?_
  have f0 : jfr w_X0_write_113 h h := jfr_rf _ _
  have key : ∀ N : Nat, (∀ (x5 : Int) (x6 : Int) (x7 : JV) (g : JH), (0 ≤ x5 ∧ x5 ≤ 200 ∧ 0 ≤ x6 ∧ x6 ≤ 4) → jfr w_X0_write_113 h g → (4 - x6) < (N : Int) → jGo E l 72 229 229 (jRK (k_X0_write_113 a1 a2 h)) 61 [.inr (.inr (.inl 113)), .inl a1, .inl a2, .inr (.inr (.inl 2)), .inr (.inr (.inl 11)), .inl x5, .inl x6, x7] [] 229 jr0 g) := by
    intro N
    induction N with
    | zero => exact fun _ _ _ _ hi _ hN => absurd hN (by omega)
    | succ N ih =>
      intro x5 x6 x7 g hi hf hN
      refine jGo_blk qX0_write_61 ?_
      refine And.intro (fun c1 => ?_) (fun c1 => ?_)
      · replace c1 : 4 ≤ x6 := c1
        show jGo E l 72 229 229 _ 135 [.inr (.inr (.inl 113)), .inl a1, .inl a2, .inr (.inr (.inl 2)), .inr (.inr (.inl 11)), .inl x5, .inl x6, x7] [] 229 jr0 g
        refine jGo_blk qX0_write_135 ?_
        exact ⟨rfl, rfl, hf, rfl, trivial⟩
      · replace c1 : x6 < 4 := by first | exact c1 | exact Int.not_le.mp c1 | exact Int.not_lt.mp c1 | exact Decidable.not_not.mp c1
        refine st_cv (na := 2) (st := [.inl a2, .inl x6, .inr (.inr (.inl 2))]) jo_2 rfl rfl rfl (c_X1_handsOfDay x6 a2 g (by omega) (by omega)) rfl ?_
        rintro _ _ _ ⟨rfl, rfl, t2, rfl, ht2, zt2⟩ kt2
        replace kt2 : -2147483648 ≤ t2 ∧ t2 ≤ 2147483647 := kt2
        replace ht2 : 0 ≤ t2 ∧ t2 ≤ 400 := ht2
        replace zt2 : t2 = jHd g x6 a2 ∧ -1 ≤ g 4 x6 ∧ g 4 x6 ≤ 3 ∧ (g 4 x6 < 0 ∨ g 10 (g 4 x6) ≤ 30) := zt2
        refine st_gr jo_113 jr_113_0 ?_
        have e4 : jw32 (a1 * 4) = a1 * 4 := j32e (by omega) (by omega)
        have e5 : jw32 ((jw32 (a1 * 4)) + x6) = (jw32 (a1 * 4)) + x6 := j32e (by omega) (by omega)
        refine st_si jo_114 (show 0 ≤ jw32 ((jw32 (a1 * 4)) + x6) by omega) (show jw32 ((jw32 (a1 * 4)) + x6) < ((1200 : Nat) : Int) by omega) (fun hx => (jba_114 _ _).2 (show 0 ≤ t2 ∧ t2 ≤ 400 by omega)) (fun g6 eg6 => ?_)
        replace eg6 : g6 = jup g 114 (jw32 ((jw32 (a1 * 4)) + x6)) t2 := eg6
        have fg6 : jfr w_X0_write_113 h g6 := jfr_up hf eg6 (by unfold w_X0_write_113; omega)
        have e7 : g6 114 (jw32 ((jw32 (a1 * 4)) + x6)) = t2 := jup_s eg6
        refine st_gr jo_113 jr_113_2 ?_
        refine st_ai jo_116 (show 0 ≤ a1 by omega) (show a1 < ((300 : Nat) : Int) by omega) (fun v8 ev8 b9 => ?_)
        replace ev8 : v8 = g6 116 a1 := ev8
        replace b9 := (jba_116 a1 _).1 b9
        refine st_cv (na := 2) (st := [.inl x6, .inl 0, .inr (.inr (.inl 11)), .inl t2, .inl v8, .inl a1, .inr (.inr (.inl 116))]) jo_11 rfl rfl rfl (c_X2_inForce 0 x6 g6 (by omega)) rfl ?_
        rintro _ _ _ ⟨rfl, rfl, t10, rfl, ht10, zt10⟩ kt10
        replace kt10 : -2147483648 ≤ t10 ∧ t10 ≤ 2147483647 := kt10
        replace ht10 : 0 ≤ t10 ∧ t10 ≤ 200 := ht10
        replace zt10 : t10 = g6 15 (jsl (0 : Int) x6) := zt10
        refine st_si jo_116 (show 0 ≤ a1 by omega) (show a1 < ((300 : Nat) : Int) by omega) (fun hx => (jba_116 _ _).2 hx) (fun g12 eg12 => ?_)
        replace eg12 : g12 = jup g6 116 a1 (jw32 (v8 + (jw32 (t2 * t10)))) := eg12
        have fg12 : jfr w_X0_write_113 h g12 := jfr_up fg6 eg12 (by unfold w_X0_write_113; omega)
        have e13 : g12 116 a1 = jw32 (v8 + (jw32 (t2 * t10))) := jup_s eg12
        refine st_gr jo_113 jr_113_3 ?_
        refine st_ai jo_117 (show 0 ≤ a1 by omega) (show a1 < ((300 : Nat) : Int) by omega) (fun v14 ev14 b15 => ?_)
        replace ev14 : v14 = g12 117 a1 := ev14
        replace b15 := (jba_117 a1 _).1 b15
        refine st_cv (na := 2) (st := [.inl x6, .inl 1, .inr (.inr (.inl 11)), .inl t2, .inl v14, .inl a1, .inr (.inr (.inl 117))]) jo_11 rfl rfl rfl (c_X2_inForce 1 x6 g12 (by omega)) rfl ?_
        rintro _ _ _ ⟨rfl, rfl, t16, rfl, ht16, zt16⟩ kt16
        replace kt16 : -2147483648 ≤ t16 ∧ t16 ≤ 2147483647 := kt16
        replace ht16 : 0 ≤ t16 ∧ t16 ≤ 200 := ht16
        replace zt16 : t16 = g12 15 (jsl (1 : Int) x6) := zt16
        refine st_si jo_117 (show 0 ≤ a1 by omega) (show a1 < ((300 : Nat) : Int) by omega) (fun hx => (jba_117 _ _).2 hx) (fun g18 eg18 => ?_)
        replace eg18 : g18 = jup g12 117 a1 (jw32 (v14 + (jw32 (t2 * t16)))) := eg18
        have fg18 : jfr w_X0_write_113 h g18 := jfr_up fg12 eg18 (by unfold w_X0_write_113; omega)
        have e19 : g18 117 a1 = jw32 (v14 + (jw32 (t2 * t16))) := jup_s eg18
        have e20 : jw32 (x6 + 1) = x6 + 1 := j32e (by omega) (by omega)
        show jGo E l 72 229 229 _ 61 [.inr (.inr (.inl 113)), .inl a1, .inl a2, .inr (.inr (.inl 2)), .inr (.inr (.inl 11)), .inl x5, .inl (jw32 (x6 + 1)), .inl t2] [] 229 jr0 g18
        exact ih x5 (jw32 (x6 + 1)) (.inl t2) g18 (by omega) fg18 (by omega)
  refine jGo_blk qX0_write_0 ?_
  refine st_cv (na := 1) (st := [.inl a2, .inr (.inr (.inl 11))]) jo_11 rfl rfl rfl (c_X2_goOnTo a2 h) rfl ?_
  rintro _ _ g22 ⟨rfl, ft21, rfl, zt21⟩ kt21
  have fg22 : jfr w_X0_write_113 h g22 := jfr_tr f0 ft21 (fun i k q => by unfold w_X2_goOnTo at q; unfold w_X0_write_113; omega)
  replace zt21 : (jCo h → jCo g22) ∧ h 11 5 ≤ g22 11 5 ∧ (∀ i : Int, h 11 5 ≤ i → i < g22 11 5 → h 14 i ≤ a2) ∧ (h 11 5 ≤ h 11 0 → g22 11 5 ≤ h 11 0) ∧ (h 11 0 ≤ g22 11 5 ∨ a2 < h 14 (g22 11 5)) := zt21
  refine st_cv (na := 2) (st := [.inl 0, .inl 2, .inr (.inr (.inl 11))]) jo_11 rfl rfl rfl (c_X2_inForce 2 0 g22 (by omega)) rfl ?_
  rintro _ _ _ ⟨rfl, rfl, t23, rfl, ht23, zt23⟩ kt23
  replace kt23 : -2147483648 ≤ t23 ∧ t23 ≤ 2147483647 := kt23
  replace ht23 : 0 ≤ t23 ∧ t23 ≤ 200 := ht23
  replace zt23 : t23 = g22 15 (jsl (2 : Int) (0 : Int)) := zt23
  refine st_gr jo_113 jr_113_1 ?_
  refine And.intro (fun c25 => ?_) (fun c25 => ?_)
  · replace c25 : t23 = 0 := c25
    show jGo E l 72 229 229 _ 36 [.inr (.inr (.inl 113)), .inl a1, .inl a2, .inr (.inr (.inl 2)), .inr (.inr (.inl 11)), .inl t23, .inr (.inr (.inr ())), .inr (.inr (.inr ()))] [.inl a1, .inr (.inr (.inl 115))] 229 jr0 g22
    refine jGo_blk qX0_write_36 ?_
    refine st_cv (na := 2) (st := [.inl 0, .inl 3, .inr (.inr (.inl 11)), .inl a1, .inr (.inr (.inl 115))]) jo_11 rfl rfl rfl (c_X2_inForce 3 0 g22 (by omega)) rfl ?_
    rintro _ _ _ ⟨rfl, rfl, t26, rfl, ht26, zt26⟩ kt26
    replace kt26 : -2147483648 ≤ t26 ∧ t26 ≤ 2147483647 := kt26
    replace ht26 : 0 ≤ t26 ∧ t26 ≤ 200 := ht26
    replace zt26 : t26 = g22 15 (jsl (3 : Int) (0 : Int)) := zt26
    show jGo E l 72 229 229 _ 43 [.inr (.inr (.inl 113)), .inl a1, .inl a2, .inr (.inr (.inl 2)), .inr (.inr (.inl 11)), .inl t23, .inr (.inr (.inr ())), .inr (.inr (.inr ()))] [.inl t26, .inl a1, .inr (.inr (.inl 115))] 229 jr0 g22
    refine jGo_blk qX0_write_43 ?_
    refine st_si jo_115 (show 0 ≤ a1 by omega) (show a1 < ((300 : Nat) : Int) by omega) (fun hx => (jba_115 _ _).2 (show 0 ≤ t26 ∧ t26 ≤ 200 by omega)) (fun g28 eg28 => ?_)
    replace eg28 : g28 = jup g22 115 a1 t26 := eg28
    have fg28 : jfr w_X0_write_113 h g28 := jfr_up fg22 eg28 (by unfold w_X0_write_113; omega)
    have e29 : g28 115 a1 = t26 := jup_s eg28
    refine st_gr jo_113 jr_113_2 ?_
    refine st_si jo_116 (show 0 ≤ a1 by omega) (show a1 < ((300 : Nat) : Int) by omega) (fun hx => (jba_116 _ _).2 hx) (fun g30 eg30 => ?_)
    replace eg30 : g30 = jup g28 116 a1 0 := eg30
    have fg30 : jfr w_X0_write_113 h g30 := jfr_up fg28 eg30 (by unfold w_X0_write_113; omega)
    have e31 : g30 116 a1 = 0 := jup_s eg30
    refine st_gr jo_113 jr_113_3 ?_
    refine st_si jo_117 (show 0 ≤ a1 by omega) (show a1 < ((300 : Nat) : Int) by omega) (fun hx => (jba_117 _ _).2 hx) (fun g32 eg32 => ?_)
    replace eg32 : g32 = jup g30 117 a1 0 := eg32
    have fg32 : jfr w_X0_write_113 h g32 := jfr_up fg30 eg32 (by unfold w_X0_write_113; omega)
    have e33 : g32 117 a1 = 0 := jup_s eg32
    show jGo E l 72 229 229 _ 61 [.inr (.inr (.inl 113)), .inl a1, .inl a2, .inr (.inr (.inl 2)), .inr (.inr (.inl 11)), .inl t23, .inl 0, .inr (.inr (.inr ()))] [] 229 jr0 g32
    exact (key 1000000000000) t23 0 (.inr (.inr (.inr ()))) g32 (by omega) fg32 (by omega)
  · replace c25 : ¬ t23 = 0 := by first | exact c25 | exact Int.not_le.mp c25 | exact Int.not_lt.mp c25 | exact Decidable.not_not.mp c25
    refine And.intro (show t23 ≠ 0 by omega) ?_
    have e34 : True ∧ 0 ≤ a2.tmod t23 ∧ a2.tmod t23 < t23 := ⟨trivial, (jmd (by omega) (by omega)).2⟩
    refine And.intro (fun c35 => ?_) (fun c35 => ?_)
    · replace c35 : ¬ a2.tmod t23 = 0 := c35
      show jGo E l 72 229 229 _ 36 [.inr (.inr (.inl 113)), .inl a1, .inl a2, .inr (.inr (.inl 2)), .inr (.inr (.inl 11)), .inl t23, .inr (.inr (.inr ())), .inr (.inr (.inr ()))] [.inl a1, .inr (.inr (.inl 115))] 229 jr0 g22
      refine jGo_blk qX0_write_36 ?_
      refine st_cv (na := 2) (st := [.inl 0, .inl 3, .inr (.inr (.inl 11)), .inl a1, .inr (.inr (.inl 115))]) jo_11 rfl rfl rfl (c_X2_inForce 3 0 g22 (by omega)) rfl ?_
      rintro _ _ _ ⟨rfl, rfl, t36, rfl, ht36, zt36⟩ kt36
      replace kt36 : -2147483648 ≤ t36 ∧ t36 ≤ 2147483647 := kt36
      replace ht36 : 0 ≤ t36 ∧ t36 ≤ 200 := ht36
      replace zt36 : t36 = g22 15 (jsl (3 : Int) (0 : Int)) := zt36
      show jGo E l 72 229 229 _ 43 [.inr (.inr (.inl 113)), .inl a1, .inl a2, .inr (.inr (.inl 2)), .inr (.inr (.inl 11)), .inl t23, .inr (.inr (.inr ())), .inr (.inr (.inr ()))] [.inl t36, .inl a1, .inr (.inr (.inl 115))] 229 jr0 g22
      refine jGo_blk qX0_write_43 ?_
      refine st_si jo_115 (show 0 ≤ a1 by omega) (show a1 < ((300 : Nat) : Int) by omega) (fun hx => (jba_115 _ _).2 (show 0 ≤ t36 ∧ t36 ≤ 200 by omega)) (fun g38 eg38 => ?_)
      replace eg38 : g38 = jup g22 115 a1 t36 := eg38
      have fg38 : jfr w_X0_write_113 h g38 := jfr_up fg22 eg38 (by unfold w_X0_write_113; omega)
      have e39 : g38 115 a1 = t36 := jup_s eg38
      refine st_gr jo_113 jr_113_2 ?_
      refine st_si jo_116 (show 0 ≤ a1 by omega) (show a1 < ((300 : Nat) : Int) by omega) (fun hx => (jba_116 _ _).2 hx) (fun g40 eg40 => ?_)
      replace eg40 : g40 = jup g38 116 a1 0 := eg40
      have fg40 : jfr w_X0_write_113 h g40 := jfr_up fg38 eg40 (by unfold w_X0_write_113; omega)
      have e41 : g40 116 a1 = 0 := jup_s eg40
      refine st_gr jo_113 jr_113_3 ?_
      refine st_si jo_117 (show 0 ≤ a1 by omega) (show a1 < ((300 : Nat) : Int) by omega) (fun hx => (jba_117 _ _).2 hx) (fun g42 eg42 => ?_)
      replace eg42 : g42 = jup g40 117 a1 0 := eg42
      have fg42 : jfr w_X0_write_113 h g42 := jfr_up fg40 eg42 (by unfold w_X0_write_113; omega)
      have e43 : g42 117 a1 = 0 := jup_s eg42
      show jGo E l 72 229 229 _ 61 [.inr (.inr (.inl 113)), .inl a1, .inl a2, .inr (.inr (.inl 2)), .inr (.inr (.inl 11)), .inl t23, .inl 0, .inr (.inr (.inr ()))] [] 229 jr0 g42
      exact (key 1000000000000) t23 0 (.inr (.inr (.inr ()))) g42 (by omega) fg42 (by omega)
    · replace c35 : a2.tmod t23 = 0 := by first | exact c35 | exact Int.not_le.mp c35 | exact Int.not_lt.mp c35 | exact Decidable.not_not.mp c35
      show jGo E l 72 229 229 _ 43 [.inr (.inr (.inl 113)), .inl a1, .inl a2, .inr (.inr (.inl 2)), .inr (.inr (.inl 11)), .inl t23, .inr (.inr (.inr ())), .inr (.inr (.inr ()))] [.inl 0, .inl a1, .inr (.inr (.inl 115))] 229 jr0 g22
      refine jGo_blk qX0_write_43 ?_
      refine st_si jo_115 (show 0 ≤ a1 by omega) (show a1 < ((300 : Nat) : Int) by omega) (fun hx => (jba_115 _ _).2 (show 0 ≤ 0 ∧ 0 ≤ 200 by omega)) (fun g44 eg44 => ?_)
      replace eg44 : g44 = jup g22 115 a1 0 := eg44
      have fg44 : jfr w_X0_write_113 h g44 := jfr_up fg22 eg44 (by unfold w_X0_write_113; omega)
      have e45 : g44 115 a1 = 0 := jup_s eg44
      refine st_gr jo_113 jr_113_2 ?_
      refine st_si jo_116 (show 0 ≤ a1 by omega) (show a1 < ((300 : Nat) : Int) by omega) (fun hx => (jba_116 _ _).2 hx) (fun g46 eg46 => ?_)
      replace eg46 : g46 = jup g44 116 a1 0 := eg46
      have fg46 : jfr w_X0_write_113 h g46 := jfr_up fg44 eg46 (by unfold w_X0_write_113; omega)
      have e47 : g46 116 a1 = 0 := jup_s eg46
      refine st_gr jo_113 jr_113_3 ?_
      refine st_si jo_117 (show 0 ≤ a1 by omega) (show a1 < ((300 : Nat) : Int) by omega) (fun hx => (jba_117 _ _).2 hx) (fun g48 eg48 => ?_)
      replace eg48 : g48 = jup g46 117 a1 0 := eg48
      have fg48 : jfr w_X0_write_113 h g48 := jfr_up fg46 eg48 (by unfold w_X0_write_113; omega)
      have e49 : g48 117 a1 = 0 := jup_s eg48
      show jGo E l 72 229 229 _ 61 [.inr (.inr (.inl 113)), .inl a1, .inl a2, .inr (.inr (.inl 2)), .inr (.inr (.inl 11)), .inl t23, .inl 0, .inr (.inr (.inr ()))] [] 229 jr0 g48
      exact (key 1000000000000) t23 0 (.inr (.inr (.inr ()))) g48 (by omega) fg48 (by omega)

def w_X7_standAt (i k : Int) : Prop := (i = 15) ∨ (114 ≤ i ∧ i ≤ 118) ∨ (i = 11 ∧ k = 5) ∨ (i = 111 ∧ k = 3) ∨ (i = 111 ∧ k = 9)
def k_X7_standAt (a1 : Int) (h : JH) (v : Option JV) (r' g : JH) : Prop := r' = jr0 ∧ jfr w_X7_standAt h g ∧ v = none ∧ (True)
set_option maxHeartbeats 4000000 in
theorem c_X7_standAt {E : JE} {l : Launch} (a1 : Int) (h : JH) (p1 : 0 ≤ a1 ∧ a1 ≤ 2000) : jMt E l 140 [.inr (.inr (.inl 111)), .inl a1, .inr (.inr (.inl 2)), .inr (.inr (.inl 11))] 229 jr0 h (k_X7_standAt a1 h) := by
  refine jMt0 (nL := 6) (ls := [.inr (.inr (.inl 111)), .inl a1, .inr (.inr (.inl 2)), .inr (.inr (.inl 11)), .inr (.inr (.inr ())), .inr (.inr (.inr ()))]) (by decide +kernel) (by decide +kernel) (by decide +kernel) rfl rfl ?_
  have f0 : jfr w_X7_standAt h h := jfr_rf _ _
  have key : ∀ N : Nat, (∀ (x4 : Int) (x5 : JV) (g : JH), (0 ≤ x4 ∧ x4 ≤ 300) → jfr w_X7_standAt h g → (300 - x4) * 1000000 + 999999 < (N : Int) → jGo E l 140 229 229 (jRK (k_X7_standAt a1 h)) 28 [.inr (.inr (.inl 111)), .inl a1, .inr (.inr (.inl 2)), .inr (.inr (.inl 11)), .inl x4, x5] [] 229 jr0 g) ∧
      (∀ (x4 : Int) (x5 : Int) (g : JH), (0 ≤ x4 ∧ x4 ≤ 299 ∧ 0 ≤ x5 ∧ x5 ≤ 4) → jfr w_X7_standAt h g → (300 - x4) * 1000000 + (4 - x5) < (N : Int) → jGo E l 140 229 229 (jRK (k_X7_standAt a1 h)) 59 [.inr (.inr (.inl 111)), .inl a1, .inr (.inr (.inl 2)), .inr (.inr (.inl 11)), .inl x4, .inl x5] [] 229 jr0 g) := by
    intro N
    induction N with
    | zero => exact ⟨fun _ _ _ hi _ hN => absurd hN (by omega), fun _ _ _ hi _ hN => absurd hN (by omega)⟩
    | succ N ih =>
      refine ⟨?_, ?_⟩
      · intro x4 x5 g hi hf hN
        refine jGo_blk qX7_standAt_28 ?_
        refine And.intro (fun c1 => ?_) (fun c1 => ?_)
        · replace c1 : 300 ≤ x4 := c1
          show jGo E l 140 229 229 _ 117 [.inr (.inr (.inl 111)), .inl a1, .inr (.inr (.inl 2)), .inr (.inr (.inl 11)), .inl x4, x5] [] 229 jr0 g
          refine jGo_blk qX7_standAt_117 ?_
          refine st_pi jo_111 (fun hx => (jbf_7_9 jo_111 _).2 (show 0 ≤ 1 ∧ 1 ≤ 1 by omega)) (fun g2 eg2 => ?_)
          replace eg2 : g2 = jup g 111 9 1 := eg2
          have fg2 : jfr w_X7_standAt h g2 := jfr_up hf eg2 (by unfold w_X7_standAt; omega)
          have e3 : g2 111 9 = 1 := jup_s eg2
          exact ⟨rfl, rfl, fg2, rfl, trivial⟩
        · replace c1 : x4 < 300 := by first | exact c1 | exact Int.not_le.mp c1 | exact Int.not_lt.mp c1 | exact Decidable.not_not.mp c1
          refine st_gr jo_111 jr_111_4 ?_
          refine st_gi jo_111 (fun v4 ev4 b5 => ?_)
          replace ev4 : v4 = g 111 3 := ev4
          replace b5 := (jbf_7_3 jo_111 _).1 b5
          have e6 : jw32 (v4 + 1) = v4 + 1 := j32e (by omega) (by omega)
          have e7 : jw32 ((jw32 (v4 + 1)) + x4) = (jw32 (v4 + 1)) + x4 := j32e (by omega) (by omega)
          refine st_cv (na := 4) (st := [.inr (.inr (.inl 11)), .inr (.inr (.inl 2)), .inl (jw32 ((jw32 (v4 + 1)) + x4)), .inl x4, .inr (.inr (.inl 113))]) jo_113 rfl rfl rfl (c_X0_write_113 x4 (jw32 ((jw32 (v4 + 1)) + x4)) g (by omega) (by omega)) rfl ?_
          rintro _ _ g9 ⟨rfl, ft8, rfl, zt8⟩ kt8
          have fg9 : jfr w_X7_standAt h g9 := jfr_tr hf ft8 (fun i k q => by unfold w_X0_write_113 at q; unfold w_X7_standAt; omega)
          show jGo E l 140 229 229 _ 59 [.inr (.inr (.inl 111)), .inl a1, .inr (.inr (.inl 2)), .inr (.inr (.inl 11)), .inl x4, .inl 0] [] 229 jr0 g9
          exact ih.2 x4 0 g9 (by omega) fg9 (by omega)
      · intro x4 x5 g hi hf hN
        refine jGo_blk qX7_standAt_59 ?_
        refine And.intro (fun c10 => ?_) (fun c10 => ?_)
        · replace c10 : 4 ≤ x5 := c10
          show jGo E l 140 229 229 _ 111 [.inr (.inr (.inl 111)), .inl a1, .inr (.inr (.inl 2)), .inr (.inr (.inl 11)), .inl x4, .inl x5] [] 229 jr0 g
          refine jGo_blk qX7_standAt_111 ?_
          have e11 : jw32 (x4 + 1) = x4 + 1 := j32e (by omega) (by omega)
          show jGo E l 140 229 229 _ 28 [.inr (.inr (.inl 111)), .inl a1, .inr (.inr (.inl 2)), .inr (.inr (.inl 11)), .inl (jw32 (x4 + 1)), .inl x5] [] 229 jr0 g
          exact ih.1 (jw32 (x4 + 1)) (.inl x5) g (by omega) hf (by omega)
        · replace c10 : x5 < 4 := by first | exact c10 | exact Int.not_le.mp c10 | exact Int.not_lt.mp c10 | exact Decidable.not_not.mp c10
          refine st_gr jo_111 jr_111_4 ?_
          refine st_gr jo_113 jr_113_1 ?_
          refine st_ai jo_115 (show 0 ≤ x4 by omega) (show x4 < ((300 : Nat) : Int) by omega) (fun v12 ev12 b13 => ?_)
          replace ev12 : v12 = g 115 x4 := ev12
          replace b13 := (jba_115 x4 _).1 b13
          refine And.intro (fun c14 => ?_) (fun c14 => ?_)
          · replace c14 : v12 ≤ 0 := c14
            show jGo E l 140 229 229 _ 105 [.inr (.inr (.inl 111)), .inl a1, .inr (.inr (.inl 2)), .inr (.inr (.inl 11)), .inl x4, .inl x5] [] 229 jr0 g
            refine jGo_blk qX7_standAt_105 ?_
            have e15 : jw32 (x5 + 1) = x5 + 1 := j32e (by omega) (by omega)
            show jGo E l 140 229 229 _ 59 [.inr (.inr (.inl 111)), .inl a1, .inr (.inr (.inl 2)), .inr (.inr (.inl 11)), .inl x4, .inl (jw32 (x5 + 1))] [] 229 jr0 g
            exact ih.2 x4 (jw32 (x5 + 1)) g (by omega) hf (by omega)
          · replace c14 : 0 < v12 := by first | exact c14 | exact Int.not_le.mp c14 | exact Int.not_lt.mp c14 | exact Decidable.not_not.mp c14
            refine st_gr jo_111 jr_111_4 ?_
            refine st_gr jo_113 jr_113_0 ?_
            have e16 : jw32 (x4 * 4) = x4 * 4 := j32e (by omega) (by omega)
            have e17 : jw32 ((jw32 (x4 * 4)) + x5) = (jw32 (x4 * 4)) + x5 := j32e (by omega) (by omega)
            refine st_ai jo_114 (show 0 ≤ jw32 ((jw32 (x4 * 4)) + x5) by omega) (show jw32 ((jw32 (x4 * 4)) + x5) < ((1200 : Nat) : Int) by omega) (fun v18 ev18 b19 => ?_)
            replace ev18 : v18 = g 114 (jw32 ((jw32 (x4 * 4)) + x5)) := ev18
            replace b19 := (jba_114 (jw32 ((jw32 (x4 * 4)) + x5)) _).1 b19
            refine And.intro (fun c20 => ?_) (fun c20 => ?_)
            · replace c20 : v18 ≤ 0 := c20
              show jGo E l 140 229 229 _ 105 [.inr (.inr (.inl 111)), .inl a1, .inr (.inr (.inl 2)), .inr (.inr (.inl 11)), .inl x4, .inl x5] [] 229 jr0 g
              refine jGo_blk qX7_standAt_105 ?_
              have e21 : jw32 (x5 + 1) = x5 + 1 := j32e (by omega) (by omega)
              show jGo E l 140 229 229 _ 59 [.inr (.inr (.inl 111)), .inl a1, .inr (.inr (.inl 2)), .inr (.inr (.inl 11)), .inl x4, .inl (jw32 (x5 + 1))] [] 229 jr0 g
              exact ih.2 x4 (jw32 (x5 + 1)) g (by omega) hf (by omega)
            · replace c20 : 0 < v18 := by first | exact c20 | exact Int.not_le.mp c20 | exact Int.not_lt.mp c20 | exact Decidable.not_not.mp c20
              refine st_gr jo_111 jr_111_5 ?_
              refine st_si jo_118 (show 0 ≤ x5 by omega) (show x5 < ((4 : Nat) : Int) by omega) (fun hx => (jba_118 _ _).2 (show -1 ≤ x4 ∧ x4 ≤ 299 by omega)) (fun g22 eg22 => ?_)
              replace eg22 : g22 = jup g 118 x5 x4 := eg22
              have fg22 : jfr w_X7_standAt h g22 := jfr_up hf eg22 (by unfold w_X7_standAt; omega)
              have e23 : g22 118 x5 = x4 := jup_s eg22
              show jGo E l 140 229 229 _ 105 [.inr (.inr (.inl 111)), .inl a1, .inr (.inr (.inl 2)), .inr (.inr (.inl 11)), .inl x4, .inl x5] [] 229 jr0 g22
              refine jGo_blk qX7_standAt_105 ?_
              have e24 : jw32 (x5 + 1) = x5 + 1 := j32e (by omega) (by omega)
              show jGo E l 140 229 229 _ 59 [.inr (.inr (.inl 111)), .inl a1, .inr (.inr (.inl 2)), .inr (.inr (.inl 11)), .inl x4, .inl (jw32 (x5 + 1))] [] 229 jr0 g22
              exact ih.2 x4 (jw32 (x5 + 1)) g22 (by omega) fg22 (by omega)
  refine jGo_blk qX7_standAt_0 ?_
  refine st_gi jo_111 (fun v25 ev25 b26 => ?_)
  replace ev25 : v25 = h 111 9 := ev25
  replace b26 := (jbf_7_9 jo_111 _).1 b26
  refine And.intro (fun c27 => ?_) (fun c27 => ?_)
  · replace c27 : v25 = 0 := c27
    show jGo E l 140 229 229 _ 8 [.inr (.inr (.inl 111)), .inl a1, .inr (.inr (.inl 2)), .inr (.inr (.inl 11)), .inr (.inr (.inr ())), .inr (.inr (.inr ()))] [] 229 jr0 h
    refine jGo_blk qX7_standAt_8 ?_
    refine st_pi jo_111 (fun hx => (jbf_7_3 jo_111 _).2 (show 0 ≤ a1 ∧ a1 ≤ 2000 by omega)) (fun g28 eg28 => ?_)
    replace eg28 : g28 = jup h 111 3 a1 := eg28
    have fg28 : jfr w_X7_standAt h g28 := jfr_up f0 eg28 (by unfold w_X7_standAt; omega)
    have e29 : g28 111 3 = a1 := jup_s eg28
    refine st_cv (na := 0) (st := [.inr (.inr (.inl 11))]) jo_11 rfl rfl rfl (c_X2_rewind g28) rfl ?_
    rintro _ _ g31 ⟨rfl, ft30, rfl, zt30⟩ kt30
    have fg31 : jfr w_X7_standAt h g31 := jfr_tr fg28 ft30 (fun i k q => by unfold w_X2_rewind at q; unfold w_X7_standAt; omega)
    replace zt30 : (∀ t : Int, 0 ≤ t → t ≤ 9 → g31 15 t = if t = 9 then 60 else 0) ∧ g31 11 5 = 0 := zt30
    refine st_gr jo_111 jr_111_5 ?_
    refine st_cs (na := 2) (st := [.inl (-1), .inr (.inr (.inl 118))]) rfl rfl rfl (c_fill 118 (-1) g31 jo_118 (by decide) (fun k hx => (jba_118 _ _).2 (by omega))) rfl ?_
    rintro _ _ g33 ⟨rfl, ft32, rfl, zt32⟩ kt32
    have fg33 : jfr w_X7_standAt h g33 := jfr_tr fg31 ft32 (fun i k q => by unfold w_fill at q; unfold w_X7_standAt; omega)
    show jGo E l 140 229 229 _ 28 [.inr (.inr (.inl 111)), .inl a1, .inr (.inr (.inl 2)), .inr (.inr (.inl 11)), .inl 0, .inr (.inr (.inr ()))] [] 229 jr0 g33
    exact (key 1000000000000000000).1 0 (.inr (.inr (.inr ()))) g33 (by omega) fg33 (by omega)
  · replace c27 : ¬ v25 = 0 := by first | exact c27 | exact Int.not_le.mp c27 | exact Int.not_lt.mp c27 | exact Decidable.not_not.mp c27
    exact ⟨rfl, rfl, f0, rfl, trivial⟩
