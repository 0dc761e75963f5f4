def w_X11_gap (i k : Int) : Prop := (i = 1)
def k_X11_gap (a1 : Int) (a2 : Int) (h : JH) (v : Option JV) (r' g : JH) : Prop := r' = jr0 ∧ jfr w_X11_gap h g ∧ ∃ x : Int, v = some (.inl x) ∧ (True) ∧ (P_X11_gap a1 a2 x h)
set_option maxHeartbeats 4000000 in
theorem c_X11_gap {E : JE} {l : Launch} (a1 : Int) (a2 : Int) (h : JH) : jMt E l 131 [.inr (.inr (.inl 0)), .inl a1, .inl a2] 229 jr0 h (k_X11_gap a1 a2 h) := by
  refine jMt0 (nL := 3) (ls := [.inr (.inr (.inl 0)), .inl a1, .inl a2]) (by decide +kernel) (by decide +kernel) (by decide +kernel) rfl rfl ?_
  have f0 : jfr w_X11_gap h h := jfr_rf _ _
  refine jGo_blk qX11_gap_0 ?_
  refine st_gr jo_0 jr_0_9 ?_
  refine st_gi jo_101 (fun v1 ev1 b2 => ?_)
  replace ev1 : v1 = h 101 0 := ev1
  replace b2 := (jbf_5_0 jo_101 _).1 b2
  refine st_cs (na := 2) (st := [.inl v1, .inl a1]) rfl rfl rfl (c_X11_within a1 v1 h) rfl ?_
  rintro _ _ _ ⟨rfl, rfl, t3, rfl, ht3, zt3⟩ kt3
  replace kt3 : -2147483648 ≤ t3 ∧ t3 ≤ 2147483647 := kt3
  replace ht3 : 0 ≤ t3 ∧ t3 ≤ 1 := ht3
  replace zt3 : (t3 = 1 ∧ 0 ≤ a1 ∧ a1 < v1) ∨ (t3 = 0 ∧ ¬ (0 ≤ a1 ∧ a1 < v1)) := zt3
  refine And.intro (fun c5 => ?_) (fun c5 => ?_)
  · replace c5 : ¬ t3 = 0 := c5
    show jGo E l 131 229 229 _ 20 [.inr (.inr (.inl 0)), .inl a1, .inl a2] [] 229 jr0 h
    refine jGo_blk qX11_gap_20 ?_
    refine And.intro (fun c6 => ?_) (And.intro (fun c6 => ?_) (And.intro (fun c6 => ?_) (And.intro (fun c6 => ?_) (And.intro (fun c6 => ?_) (trivial)))))
    · replace c6 : a2 < 0 ∨ 3 < a2 := c6
      show jGo E l 131 229 229 _ 92 [.inr (.inr (.inl 0)), .inl a1, .inl a2] [] 229 jr0 h
      refine jGo_blk qX11_gap_92 ?_
      refine st_cv (na := 1) (st := [.inl (-2), .inr (.inr (.inl 0))]) jo_0 rfl rfl rfl (c_X11_refusedAside (-2) h (by omega)) rfl ?_
      rintro _ _ g8 ⟨rfl, ft7, t7, rfl, ht7, zt7⟩ kt7
      replace kt7 : -2147483648 ≤ t7 ∧ t7 ≤ 2147483647 := kt7
      replace ht7 : 2000000001 ≤ t7 ∧ t7 ≤ 2000000007 := ht7
      have fg8 : jfr w_X11_gap h g8 := jfr_tr f0 ft7 (fun i k q => by unfold w_X11_refusedAside at q; unfold w_X11_gap; omega)
      replace zt7 : t7 = 2000000000 - (-2 : Int) := zt7
      exact st_r0 (ls := []) ⟨rfl, rfl, fg8, t7, rfl, trivial, (by unfold P_X11_gap; first | exact Or.inl (by omega) | (refine Or.inr ⟨by omega, ?_⟩; first | exact Or.inl (by omega) | exact Or.inr (Or.inl (by omega)) | exact Or.inr (Or.inr (Or.inl (by omega))) | exact Or.inr (Or.inr (Or.inr (Or.inl (by omega)))) | exact Or.inr (Or.inr (Or.inr (Or.inr (by omega))))))⟩
    · replace c6 : a2 = 0 := c6
      show jGo E l 131 229 229 _ 52 [.inr (.inr (.inl 0)), .inl a1, .inl a2] [] 229 jr0 h
      refine jGo_blk qX11_gap_52 ?_
      refine st_gr jo_0 jr_0_9 ?_
      refine st_gr jo_101 jr_101_1 ?_
      refine st_ai jo_102 (show 0 ≤ a1 by omega) (show a1 < ((40 : Nat) : Int) by omega) (fun v9 ev9 b10 => ?_)
      replace ev9 : v9 = h 102 a1 := ev9
      replace b10 := (jba_102 a1 _).1 b10
      exact st_r0 (ls := []) ⟨rfl, rfl, f0, v9, rfl, trivial, (by unfold P_X11_gap; first | exact Or.inl (by omega) | (refine Or.inr ⟨by omega, ?_⟩; first | exact Or.inl (by omega) | exact Or.inr (Or.inl (by omega)) | exact Or.inr (Or.inr (Or.inl (by omega))) | exact Or.inr (Or.inr (Or.inr (Or.inl (by omega)))) | exact Or.inr (Or.inr (Or.inr (Or.inr (by omega))))))⟩
    · replace c6 : a2 = 1 := c6
      show jGo E l 131 229 229 _ 62 [.inr (.inr (.inl 0)), .inl a1, .inl a2] [] 229 jr0 h
      refine jGo_blk qX11_gap_62 ?_
      refine st_gr jo_0 jr_0_9 ?_
      refine st_gr jo_101 jr_101_2 ?_
      refine st_ai jo_103 (show 0 ≤ a1 by omega) (show a1 < ((40 : Nat) : Int) by omega) (fun v11 ev11 b12 => ?_)
      replace ev11 : v11 = h 103 a1 := ev11
      replace b12 := (jba_103 a1 _).1 b12
      exact st_r0 (ls := []) ⟨rfl, rfl, f0, v11, rfl, trivial, (by unfold P_X11_gap; first | exact Or.inl (by omega) | (refine Or.inr ⟨by omega, ?_⟩; first | exact Or.inl (by omega) | exact Or.inr (Or.inl (by omega)) | exact Or.inr (Or.inr (Or.inl (by omega))) | exact Or.inr (Or.inr (Or.inr (Or.inl (by omega)))) | exact Or.inr (Or.inr (Or.inr (Or.inr (by omega))))))⟩
    · replace c6 : a2 = 2 := c6
      show jGo E l 131 229 229 _ 72 [.inr (.inr (.inl 0)), .inl a1, .inl a2] [] 229 jr0 h
      refine jGo_blk qX11_gap_72 ?_
      refine st_gr jo_0 jr_0_9 ?_
      refine st_gr jo_101 jr_101_3 ?_
      refine st_ai jo_104 (show 0 ≤ a1 by omega) (show a1 < ((40 : Nat) : Int) by omega) (fun v13 ev13 b14 => ?_)
      replace ev13 : v13 = h 104 a1 := ev13
      replace b14 := (jba_104 a1 _).1 b14
      exact st_r0 (ls := []) ⟨rfl, rfl, f0, v13, rfl, trivial, (by unfold P_X11_gap; first | exact Or.inl (by omega) | (refine Or.inr ⟨by omega, ?_⟩; first | exact Or.inl (by omega) | exact Or.inr (Or.inl (by omega)) | exact Or.inr (Or.inr (Or.inl (by omega))) | exact Or.inr (Or.inr (Or.inr (Or.inl (by omega)))) | exact Or.inr (Or.inr (Or.inr (Or.inr (by omega))))))⟩
    · replace c6 : a2 = 3 := c6
      show jGo E l 131 229 229 _ 82 [.inr (.inr (.inl 0)), .inl a1, .inl a2] [] 229 jr0 h
      refine jGo_blk qX11_gap_82 ?_
      refine st_gr jo_0 jr_0_9 ?_
      refine st_gr jo_101 jr_101_4 ?_
      refine st_ai jo_105 (show 0 ≤ a1 by omega) (show a1 < ((40 : Nat) : Int) by omega) (fun v15 ev15 b16 => ?_)
      replace ev15 : v15 = h 105 a1 := ev15
      replace b16 := (jba_105 a1 _).1 b16
      exact st_r0 (ls := []) ⟨rfl, rfl, f0, v15, rfl, trivial, (by unfold P_X11_gap; first | exact Or.inl (by omega) | (refine Or.inr ⟨by omega, ?_⟩; first | exact Or.inl (by omega) | exact Or.inr (Or.inl (by omega)) | exact Or.inr (Or.inr (Or.inl (by omega))) | exact Or.inr (Or.inr (Or.inr (Or.inl (by omega)))) | exact Or.inr (Or.inr (Or.inr (Or.inr (by omega))))))⟩
  · replace c5 : t3 = 0 := by first | exact c5 | exact Int.not_le.mp c5 | exact Int.not_lt.mp c5 | exact Decidable.not_not.mp c5
    refine st_cv (na := 1) (st := [.inl (-1), .inr (.inr (.inl 0))]) jo_0 rfl rfl rfl (c_X11_refusedAside (-1) h (by omega)) rfl ?_
    rintro _ _ g18 ⟨rfl, ft17, t17, rfl, ht17, zt17⟩ kt17
    replace kt17 : -2147483648 ≤ t17 ∧ t17 ≤ 2147483647 := kt17
    replace ht17 : 2000000001 ≤ t17 ∧ t17 ≤ 2000000007 := ht17
    have fg18 : jfr w_X11_gap h g18 := jfr_tr f0 ft17 (fun i k q => by unfold w_X11_refusedAside at q; unfold w_X11_gap; omega)
    replace zt17 : t17 = 2000000000 - (-1 : Int) := zt17
    exact st_r0 (ls := []) ⟨rfl, rfl, fg18, t17, rfl, trivial, (by unfold P_X11_gap; first | exact Or.inl (by omega) | (refine Or.inr ⟨by omega, ?_⟩; first | exact Or.inl (by omega) | exact Or.inr (Or.inl (by omega)) | exact Or.inr (Or.inr (Or.inl (by omega))) | exact Or.inr (Or.inr (Or.inr (Or.inl (by omega)))) | exact Or.inr (Or.inr (Or.inr (Or.inr (by omega))))))⟩

def w_X12_gap (i k : Int) : Prop := (i = 219)
def k_X12_gap (a1 : Int) (a2 : Int) (h : JH) (v : Option JV) (r' g : JH) : Prop := r' = jr0 ∧ jfr w_X12_gap h g ∧ ∃ x : Int, v = some (.inl x) ∧ (True) ∧ (P_X12_gap a1 a2 x h)
set_option maxHeartbeats 4000000 in
theorem c_X12_gap {E : JE} {l : Launch} (a1 : Int) (a2 : Int) (h : JH) : jMt E l 132 [.inr (.inr (.inl 176)), .inl a1, .inl a2] 229 jr0 h (k_X12_gap a1 a2 h) := by
  refine jMt0 (nL := 3) (ls := [.inr (.inr (.inl 176)), .inl a1, .inl a2]) (by decide +kernel) (by decide +kernel) (by decide +kernel) rfl rfl ?_
  have f0 : jfr w_X12_gap h h := jfr_rf _ _
  refine jGo_blk qX12_gap_0 ?_
  refine st_gi jo_176 (fun v1 ev1 b2 => ?_)
  replace ev1 : v1 = h 176 45 := ev1
  replace b2 := (jbf_12_45 jo_176 _).1 b2
  have e3 : jw32 (v1 - 1) = v1 - 1 := j32e (by omega) (by omega)
  refine st_cs (na := 3) (st := [.inl (jw32 (v1 - 1)), .inl 0, .inl a1]) rfl rfl rfl (c_X12_in a1 0 (jw32 (v1 - 1)) h) rfl ?_
  rintro _ _ _ ⟨rfl, rfl, t4, rfl, ht4, zt4⟩ kt4
  replace kt4 : -2147483648 ≤ t4 ∧ t4 ≤ 2147483647 := kt4
  replace ht4 : 0 ≤ t4 ∧ t4 ≤ 1 := ht4
  replace zt4 : (t4 = 1 ∧ (0 : Int) ≤ a1 ∧ a1 ≤ (jw32 (v1 - 1))) ∨ (t4 = 0 ∧ ¬ ((0 : Int) ≤ a1 ∧ a1 ≤ (jw32 (v1 - 1)))) := zt4
  refine And.intro (fun c6 => ?_) (fun c6 => ?_)
  · replace c6 : ¬ t4 = 0 := c6
    show jGo E l 132 229 229 _ 20 [.inr (.inr (.inl 176)), .inl a1, .inl a2] [] 229 jr0 h
    refine jGo_blk qX12_gap_20 ?_
    refine And.intro (fun c7 => ?_) (And.intro (fun c7 => ?_) (And.intro (fun c7 => ?_) (And.intro (fun c7 => ?_) (And.intro (fun c7 => ?_) (trivial)))))
    · replace c7 : a2 < 0 ∨ 3 < a2 := c7
      show jGo E l 132 229 229 _ 80 [.inr (.inr (.inl 176)), .inl a1, .inl a2] [] 229 jr0 h
      refine jGo_blk qX12_gap_80 ?_
      refine st_cv (na := 1) (st := [.inl (-2), .inr (.inr (.inl 176))]) jo_176 rfl rfl rfl (c_X12_refuseFar (-2) h (by omega)) rfl ?_
      rintro _ _ g9 ⟨rfl, ft8, t8, rfl, ht8, zt8⟩ kt8
      replace kt8 : -2147483648 ≤ t8 ∧ t8 ≤ 2147483647 := kt8
      replace ht8 : 2000000001 ≤ t8 ∧ t8 ≤ 2000000007 := ht8
      have fg9 : jfr w_X12_gap h g9 := jfr_tr f0 ft8 (fun i k q => by unfold w_X12_refuseFar at q; unfold w_X12_gap; omega)
      replace zt8 : t8 = 2000000000 - (-2 : Int) := zt8
      exact st_r0 (ls := []) ⟨rfl, rfl, fg9, t8, rfl, trivial, (by unfold P_X12_gap; first | exact Or.inl (by omega) | (refine Or.inr ⟨by omega, ?_⟩; first | exact Or.inl (by omega) | exact Or.inr (Or.inl (by omega)) | exact Or.inr (Or.inr (Or.inl (by omega))) | exact Or.inr (Or.inr (Or.inr (Or.inl (by omega)))) | exact Or.inr (Or.inr (Or.inr (Or.inr (by omega))))))⟩
    · replace c7 : a2 = 0 := c7
      show jGo E l 132 229 229 _ 52 [.inr (.inr (.inl 176)), .inl a1, .inl a2] [] 229 jr0 h
      refine jGo_blk qX12_gap_52 ?_
      refine st_gr jo_176 jr_176_46 ?_
      refine st_ai jo_215 (show 0 ≤ a1 by omega) (show a1 < ((40 : Nat) : Int) by omega) (fun v10 ev10 b11 => ?_)
      replace ev10 : v10 = h 215 a1 := ev10
      replace b11 := (jba_215 a1 _).1 b11
      exact st_r0 (ls := []) ⟨rfl, rfl, f0, v10, rfl, trivial, (by unfold P_X12_gap; first | exact Or.inl (by omega) | (refine Or.inr ⟨by omega, ?_⟩; first | exact Or.inl (by omega) | exact Or.inr (Or.inl (by omega)) | exact Or.inr (Or.inr (Or.inl (by omega))) | exact Or.inr (Or.inr (Or.inr (Or.inl (by omega)))) | exact Or.inr (Or.inr (Or.inr (Or.inr (by omega))))))⟩
    · replace c7 : a2 = 1 := c7
      show jGo E l 132 229 229 _ 59 [.inr (.inr (.inl 176)), .inl a1, .inl a2] [] 229 jr0 h
      refine jGo_blk qX12_gap_59 ?_
      refine st_gr jo_176 jr_176_47 ?_
      refine st_ai jo_216 (show 0 ≤ a1 by omega) (show a1 < ((40 : Nat) : Int) by omega) (fun v12 ev12 b13 => ?_)
      replace ev12 : v12 = h 216 a1 := ev12
      replace b13 := (jba_216 a1 _).1 b13
      exact st_r0 (ls := []) ⟨rfl, rfl, f0, v12, rfl, trivial, (by unfold P_X12_gap; first | exact Or.inl (by omega) | (refine Or.inr ⟨by omega, ?_⟩; first | exact Or.inl (by omega) | exact Or.inr (Or.inl (by omega)) | exact Or.inr (Or.inr (Or.inl (by omega))) | exact Or.inr (Or.inr (Or.inr (Or.inl (by omega)))) | exact Or.inr (Or.inr (Or.inr (Or.inr (by omega))))))⟩
    · replace c7 : a2 = 2 := c7
      show jGo E l 132 229 229 _ 66 [.inr (.inr (.inl 176)), .inl a1, .inl a2] [] 229 jr0 h
      refine jGo_blk qX12_gap_66 ?_
      refine st_gr jo_176 jr_176_48 ?_
      refine st_ai jo_217 (show 0 ≤ a1 by omega) (show a1 < ((40 : Nat) : Int) by omega) (fun v14 ev14 b15 => ?_)
      replace ev14 : v14 = h 217 a1 := ev14
      replace b15 := (jba_217 a1 _).1 b15
      exact st_r0 (ls := []) ⟨rfl, rfl, f0, v14, rfl, trivial, (by unfold P_X12_gap; first | exact Or.inl (by omega) | (refine Or.inr ⟨by omega, ?_⟩; first | exact Or.inl (by omega) | exact Or.inr (Or.inl (by omega)) | exact Or.inr (Or.inr (Or.inl (by omega))) | exact Or.inr (Or.inr (Or.inr (Or.inl (by omega)))) | exact Or.inr (Or.inr (Or.inr (Or.inr (by omega))))))⟩
    · replace c7 : a2 = 3 := c7
      show jGo E l 132 229 229 _ 73 [.inr (.inr (.inl 176)), .inl a1, .inl a2] [] 229 jr0 h
      refine jGo_blk qX12_gap_73 ?_
      refine st_gr jo_176 jr_176_49 ?_
      refine st_ai jo_218 (show 0 ≤ a1 by omega) (show a1 < ((40 : Nat) : Int) by omega) (fun v16 ev16 b17 => ?_)
      replace ev16 : v16 = h 218 a1 := ev16
      replace b17 := (jba_218 a1 _).1 b17
      exact st_r0 (ls := []) ⟨rfl, rfl, f0, v16, rfl, trivial, (by unfold P_X12_gap; first | exact Or.inl (by omega) | (refine Or.inr ⟨by omega, ?_⟩; first | exact Or.inl (by omega) | exact Or.inr (Or.inl (by omega)) | exact Or.inr (Or.inr (Or.inl (by omega))) | exact Or.inr (Or.inr (Or.inr (Or.inl (by omega)))) | exact Or.inr (Or.inr (Or.inr (Or.inr (by omega))))))⟩
  · replace c6 : t4 = 0 := by first | exact c6 | exact Int.not_le.mp c6 | exact Int.not_lt.mp c6 | exact Decidable.not_not.mp c6
    refine st_cv (na := 1) (st := [.inl (-1), .inr (.inr (.inl 176))]) jo_176 rfl rfl rfl (c_X12_refuseFar (-1) h (by omega)) rfl ?_
    rintro _ _ g19 ⟨rfl, ft18, t18, rfl, ht18, zt18⟩ kt18
    replace kt18 : -2147483648 ≤ t18 ∧ t18 ≤ 2147483647 := kt18
    replace ht18 : 2000000001 ≤ t18 ∧ t18 ≤ 2000000007 := ht18
    have fg19 : jfr w_X12_gap h g19 := jfr_tr f0 ft18 (fun i k q => by unfold w_X12_refuseFar at q; unfold w_X12_gap; omega)
    replace zt18 : t18 = 2000000000 - (-1 : Int) := zt18
    exact st_r0 (ls := []) ⟨rfl, rfl, fg19, t18, rfl, trivial, (by unfold P_X12_gap; first | exact Or.inl (by omega) | (refine Or.inr ⟨by omega, ?_⟩; first | exact Or.inl (by omega) | exact Or.inr (Or.inl (by omega)) | exact Or.inr (Or.inr (Or.inl (by omega))) | exact Or.inr (Or.inr (Or.inr (Or.inl (by omega)))) | exact Or.inr (Or.inr (Or.inr (Or.inr (by omega))))))⟩

def k_X5_spanOf (a1 : Int) (h : JH) (v : Option JV) (r' g : JH) : Prop := r' = jr0 ∧ h = g ∧ ∃ x : Int, v = some (.inl x) ∧ (1 ≤ x ∧ x ≤ 2000) ∧ (x = jSpn (h 103) (h 105) a1)
set_option maxHeartbeats 4000000 in
theorem c_X5_spanOf {E : JE} {l : Launch} (a1 : Int) (h : JH) (p1 : 0 ≤ a1 ∧ a1 ≤ 39) : jMt E l 134 [.inr (.inr (.inl 101)), .inl a1] 229 jr0 h (k_X5_spanOf a1 h) := by
  refine jMt0 (nL := 2) (ls := [.inr (.inr (.inl 101)), .inl a1]) (by decide +kernel) (by decide +kernel) (by decide +kernel) rfl rfl ?_
  refine jGo_blk qX5_spanOf_0 ?_
  refine st_gr jo_101 jr_101_2 ?_
  refine st_ai jo_103 (show 0 ≤ a1 by omega) (show a1 < ((40 : Nat) : Int) by omega) (fun v1 ev1 b2 => ?_)
  replace ev1 : v1 = h 103 a1 := ev1
  replace b2 := (jba_103 a1 _).1 b2
  refine st_gr jo_101 jr_101_4 ?_
  refine st_ai jo_105 (show 0 ≤ a1 by omega) (show a1 < ((40 : Nat) : Int) by omega) (fun v3 ev3 b4 => ?_)
  replace ev3 : v3 = h 105 a1 := ev3
  replace b4 := (jba_105 a1 _).1 b4
  have e5 : jw32 (v1 - v3) = v1 - v3 := j32e (by omega) (by omega)
  refine st_m1 rfl (fun v6 m1v6 m2v6 m3v6 => ?_)
  replace m1v6 : v6 ≥ 1 := m1v6; replace m2v6 : v6 ≥ jw32 (v1 - v3) := m2v6; replace m3v6 : v6 = 1 ∨ v6 = jw32 (v1 - v3) := m3v6
  have hc7 : v6 = jSpn (h 103) (h 105) a1 := by
    unfold jSpn; omega
  exact st_r0 (ls := []) ⟨rfl, rfl, rfl, v6, rfl, (by omega), (by exact hc7)⟩

def k_X5_isWorse (a1 : Int) (a2 : Int) (h : JH) (v : Option JV) (r' g : JH) : Prop := r' = jr0 ∧ h = g ∧ ∃ x : Int, v = some (.inl x) ∧ (0 ≤ x ∧ x ≤ 1) ∧ ((x = 1 ∧ h 104 a2 * jSpn (h 103) (h 105) a1 < h 104 a1 * jSpn (h 103) (h 105) a2) ∨ (x = 0 ∧ ¬ h 104 a2 * jSpn (h 103) (h 105) a1 < h 104 a1 * jSpn (h 103) (h 105) a2))
set_option maxHeartbeats 4000000 in
theorem c_X5_isWorse {E : JE} {l : Launch} (a1 : Int) (a2 : Int) (h : JH) (p1 : 0 ≤ a1 ∧ a1 ≤ 39) (p2 : 0 ≤ a2 ∧ a2 ≤ 39) : jMt E l 135 [.inr (.inr (.inl 101)), .inl a1, .inl a2] 229 jr0 h (k_X5_isWorse a1 a2 h) := by
  refine jMt0 (nL := 3) (ls := [.inr (.inr (.inl 101)), .inl a1, .inl a2]) (by decide +kernel) (by decide +kernel) (by decide +kernel) rfl rfl ?_
  refine jGo_blk qX5_isWorse_0 ?_
  refine st_gr jo_101 jr_101_3 ?_
  refine st_ai jo_104 (show 0 ≤ a1 by omega) (show a1 < ((40 : Nat) : Int) by omega) (fun v1 ev1 b2 => ?_)
  replace ev1 : v1 = h 104 a1 := ev1
  replace b2 := (jba_104 a1 _).1 b2
  refine st_cv (na := 1) (st := [.inl a2, .inr (.inr (.inl 101)), .inr (.inl v1)]) jo_101 rfl rfl rfl (c_X5_spanOf a2 h (by omega)) rfl ?_
  rintro _ _ _ ⟨rfl, rfl, t3, rfl, ht3, zt3⟩ kt3
  replace kt3 : -2147483648 ≤ t3 ∧ t3 ≤ 2147483647 := kt3
  replace ht3 : 1 ≤ t3 ∧ t3 ≤ 2000 := ht3
  replace zt3 : t3 = jSpn (h 103) (h 105) a2 := zt3
  have e5 : jw64 (v1 * t3) = v1 * t3 := jmwl (by omega) (by omega) (by omega) (by omega)
  refine st_gr jo_101 jr_101_3 ?_
  refine st_ai jo_104 (show 0 ≤ a2 by omega) (show a2 < ((40 : Nat) : Int) by omega) (fun v6 ev6 b7 => ?_)
  replace ev6 : v6 = h 104 a2 := ev6
  replace b7 := (jba_104 a2 _).1 b7
  refine st_cv (na := 1) (st := [.inl a1, .inr (.inr (.inl 101)), .inr (.inl v6), .inr (.inl (jw64 (v1 * t3)))]) jo_101 rfl rfl rfl (c_X5_spanOf a1 h (by omega)) rfl ?_
  rintro _ _ _ ⟨rfl, rfl, t8, rfl, ht8, zt8⟩ kt8
  replace kt8 : -2147483648 ≤ t8 ∧ t8 ≤ 2147483647 := kt8
  replace ht8 : 1 ≤ t8 ∧ t8 ≤ 2000 := ht8
  replace zt8 : t8 = jSpn (h 103) (h 105) a1 := zt8
  have e10 : jw64 (v6 * t8) = v6 * t8 := jmwl (by omega) (by omega) (by omega) (by omega)
  have e11 := jlc_u (jw64 (v1 * t3)) (jw64 (v6 * t8))
  refine And.intro (fun c12 => ?_) (fun c12 => ?_)
  · replace c12 : jlc (jw64 (v1 * t3)) (jw64 (v6 * t8)) ≤ 0 := c12
    show jGo E l 135 229 229 _ 36 [.inr (.inr (.inl 101)), .inl a1, .inl a2] [] 229 jr0 h
    refine jGo_blk qX5_isWorse_36 ?_
    show jGo E l 135 229 229 _ 37 [.inr (.inr (.inl 101)), .inl a1, .inl a2] [.inl 0] 229 jr0 h
    refine jGo_blk qX5_isWorse_37 ?_
    exact st_r1 (ls := []) (show (0 : Int) = 0 ∨ (0 : Int) = 1 by omega) ⟨rfl, rfl, rfl, 0, rfl, (by omega), (by subst zt8 ev6 zt3 ev1; omega)⟩
  · replace c12 : 0 < jlc (jw64 (v1 * t3)) (jw64 (v6 * t8)) := by first | exact c12 | exact Int.not_le.mp c12 | exact Int.not_lt.mp c12 | exact Decidable.not_not.mp c12
    show jGo E l 135 229 229 _ 37 [.inr (.inr (.inl 101)), .inl a1, .inl a2] [.inl 1] 229 jr0 h
    refine jGo_blk qX5_isWorse_37 ?_
    exact st_r1 (ls := []) (show (1 : Int) = 0 ∨ (1 : Int) = 1 by omega) ⟨rfl, rfl, rfl, 1, rfl, (by omega), (by subst zt8 ev6 zt3 ev1; omega)⟩

def k_X5_worstOf (a1 : Int) (h : JH) (v : Option JV) (r' g : JH) : Prop := r' = jr0 ∧ h = g ∧ ∃ x : Int, v = some (.inl x) ∧ (-9 ≤ x ∧ x ≤ 39) ∧ (x = jWst (h 102) (h 103) (h 104) (h 105) a1 (h 101 0).toNat)
set_option maxHeartbeats 4000000 in
theorem c_X5_worstOf {E : JE} {l : Launch} (a1 : Int) (h : JH) : jMt E l 136 [.inr (.inr (.inl 101)), .inl a1] 229 jr0 h (k_X5_worstOf a1 h) := by
  refine jMt0 (nL := 4) (ls := [.inr (.inr (.inl 101)), .inl a1, .inr (.inr (.inr ())), .inr (.inr (.inr ()))]) (by decide +kernel) (by decide +kernel) (by decide +kernel) rfl rfl ?_
  refine jGo_bd (fun hbd => ?_)
  have hb0 := (jbf_5_0 jo_101 _).1 (hbd 101 0)
  have key : ∀ N : Nat, (∀ (x2 : Int) (x3 : Int), ((-9) ≤ x2 ∧ x2 ≤ 39 ∧ 0 ≤ x3 ∧ x3 ≤ 40) → (x2 = -9 ∨ (0 ≤ x2 ∧ x2 ≤ 39)) → (x2 = jWst (h 102) (h 103) (h 104) (h 105) a1 (x3).toNat) → (0 ≤ x3 ∧ x3 ≤ h 101 0) → (40 - x3) < (N : Int) → jGo E l 136 229 229 (jRK (k_X5_worstOf a1 h)) 5 [.inr (.inr (.inl 101)), .inl a1, .inl x2, .inl x3] [] 229 jr0 h) := by
    intro N
    induction N with
    | zero => exact fun _ _ hi hx0 hx1 hx2 hN => absurd hN (by omega)
    | succ N ih =>
      intro x2 x3 hi hx0 hx1 hx2 hN
      refine jGo_blk qX5_worstOf_5 ?_
      refine st_gi jo_101 (fun v1 ev1 b2 => ?_)
      replace ev1 : v1 = h 101 0 := ev1
      replace b2 := (jbf_5_0 jo_101 _).1 b2
      refine And.intro (fun c3 => ?_) (fun c3 => ?_)
      · replace c3 : v1 ≤ x3 := c3
        show jGo E l 136 229 229 _ 55 [.inr (.inr (.inl 101)), .inl a1, .inl x2, .inl x3] [] 229 jr0 h
        refine jGo_blk qX5_worstOf_55 ?_
        exact st_r0 (ls := []) ⟨rfl, rfl, rfl, x2, rfl, (by omega), (by rw [show h 101 0 = x3 by omega]; exact hx1)⟩
      · replace c3 : x3 < v1 := by first | exact c3 | exact Int.not_le.mp c3 | exact Int.not_lt.mp c3 | exact Decidable.not_not.mp c3
        refine st_gr jo_101 jr_101_1 ?_
        refine st_ai jo_102 (show 0 ≤ x3 by omega) (show x3 < ((40 : Nat) : Int) by omega) (fun v4 ev4 b5 => ?_)
        replace ev4 : v4 = h 102 x3 := ev4
        replace b5 := (jba_102 x3 _).1 b5
        refine And.intro (fun c6 => ?_) (fun c6 => ?_)
        · replace c6 : ¬ v4 = a1 := c6
          show jGo E l 136 229 229 _ 49 [.inr (.inr (.inl 101)), .inl a1, .inl x2, .inl x3] [] 229 jr0 h
          refine jGo_blk qX5_worstOf_49 ?_
          have e7 : jw32 (x3 + 1) = x3 + 1 := j32e (by omega) (by omega)
          show jGo E l 136 229 229 _ 5 [.inr (.inr (.inl 101)), .inl a1, .inl x2, .inl (jw32 (x3 + 1))] [] 229 jr0 h
          exact ih x2 (jw32 (x3 + 1)) (by omega) (by omega) (by rw [show jw32 (x3 + 1) = x3 + 1 by omega, jWst_s (by omega), ← hx1]; exact (if_neg (fun q => by omega)).symm) (by omega) (by omega)
        · replace c6 : v4 = a1 := by first | exact c6 | exact Int.not_le.mp c6 | exact Int.not_lt.mp c6 | exact Decidable.not_not.mp c6
          refine st_gr jo_101 jr_101_3 ?_
          refine st_ai jo_104 (show 0 ≤ x3 by omega) (show x3 < ((40 : Nat) : Int) by omega) (fun v8 ev8 b9 => ?_)
          replace ev8 : v8 = h 104 x3 := ev8
          replace b9 := (jba_104 x3 _).1 b9
          refine And.intro (fun c10 => ?_) (fun c10 => ?_)
          · replace c10 : v8 ≤ 0 := c10
            show jGo E l 136 229 229 _ 49 [.inr (.inr (.inl 101)), .inl a1, .inl x2, .inl x3] [] 229 jr0 h
            refine jGo_blk qX5_worstOf_49 ?_
            have e11 : jw32 (x3 + 1) = x3 + 1 := j32e (by omega) (by omega)
            show jGo E l 136 229 229 _ 5 [.inr (.inr (.inl 101)), .inl a1, .inl x2, .inl (jw32 (x3 + 1))] [] 229 jr0 h
            exact ih x2 (jw32 (x3 + 1)) (by omega) (by omega) (by rw [show jw32 (x3 + 1) = x3 + 1 by omega, jWst_s (by omega), ← hx1]; exact (if_neg (fun q => by omega)).symm) (by omega) (by omega)
          · replace c10 : 0 < v8 := by first | exact c10 | exact Int.not_le.mp c10 | exact Int.not_lt.mp c10 | exact Decidable.not_not.mp c10
            refine And.intro (fun c12 => ?_) (fun c12 => ?_)
            · replace c12 : x2 = (-9) := c12
              show jGo E l 136 229 229 _ 47 [.inr (.inr (.inl 101)), .inl a1, .inl x2, .inl x3] [] 229 jr0 h
              refine jGo_blk qX5_worstOf_47 ?_
              show jGo E l 136 229 229 _ 49 [.inr (.inr (.inl 101)), .inl a1, .inl x3, .inl x3] [] 229 jr0 h
              refine jGo_blk qX5_worstOf_49 ?_
              have e13 : jw32 (x3 + 1) = x3 + 1 := j32e (by omega) (by omega)
              show jGo E l 136 229 229 _ 5 [.inr (.inr (.inl 101)), .inl a1, .inl x3, .inl (jw32 (x3 + 1))] [] 229 jr0 h
              exact ih x3 (jw32 (x3 + 1)) (by omega) (by omega) (by rw [show jw32 (x3 + 1) = x3 + 1 by omega, jWst_s (by omega), ← hx1]; exact (if_pos (by omega)).symm) (by omega) (by omega)
            · replace c12 : ¬ x2 = (-9) := by first | exact c12 | exact Int.not_le.mp c12 | exact Int.not_lt.mp c12 | exact Decidable.not_not.mp c12
              refine st_cv (na := 2) (st := [.inl x2, .inl x3, .inr (.inr (.inl 101))]) jo_101 rfl rfl rfl (c_X5_isWorse x3 x2 h (by omega) (by omega)) rfl ?_
              rintro _ _ _ ⟨rfl, rfl, t14, rfl, ht14, zt14⟩ kt14
              replace kt14 : -2147483648 ≤ t14 ∧ t14 ≤ 2147483647 := kt14
              replace ht14 : 0 ≤ t14 ∧ t14 ≤ 1 := ht14
              replace zt14 : (t14 = 1 ∧ h 104 x2 * jSpn (h 103) (h 105) x3 < h 104 x3 * jSpn (h 103) (h 105) x2) ∨ (t14 = 0 ∧ ¬ h 104 x2 * jSpn (h 103) (h 105) x3 < h 104 x3 * jSpn (h 103) (h 105) x2) := zt14
              refine And.intro (fun c16 => ?_) (fun c16 => ?_)
              · replace c16 : t14 = 0 := c16
                show jGo E l 136 229 229 _ 49 [.inr (.inr (.inl 101)), .inl a1, .inl x2, .inl x3] [] 229 jr0 h
                refine jGo_blk qX5_worstOf_49 ?_
                have e17 : jw32 (x3 + 1) = x3 + 1 := j32e (by omega) (by omega)
                show jGo E l 136 229 229 _ 5 [.inr (.inr (.inl 101)), .inl a1, .inl x2, .inl (jw32 (x3 + 1))] [] 229 jr0 h
                exact ih x2 (jw32 (x3 + 1)) (by omega) (by omega) (by rw [show jw32 (x3 + 1) = x3 + 1 by omega, jWst_s (by omega), ← hx1]; exact (if_neg (fun q => by omega)).symm) (by omega) (by omega)
              · replace c16 : ¬ t14 = 0 := by first | exact c16 | exact Int.not_le.mp c16 | exact Int.not_lt.mp c16 | exact Decidable.not_not.mp c16
                show jGo E l 136 229 229 _ 47 [.inr (.inr (.inl 101)), .inl a1, .inl x2, .inl x3] [] 229 jr0 h
                refine jGo_blk qX5_worstOf_47 ?_
                show jGo E l 136 229 229 _ 49 [.inr (.inr (.inl 101)), .inl a1, .inl x3, .inl x3] [] 229 jr0 h
                refine jGo_blk qX5_worstOf_49 ?_
                have e18 : jw32 (x3 + 1) = x3 + 1 := j32e (by omega) (by omega)
                show jGo E l 136 229 229 _ 5 [.inr (.inr (.inl 101)), .inl a1, .inl x3, .inl (jw32 (x3 + 1))] [] 229 jr0 h
                exact ih x3 (jw32 (x3 + 1)) (by omega) (by omega) (by rw [show jw32 (x3 + 1) = x3 + 1 by omega, jWst_s (by omega), ← hx1]; exact (if_pos (by omega)).symm) (by omega) (by omega)
  refine jGo_blk qX5_worstOf_0 ?_
  show jGo E l 136 229 229 _ 5 [.inr (.inr (.inl 101)), .inl a1, .inl (-9), .inl 0] [] 229 jr0 h
  exact (key 1000000000000) (-9) 0 (by omega) (by omega) (by rfl) (by omega) (by omega)

def w_X11_worst (i k : Int) : Prop := (i = 1)
def k_X11_worst (a1 : Int) (h : JH) (v : Option JV) (r' g : JH) : Prop := r' = jr0 ∧ jfr w_X11_worst h g ∧ ∃ x : Int, v = some (.inl x) ∧ (-9 ≤ x ∧ x ≤ 39) ∧ (P_X11_worst a1 x h)
set_option maxHeartbeats 4000000 in
theorem c_X11_worst {E : JE} {l : Launch} (a1 : Int) (h : JH) : jMt E l 137 [.inr (.inr (.inl 0)), .inl a1] 229 jr0 h (k_X11_worst a1 h) := by
  refine jMt0 (nL := 2) (ls := [.inr (.inr (.inl 0)), .inl a1]) (by decide +kernel) (by decide +kernel) (by decide +kernel) rfl rfl ?_
  have f0 : jfr w_X11_worst h h := jfr_rf _ _
  refine jGo_blk qX11_worst_0 ?_
  refine st_cs (na := 2) (st := [.inl 6, .inl a1]) rfl rfl rfl (c_X11_within a1 6 h) rfl ?_
  rintro _ _ _ ⟨rfl, rfl, t1, rfl, ht1, zt1⟩ kt1
  replace kt1 : -2147483648 ≤ t1 ∧ t1 ≤ 2147483647 := kt1
  replace ht1 : 0 ≤ t1 ∧ t1 ≤ 1 := ht1
  replace zt1 : (t1 = 1 ∧ 0 ≤ a1 ∧ a1 < (6 : Int)) ∨ (t1 = 0 ∧ ¬ (0 ≤ a1 ∧ a1 < (6 : Int))) := zt1
  refine And.intro (fun c3 => ?_) (fun c3 => ?_)
  · replace c3 : ¬ t1 = 0 := c3
    show jGo E l 137 229 229 _ 17 [.inr (.inr (.inl 0)), .inl a1] [] 229 jr0 h
    refine jGo_blk qX11_worst_17 ?_
    refine st_gr jo_0 jr_0_9 ?_
    refine st_cv (na := 1) (st := [.inl a1, .inr (.inr (.inl 101))]) jo_101 rfl rfl rfl (c_X5_worstOf a1 h) rfl ?_
    rintro _ _ _ ⟨rfl, rfl, t4, rfl, ht4, zt4⟩ kt4
    replace kt4 : -2147483648 ≤ t4 ∧ t4 ≤ 2147483647 := kt4
    replace ht4 : -9 ≤ t4 ∧ t4 ≤ 39 := ht4
    replace zt4 : t4 = jWst (h 102) (h 103) (h 104) (h 105) a1 (h 101 0).toNat := zt4
    show jGo E l 137 229 229 _ 25 [.inr (.inr (.inl 0)), .inl a1] [.inl t4] 229 jr0 h
    refine jGo_blk qX11_worst_25 ?_
    exact st_r0 (ls := []) ⟨rfl, rfl, f0, t4, rfl, (by omega), (by unfold P_X11_worst; omega)⟩
  · replace c3 : t1 = 0 := by first | exact c3 | exact Int.not_le.mp c3 | exact Int.not_lt.mp c3 | exact Decidable.not_not.mp c3
    refine st_cv (na := 1) (st := [.inl (-1), .inr (.inr (.inl 0))]) jo_0 rfl rfl rfl (c_X11_refused (-1) h (by omega)) rfl ?_
    rintro _ _ g7 ⟨rfl, ft6, t6, rfl, ht6, zt6⟩ kt6
    replace kt6 : -2147483648 ≤ t6 ∧ t6 ≤ 2147483647 := kt6
    replace ht6 : -7 ≤ t6 ∧ t6 ≤ -1 := ht6
    have fg7 : jfr w_X11_worst h g7 := jfr_tr f0 ft6 (fun i k q => by unfold w_X11_refused at q; unfold w_X11_worst; omega)
    replace zt6 : t6 = (-1 : Int) := zt6
    show jGo E l 137 229 229 _ 25 [.inr (.inr (.inl 0)), .inl a1] [.inl t6] 229 jr0 g7
    refine jGo_blk qX11_worst_25 ?_
    exact st_r0 (ls := []) ⟨rfl, rfl, fg7, t6, rfl, (by omega), (by unfold P_X11_worst; omega)⟩

def k_X12_spanOf (a1 : Int) (h : JH) (v : Option JV) (r' g : JH) : Prop := r' = jr0 ∧ h = g ∧ ∃ x : Int, v = some (.inr (.inl x)) ∧ (-1998 ≤ x ∧ x ≤ 2000) ∧ (x = jSpn (h 216) (h 218) a1)
set_option maxHeartbeats 4000000 in
theorem c_X12_spanOf {E : JE} {l : Launch} (a1 : Int) (h : JH) (p1 : 0 ≤ a1 ∧ a1 ≤ 39) : jMt E l 138 [.inr (.inr (.inl 176)), .inl a1] 229 jr0 h (k_X12_spanOf a1 h) := by
  refine jMt0 (nL := 2) (ls := [.inr (.inr (.inl 176)), .inl a1]) (by decide +kernel) (by decide +kernel) (by decide +kernel) rfl rfl ?_
  refine jGo_blk qX12_spanOf_0 ?_
  refine st_gr jo_176 jr_176_47 ?_
  refine st_ai jo_216 (show 0 ≤ a1 by omega) (show a1 < ((40 : Nat) : Int) by omega) (fun v1 ev1 b2 => ?_)
  replace ev1 : v1 = h 216 a1 := ev1
  replace b2 := (jba_216 a1 _).1 b2
  refine st_gr jo_176 jr_176_49 ?_
  refine st_ai jo_218 (show 0 ≤ a1 by omega) (show a1 < ((40 : Nat) : Int) by omega) (fun v3 ev3 b4 => ?_)
  replace ev3 : v3 = h 218 a1 := ev3
  replace b4 := (jba_218 a1 _).1 b4
  refine And.intro (fun c5 => ?_) (fun c5 => ?_)
  · replace c5 : v1 ≤ v3 := c5
    show jGo E l 138 229 229 _ 32 [.inr (.inr (.inl 176)), .inl a1] [] 229 jr0 h
    refine jGo_blk qX12_spanOf_32 ?_
    show jGo E l 138 229 229 _ 33 [.inr (.inr (.inl 176)), .inl a1] [.inr (.inl 1)] 229 jr0 h
    refine jGo_blk qX12_spanOf_33 ?_
    have hc6 : 1 = jSpn (h 216) (h 218) a1 := by
      unfold jSpn; omega
    exact ⟨rfl, rfl, rfl, 1, rfl, (by omega), (by exact hc6)⟩
  · replace c5 : v3 < v1 := by first | exact c5 | exact Int.not_le.mp c5 | exact Int.not_lt.mp c5 | exact Decidable.not_not.mp c5
    refine st_gr jo_176 jr_176_47 ?_
    refine st_ai jo_216 (show 0 ≤ a1 by omega) (show a1 < ((40 : Nat) : Int) by omega) (fun v7 ev7 b8 => ?_)
    replace ev7 : v7 = h 216 a1 := ev7
    replace b8 := (jba_216 a1 _).1 b8
    refine st_gr jo_176 jr_176_49 ?_
    refine st_ai jo_218 (show 0 ≤ a1 by omega) (show a1 < ((40 : Nat) : Int) by omega) (fun v9 ev9 b10 => ?_)
    replace ev9 : v9 = h 218 a1 := ev9
    replace b10 := (jba_218 a1 _).1 b10
    have e11 : jw32 (v7 - v9) = v7 - v9 := j32e (by omega) (by omega)
    show jGo E l 138 229 229 _ 33 [.inr (.inr (.inl 176)), .inl a1] [.inr (.inl (jw32 (v7 - v9)))] 229 jr0 h
    refine jGo_blk qX12_spanOf_33 ?_
    have hc12 : jw32 (v7 - v9) = jSpn (h 216) (h 218) a1 := by
      unfold jSpn; omega
    exact ⟨rfl, rfl, rfl, jw32 (v7 - v9), rfl, (by omega), (by exact hc12)⟩

def w_X12_worst (i k : Int) : Prop := (i = 219)
def k_X12_worst (a1 : Int) (h : JH) (v : Option JV) (r' g : JH) : Prop := r' = jr0 ∧ jfr w_X12_worst h g ∧ ∃ x : Int, v = some (.inl x) ∧ (-9 ≤ x ∧ x ≤ 39) ∧ (P_X12_worst a1 x h)
set_option maxHeartbeats 4000000 in
theorem c_X12_worst {E : JE} {l : Launch} (a1 : Int) (h : JH) : jMt E l 139 [.inr (.inr (.inl 176)), .inl a1] 229 jr0 h (k_X12_worst a1 h) := by
  refine jMt0 (nL := 4) (ls := [.inr (.inr (.inl 176)), .inl a1, .inr (.inr (.inr ())), .inr (.inr (.inr ()))]) (by decide +kernel) (by decide +kernel) (by decide +kernel) rfl rfl ?_
  have f0 : jfr w_X12_worst h h := jfr_rf _ _
  refine jGo_bd (fun hbd => ?_)
  have hb0 := (jbf_12_45 jo_176 _).1 (hbd 176 45)
  have key : ∀ N : Nat, (∀ (x2 : Int) (x3 : Int) (g : JH), (0 ≤ a1 ∧ a1 ≤ 5 ∧ (-9) ≤ x2 ∧ x2 ≤ 39 ∧ 0 ≤ x3 ∧ x3 ≤ 40) → (x2 = -9 ∨ (0 ≤ x2 ∧ x2 ≤ 39)) → (x2 = jWst (h 215) (h 216) (h 217) (h 218) a1 (x3).toNat) → (0 ≤ x3 ∧ x3 ≤ g 176 45 ∧ 0 ≤ a1 ∧ a1 < 6) → (g = h) → jfr w_X12_worst h g → (40 - x3) < (N : Int) → jGo E l 139 229 229 (jRK (k_X12_worst a1 h)) 20 [.inr (.inr (.inl 176)), .inl a1, .inl x2, .inl x3] [] 229 jr0 g) := by
    intro N
    induction N with
    | zero => exact fun _ _ _ hi hx0 hx1 hx2 hx3 _ hN => absurd hN (by omega)
    | succ N ih =>
      intro x2 x3 g hi hx0 hx1 hx2 hx3 hf hN
      refine jGo_blk qX12_worst_20 ?_
      refine st_gi jo_176 (fun v1 ev1 b2 => ?_)
      replace ev1 : v1 = g 176 45 := ev1
      replace b2 := (jbf_12_45 jo_176 _).1 b2
      refine And.intro (fun c3 => ?_) (fun c3 => ?_)
      · replace c3 : v1 ≤ x3 := c3
        show jGo E l 139 229 229 _ 89 [.inr (.inr (.inl 176)), .inl a1, .inl x2, .inl x3] [] 229 jr0 g
        refine jGo_blk qX12_worst_89 ?_
        exact st_r0 (ls := []) ⟨rfl, rfl, hf, x2, rfl, (by omega), (by unfold P_X12_worst; have y9 : g = h := hx3; have y8 : g 176 45 = h 176 45 := (by rw [y9]); exact Or.inr ⟨by omega, by rw [show h 176 45 = x3 by omega]; exact hx1⟩)⟩
      · replace c3 : x3 < v1 := by first | exact c3 | exact Int.not_le.mp c3 | exact Int.not_lt.mp c3 | exact Decidable.not_not.mp c3
        refine st_gr jo_176 jr_176_46 ?_
        refine st_ai jo_215 (show 0 ≤ x3 by omega) (show x3 < ((40 : Nat) : Int) by omega) (fun v4 ev4 b5 => ?_)
        replace ev4 : v4 = g 215 x3 := ev4
        replace b5 := (jba_215 x3 _).1 b5
        refine And.intro (fun c6 => ?_) (fun c6 => ?_)
        · replace c6 : ¬ v4 = a1 := c6
          show jGo E l 139 229 229 _ 83 [.inr (.inr (.inl 176)), .inl a1, .inl x2, .inl x3] [] 229 jr0 g
          refine jGo_blk qX12_worst_83 ?_
          have e7 : jw32 (x3 + 1) = x3 + 1 := j32e (by omega) (by omega)
          show jGo E l 139 229 229 _ 20 [.inr (.inr (.inl 176)), .inl a1, .inl x2, .inl (jw32 (x3 + 1))] [] 229 jr0 g
          exact ih x2 (jw32 (x3 + 1)) g (by omega) (by omega) (by have y9 : g = h := hx3; subst y9; rw [show jw32 (x3 + 1) = x3 + 1 by omega, jWst_s (by omega), ← hx1]; subst ev4 ev1; exact (if_neg (fun q => by omega)).symm) (by omega) (by exact hx3) hf (by omega)
        · replace c6 : v4 = a1 := by first | exact c6 | exact Int.not_le.mp c6 | exact Int.not_lt.mp c6 | exact Decidable.not_not.mp c6
          refine st_gr jo_176 jr_176_48 ?_
          refine st_ai jo_217 (show 0 ≤ x3 by omega) (show x3 < ((40 : Nat) : Int) by omega) (fun v8 ev8 b9 => ?_)
          replace ev8 : v8 = g 217 x3 := ev8
          replace b9 := (jba_217 x3 _).1 b9
          refine And.intro (fun c10 => ?_) (fun c10 => ?_)
          · replace c10 : v8 ≤ 0 := c10
            show jGo E l 139 229 229 _ 83 [.inr (.inr (.inl 176)), .inl a1, .inl x2, .inl x3] [] 229 jr0 g
            refine jGo_blk qX12_worst_83 ?_
            have e11 : jw32 (x3 + 1) = x3 + 1 := j32e (by omega) (by omega)
            show jGo E l 139 229 229 _ 20 [.inr (.inr (.inl 176)), .inl a1, .inl x2, .inl (jw32 (x3 + 1))] [] 229 jr0 g
            exact ih x2 (jw32 (x3 + 1)) g (by omega) (by omega) (by have y9 : g = h := hx3; subst y9; rw [show jw32 (x3 + 1) = x3 + 1 by omega, jWst_s (by omega), ← hx1]; subst ev8 ev4 ev1; exact (if_neg (fun q => by omega)).symm) (by omega) (by exact hx3) hf (by omega)
          · replace c10 : 0 < v8 := by first | exact c10 | exact Int.not_le.mp c10 | exact Int.not_lt.mp c10 | exact Decidable.not_not.mp c10
            refine And.intro (fun c12 => ?_) (fun c12 => ?_)
            · replace c12 : x2 < 0 := c12
              show jGo E l 139 229 229 _ 81 [.inr (.inr (.inl 176)), .inl a1, .inl x2, .inl x3] [] 229 jr0 g
              refine jGo_blk qX12_worst_81 ?_
              show jGo E l 139 229 229 _ 83 [.inr (.inr (.inl 176)), .inl a1, .inl x3, .inl x3] [] 229 jr0 g
              refine jGo_blk qX12_worst_83 ?_
              have e13 : jw32 (x3 + 1) = x3 + 1 := j32e (by omega) (by omega)
              show jGo E l 139 229 229 _ 20 [.inr (.inr (.inl 176)), .inl a1, .inl x3, .inl (jw32 (x3 + 1))] [] 229 jr0 g
              exact ih x3 (jw32 (x3 + 1)) g (by omega) (by omega) (by have y9 : g = h := hx3; subst y9; rw [show jw32 (x3 + 1) = x3 + 1 by omega, jWst_s (by omega), ← hx1]; subst ev8 ev4 ev1; exact (if_pos (by omega)).symm) (by omega) (by exact hx3) hf (by omega)
            · replace c12 : 0 ≤ x2 := by first | exact c12 | exact Int.not_le.mp c12 | exact Int.not_lt.mp c12 | exact Decidable.not_not.mp c12
              refine st_gr jo_176 jr_176_48 ?_
              refine st_ai jo_217 (show 0 ≤ x3 by omega) (show x3 < ((40 : Nat) : Int) by omega) (fun v14 ev14 b15 => ?_)
              replace ev14 : v14 = g 217 x3 := ev14
              replace b15 := (jba_217 x3 _).1 b15
              refine st_cv (na := 1) (st := [.inl x2, .inr (.inr (.inl 176)), .inr (.inl v14)]) jo_176 rfl rfl rfl (c_X12_spanOf x2 g (by omega)) rfl ?_
              rintro _ _ _ ⟨rfl, rfl, t16, rfl, ht16, zt16⟩ kt16
              replace kt16 : -9223372036854775808 ≤ t16 ∧ t16 ≤ 9223372036854775807 := kt16
              replace ht16 : -1998 ≤ t16 ∧ t16 ≤ 2000 := ht16
              replace zt16 : t16 = jSpn (g 216) (g 218) x2 := zt16
              have e18 : jw64 (v14 * t16) = v14 * t16 := jmwl (by omega) (by omega) (by omega) (by omega)
              refine st_gr jo_176 jr_176_48 ?_
              refine st_ai jo_217 (show 0 ≤ x2 by omega) (show x2 < ((40 : Nat) : Int) by omega) (fun v19 ev19 b20 => ?_)
              replace ev19 : v19 = g 217 x2 := ev19
              replace b20 := (jba_217 x2 _).1 b20
              refine st_cv (na := 1) (st := [.inl x3, .inr (.inr (.inl 176)), .inr (.inl v19), .inr (.inl (jw64 (v14 * t16)))]) jo_176 rfl rfl rfl (c_X12_spanOf x3 g (by omega)) rfl ?_
              rintro _ _ _ ⟨rfl, rfl, t21, rfl, ht21, zt21⟩ kt21
              replace kt21 : -9223372036854775808 ≤ t21 ∧ t21 ≤ 9223372036854775807 := kt21
              replace ht21 : -1998 ≤ t21 ∧ t21 ≤ 2000 := ht21
              replace zt21 : t21 = jSpn (g 216) (g 218) x3 := zt21
              have e23 : jw64 (v19 * t21) = v19 * t21 := jmwl (by omega) (by omega) (by omega) (by omega)
              have e24 := jlc_u (jw64 (v14 * t16)) (jw64 (v19 * t21))
              refine And.intro (fun c25 => ?_) (fun c25 => ?_)
              · replace c25 : jlc (jw64 (v14 * t16)) (jw64 (v19 * t21)) ≤ 0 := c25
                show jGo E l 139 229 229 _ 83 [.inr (.inr (.inl 176)), .inl a1, .inl x2, .inl x3] [] 229 jr0 g
                refine jGo_blk qX12_worst_83 ?_
                have e26 : jw32 (x3 + 1) = x3 + 1 := j32e (by omega) (by omega)
                show jGo E l 139 229 229 _ 20 [.inr (.inr (.inl 176)), .inl a1, .inl x2, .inl (jw32 (x3 + 1))] [] 229 jr0 g
                exact ih x2 (jw32 (x3 + 1)) g (by omega) (by omega) (by have y9 : g = h := hx3; subst y9; rw [show jw32 (x3 + 1) = x3 + 1 by omega, jWst_s (by omega), ← hx1]; subst zt21 ev19 zt16 ev14 ev8 ev4 ev1; exact (if_neg (fun q => by omega)).symm) (by omega) (by exact hx3) hf (by omega)
              · replace c25 : 0 < jlc (jw64 (v14 * t16)) (jw64 (v19 * t21)) := by first | exact c25 | exact Int.not_le.mp c25 | exact Int.not_lt.mp c25 | exact Decidable.not_not.mp c25
                show jGo E l 139 229 229 _ 81 [.inr (.inr (.inl 176)), .inl a1, .inl x2, .inl x3] [] 229 jr0 g
                refine jGo_blk qX12_worst_81 ?_
                show jGo E l 139 229 229 _ 83 [.inr (.inr (.inl 176)), .inl a1, .inl x3, .inl x3] [] 229 jr0 g
                refine jGo_blk qX12_worst_83 ?_
                have e27 : jw32 (x3 + 1) = x3 + 1 := j32e (by omega) (by omega)
                show jGo E l 139 229 229 _ 20 [.inr (.inr (.inl 176)), .inl a1, .inl x3, .inl (jw32 (x3 + 1))] [] 229 jr0 g
                exact ih x3 (jw32 (x3 + 1)) g (by omega) (by omega) (by have y9 : g = h := hx3; subst y9; rw [show jw32 (x3 + 1) = x3 + 1 by omega, jWst_s (by omega), ← hx1]; subst zt21 ev19 zt16 ev14 ev8 ev4 ev1; exact (if_pos (by omega)).symm) (by omega) (by exact hx3) hf (by omega)
  refine jGo_blk qX12_worst_0 ?_
  refine st_cs (na := 3) (st := [.inl 5, .inl 0, .inl a1]) rfl rfl rfl (c_X12_in a1 0 5 h) rfl ?_
  rintro _ _ _ ⟨rfl, rfl, t28, rfl, ht28, zt28⟩ kt28
  replace kt28 : -2147483648 ≤ t28 ∧ t28 ≤ 2147483647 := kt28
  replace ht28 : 0 ≤ t28 ∧ t28 ≤ 1 := ht28
  replace zt28 : (t28 = 1 ∧ (0 : Int) ≤ a1 ∧ a1 ≤ (5 : Int)) ∨ (t28 = 0 ∧ ¬ ((0 : Int) ≤ a1 ∧ a1 ≤ (5 : Int))) := zt28
  refine And.intro (fun c30 => ?_) (fun c30 => ?_)
  · replace c30 : ¬ t28 = 0 := c30
    show jGo E l 139 229 229 _ 15 [.inr (.inr (.inl 176)), .inl a1, .inr (.inr (.inr ())), .inr (.inr (.inr ()))] [] 229 jr0 h
    refine jGo_blk qX12_worst_15 ?_
    show jGo E l 139 229 229 _ 20 [.inr (.inr (.inl 176)), .inl a1, .inl (-9), .inl 0] [] 229 jr0 h
    exact (key 1000000000000) (-9) 0 h (by omega) (by omega) (by rfl) (by omega) (by rfl) f0 (by omega)
  · replace c30 : t28 = 0 := by first | exact c30 | exact Int.not_le.mp c30 | exact Int.not_lt.mp c30 | exact Decidable.not_not.mp c30
    refine st_cv (na := 1) (st := [.inl (-1), .inr (.inr (.inl 176))]) jo_176 rfl rfl rfl (c_X12_refuse (-1) h (by omega)) rfl ?_
    rintro _ _ g32 ⟨rfl, ft31, t31, rfl, ht31, zt31⟩ kt31
    replace kt31 : -2147483648 ≤ t31 ∧ t31 ≤ 2147483647 := kt31
    replace ht31 : -7 ≤ t31 ∧ t31 ≤ -1 := ht31
    have fg32 : jfr w_X12_worst h g32 := jfr_tr f0 ft31 (fun i k q => by unfold w_X12_refuse at q; unfold w_X12_worst; omega)
    replace zt31 : t31 = (-1 : Int) := zt31
    exact st_r0 (ls := []) ⟨rfl, rfl, fg32, t31, rfl, (by omega), (by unfold P_X12_worst; omega)⟩

def w_X0_write_113 (i k : Int) : Prop := (i = 15) ∨ (114 ≤ i ∧ i ≤ 117) ∨ (i = 11 ∧ k = 5)
def k_X0_write_113 (a1 : Int) (a2 : Int) (h : JH) (v : Option JV) (r' g : JH) : Prop := r' = jr0 ∧ jfr w_X0_write_113 h g ∧ v = none ∧ (jWri 114 a1 a2 h g)
set_option maxHeartbeats 4000000 in
theorem c_X0_write_113 {E : JE} {l : Launch} (a1 : Int) (a2 : Int) (h : JH) (p1 : 0 ≤ a1 ∧ a1 ≤ 299) (p2 : 0 ≤ a2 ∧ a2 ≤ 2400) : jMt E l 72 [.inr (.inr (.inl 113)), .inl a1, .inl a2, .inr (.inr (.inl 2)), .inr (.inr (.inl 11))] 229 jr0 h (k_X0_write_113 a1 a2 h) := by
  refine jMt0 (nL := 8) (ls := [.inr (.inr (.inl 113)), .inl a1, .inl a2, .inr (.inr (.inl 2)), .inr (.inr (.inl 11)), .inr (.inr (.inr ())), .inr (.inr (.inr ())), .inr (.inr (.inr ()))]) (by decide +kernel) (by decide +kernel) (by decide +kernel) rfl rfl ?_
  have f0 : jfr w_X0_write_113 h h := jfr_rf _ _
  have key : ∀ N : Nat, (∀ (x5 : Int) (x6 : Int) (x7 : JV) (g : JH), (0 ≤ x5 ∧ x5 ≤ 200 ∧ 0 ≤ x6 ∧ x6 ≤ 4) → (jGOP a2 h g) → (g 115 a1 = (if ¬ g 15 8 = 0 ∧ a2.tmod (g 15 8) = 0 then 0 else g 15 9) ∧ 0 ≤ g 115 a1) → (∀ c : Int, 0 ≤ c → c < x6 → g 114 (a1 * 4 + c) = jHd h c a2 ∧ 0 ≤ g 114 (a1 * 4 + c) ∧ g 114 (a1 * 4 + c) ≤ 400) → (∀ c : Int, 0 ≤ c → c < x6 → 0 ≤ jHd h c a2 * g 15 (4 + c) ∧ jHd h c a2 * g 15 (4 + c) ≤ 80000) → (g 117 a1 = jsm (fun c => jHd h c a2 * g 15 (4 + c)) (x6).toNat ∧ 0 ≤ g 117 a1 ∧ g 117 a1 ≤ 80000 * x6) → ((∀ k : Int, ¬ (a1 * 4 ≤ k ∧ k < a1 * 4 + 4) → g 114 k = h 114 k) ∧ (∀ i k : Int, 115 ≤ i → i ≤ 117 → ¬ k = a1 → g i k = h i k)) → (0 ≤ x6 ∧ x6 ≤ 4) → jfr w_X0_write_113 h g → (4 - x6) < (N : Int) → jGo E l 72 229 229 (jRK (k_X0_write_113 a1 a2 h)) 61 [.inr (.inr (.inl 113)), .inl a1, .inl a2, .inr (.inr (.inl 2)), .inr (.inr (.inl 11)), .inl x5, .inl x6, x7] [] 229 jr0 g) := by
    intro N
    induction N with
    | zero => exact fun _ _ _ _ hi hx0 hx1 hx2 hx3 hx4 hx5 hx6 _ hN => absurd hN (by omega)
    | succ N ih =>
      intro x5 x6 x7 g hi hx0 hx1 hx2 hx3 hx4 hx5 hx6 hf hN
      refine jGo_blk qX0_write_61 ?_
      refine And.intro (fun c1 => ?_) (fun c1 => ?_)
      · replace c1 : 4 ≤ x6 := c1
        show jGo E l 72 229 229 _ 135 [.inr (.inr (.inl 113)), .inl a1, .inl a2, .inr (.inr (.inl 2)), .inr (.inr (.inl 11)), .inl x5, .inl x6, x7] [] 229 jr0 g
        refine jGo_blk qX0_write_135 ?_
        have hc2 : jWri 114 a1 a2 h g := by
          have x64 : x6 = 4 := by omega
          rw [x64] at hx2 hx3 hx4
          refine ⟨hx0, hx1.1, hx2, hx3, ?_, hx1.2, hx5.1, hx5.2⟩
          rw [show g (114 + 3) a1 = g 117 a1 from rfl, hx4.1]
          show 0 + jHd h (0 : Nat) a2 * g 15 (4 + (0 : Nat)) + jHd h (1 : Nat) a2 * g 15 (4 + (1 : Nat)) + jHd h (2 : Nat) a2 * g 15 (4 + (2 : Nat)) + jHd h (3 : Nat) a2 * g 15 (4 + (3 : Nat)) = _
          rw [Int.zero_add]; rfl
        exact ⟨rfl, rfl, hf, rfl, (by exact hc2)⟩
      · replace c1 : x6 < 4 := by first | exact c1 | exact Int.not_le.mp c1 | exact Int.not_lt.mp c1 | exact Decidable.not_not.mp c1
        refine st_cv (na := 2) (st := [.inl a2, .inl x6, .inr (.inr (.inl 2))]) jo_2 rfl rfl rfl (c_X1_handsOfDay x6 a2 g (by omega) (by omega)) rfl ?_
        rintro _ _ _ ⟨rfl, rfl, t3, rfl, ht3, zt3⟩ kt3
        replace kt3 : -2147483648 ≤ t3 ∧ t3 ≤ 2147483647 := kt3
        replace ht3 : 0 ≤ t3 ∧ t3 ≤ 400 := ht3
        replace zt3 : t3 = jHd g x6 a2 ∧ -1 ≤ g 4 x6 ∧ g 4 x6 ≤ 3 ∧ (g 4 x6 < 0 ∨ g 10 (g 4 x6) ≤ 30) := zt3
        refine st_gr jo_113 jr_113_0 ?_
        have e5 : jw32 (a1 * 4) = a1 * 4 := j32e (by omega) (by omega)
        have e6 : jw32 ((jw32 (a1 * 4)) + x6) = (jw32 (a1 * 4)) + x6 := j32e (by omega) (by omega)
        refine st_si jo_114 (show 0 ≤ jw32 ((jw32 (a1 * 4)) + x6) by omega) (show jw32 ((jw32 (a1 * 4)) + x6) < ((1200 : Nat) : Int) by omega) (fun hx => (jba_114 _ _).2 (show 0 ≤ t3 ∧ t3 ≤ 400 by omega)) (fun g7 eg7 => ?_)
        replace eg7 : g7 = jup g 114 (jw32 ((jw32 (a1 * 4)) + x6)) t3 := eg7
        have fg7 : jfr w_X0_write_113 h g7 := jfr_up hf eg7 (by unfold w_X0_write_113; omega)
        have e8 : g7 114 (jw32 ((jw32 (a1 * 4)) + x6)) = t3 := jup_s eg7
        refine st_gr jo_113 jr_113_2 ?_
        refine st_ai jo_116 (show 0 ≤ a1 by omega) (show a1 < ((300 : Nat) : Int) by omega) (fun v9 ev9 b10 => ?_)
        replace ev9 : v9 = g7 116 a1 := ev9
        replace b10 := (jba_116 a1 _).1 b10
        refine st_cv (na := 2) (st := [.inl x6, .inl 0, .inr (.inr (.inl 11)), .inl t3, .inl v9, .inl a1, .inr (.inr (.inl 116))]) jo_11 rfl rfl rfl (c_X2_inForce 0 x6 g7 (by omega)) rfl ?_
        rintro _ _ _ ⟨rfl, rfl, t11, rfl, ht11, zt11⟩ kt11
        replace kt11 : -2147483648 ≤ t11 ∧ t11 ≤ 2147483647 := kt11
        replace ht11 : 0 ≤ t11 ∧ t11 ≤ 200 := ht11
        replace zt11 : t11 = g7 15 (jsl (0 : Int) x6) := zt11
        refine st_si jo_116 (show 0 ≤ a1 by omega) (show a1 < ((300 : Nat) : Int) by omega) (fun hx => (jba_116 _ _).2 hx) (fun g13 eg13 => ?_)
        replace eg13 : g13 = jup g7 116 a1 (jw32 (v9 + (jw32 (t3 * t11)))) := eg13
        have fg13 : jfr w_X0_write_113 h g13 := jfr_up fg7 eg13 (by unfold w_X0_write_113; omega)
        have e14 : g13 116 a1 = jw32 (v9 + (jw32 (t3 * t11))) := jup_s eg13
        refine st_gr jo_113 jr_113_3 ?_
        refine st_ai jo_117 (show 0 ≤ a1 by omega) (show a1 < ((300 : Nat) : Int) by omega) (fun v15 ev15 b16 => ?_)
        replace ev15 : v15 = g13 117 a1 := ev15
        replace b16 := (jba_117 a1 _).1 b16
        have y17 : v15 = g 117 a1 := ev15.trans ((jup_o eg13 (by omega)).trans (jup_o eg7 (by omega)))
        refine st_cv (na := 2) (st := [.inl x6, .inl 1, .inr (.inr (.inl 11)), .inl t3, .inl v15, .inl a1, .inr (.inr (.inl 117))]) jo_11 rfl rfl rfl (c_X2_inForce 1 x6 g13 (by omega)) rfl ?_
        rintro _ _ _ ⟨rfl, rfl, t18, rfl, ht18, zt18⟩ kt18
        replace kt18 : -2147483648 ≤ t18 ∧ t18 ≤ 2147483647 := kt18
        replace ht18 : 0 ≤ t18 ∧ t18 ≤ 200 := ht18
        replace zt18 : t18 = g13 15 (jsl (1 : Int) x6) := zt18
        have y20 : t18 = g 15 (4 + x6) := by
          have q9 : jsl 1 x6 = 4 + x6 := by unfold jsl; omega
          rw [zt18, q9]; exact ((jup_o eg13 (by omega)).trans (jup_o eg7 (by omega)))
        have e21 := jmul_b (a := t3) (b := t18) (A := 400) (B := 200) (by omega) (by omega) (by omega) (by omega)
        have e22 : jw32 (t3 * t18) = t3 * t18 := j32e (by omega) (by omega)
        have e23 : jw32 (v15 + (jw32 (t3 * t18))) = v15 + (jw32 (t3 * t18)) := j32e (by omega) (by omega)
        refine st_si jo_117 (show 0 ≤ a1 by omega) (show a1 < ((300 : Nat) : Int) by omega) (fun hx => (jba_117 _ _).2 hx) (fun g24 eg24 => ?_)
        replace eg24 : g24 = jup g13 117 a1 (jw32 (v15 + (jw32 (t3 * t18)))) := eg24
        have fg24 : jfr w_X0_write_113 h g24 := jfr_up fg13 eg24 (by unfold w_X0_write_113; omega)
        have e25 : g24 117 a1 = jw32 (v15 + (jw32 (t3 * t18))) := jup_s eg24
        have e26 : jw32 (x6 + 1) = x6 + 1 := j32e (by omega) (by omega)
        show jGo E l 72 229 229 _ 61 [.inr (.inr (.inl 113)), .inl a1, .inl a2, .inr (.inr (.inl 2)), .inr (.inr (.inl 11)), .inl x5, .inl (jw32 (x6 + 1)), .inl t3] [] 229 jr0 g24
        have ef27 : ∀ i k : Int, 11 ≤ i → i ≤ 15 → g24 i k = g i k := fun i k p1 p2 => ((jup_o eg24 (by omega)).trans ((jup_o eg13 (by omega)).trans (jup_o eg7 (by omega))))
        have e28 : g24 15 8 = g13 15 8 := jup_o eg24 (by omega)
        have e29 : g13 15 8 = g7 15 8 := jup_o eg13 (by omega)
        have e30 : g7 15 8 = g 15 8 := jup_o eg7 (by omega)
        have e31 : g24 15 8 = g13 15 8 := jup_o eg24 (by omega)
        have e32 : g13 15 8 = g7 15 8 := jup_o eg13 (by omega)
        have e33 : g7 15 8 = g 15 8 := jup_o eg7 (by omega)
        have e34 : g24 15 9 = g13 15 9 := jup_o eg24 (by omega)
        have e35 : g13 15 9 = g7 15 9 := jup_o eg13 (by omega)
        have e36 : g7 15 9 = g 15 9 := jup_o eg7 (by omega)
        have hc37 : g24 115 a1 = (if ¬ g24 15 8 = 0 ∧ a2.tmod (g24 15 8) = 0 then 0 else g24 15 9) ∧ 0 ≤ g24 115 a1 := by
          rw [ef27 15 8 (by decide) (by decide), ef27 15 9 (by decide) (by decide), show g24 115 a1 = g 115 a1 from ((jup_o eg24 (by omega)).trans ((jup_o eg13 (by omega)).trans (jup_o eg7 (by omega))))]; exact hx1
        have y39 : t3 = jHd h x6 a2 := zt3.1.trans (jHd_c (h := h) (fun i k p1 p2 => hf i k (by unfold w_X0_write_113; omega)) (by have q9 := hf 4 x6 (by unfold w_X0_write_113; omega); omega))
        have hc38 : ∀ c : Int, 0 ≤ c → c < (jw32 (x6 + 1)) → g24 114 (a1 * 4 + c) = jHd h c a2 ∧ 0 ≤ g24 114 (a1 * 4 + c) ∧ g24 114 (a1 * 4 + c) ≤ 400 := by
          intro c p1 p2
          by_cases z : c = x6
          · have y1 : g24 114 (a1 * 4 + x6) = t3 := by
              rw [show a1 * 4 + x6 = jw32 ((jw32 (a1 * 4)) + x6) by omega]
              exact ((jup_o eg24 (by omega)).trans (jup_o eg13 (by omega))).trans (jup_s eg7)
            rw [z, y1]; exact ⟨y39, by omega, by omega⟩
          · rw [show g24 114 (a1 * 4 + c) = g 114 (a1 * 4 + c) from ((jup_o eg24 (by omega)).trans ((jup_o eg13 (by omega)).trans (jup_o eg7 (by omega))))]; exact hx2 c p1 (by omega)
        have hc40 : ∀ c : Int, 0 ≤ c → c < (jw32 (x6 + 1)) → 0 ≤ jHd h c a2 * g24 15 (4 + c) ∧ jHd h c a2 * g24 15 (4 + c) ≤ 80000 := by
          intro c p1 p2
          rw [ef27 15 (4 + c) (by decide) (by decide)]
          by_cases z : c = x6
          · rw [z, ← y20, ← y39]; exact ⟨by omega, by omega⟩
          · exact hx3 c p1 (by omega)
        have hc41 : g24 117 a1 = jsm (fun c => jHd h c a2 * g24 15 (4 + c)) ((jw32 (x6 + 1))).toNat ∧ 0 ≤ g24 117 a1 ∧ g24 117 a1 ≤ 80000 * (jw32 (x6 + 1)) := by
          have y5 : g24 117 a1 = g 117 a1 + jHd h x6 a2 * g 15 (4 + x6) := by
            rw [jup_s eg24, ← y20, ← y39]; omega
          have y6 : 0 ≤ jHd h x6 a2 * g 15 (4 + x6) ∧ jHd h x6 a2 * g 15 (4 + x6) ≤ 80000 := by rw [← y20, ← y39]; exact ⟨by omega, by omega⟩
          rw [show (fun c => jHd h c a2 * g24 15 (4 + c)) = (fun c => jHd h c a2 * g 15 (4 + c)) from funext (fun c => by rw [ef27 15 (4 + c) (by decide) (by decide)])]
          obtain ⟨n9, hn9⟩ := Int.eq_ofNat_of_zero_le (show 0 ≤ x6 by omega)
          rw [y5, show (jw32 (x6 + 1)).toNat = n9 + 1 by omega]
          have y7 := hx4; rw [show x6.toNat = n9 by omega] at y7
          refine ⟨?_, by omega, by omega⟩
          show _ = jsm (fun c => jHd h c a2 * g 15 (4 + c)) n9 + jHd h n9 a2 * g 15 (4 + n9)
          rw [← y7.1, ← hn9]
        have hc42 : (∀ k : Int, ¬ (a1 * 4 ≤ k ∧ k < a1 * 4 + 4) → g24 114 k = h 114 k) ∧ (∀ i k : Int, 115 ≤ i → i ≤ 117 → ¬ k = a1 → g24 i k = h i k) := by
          exact ⟨fun k p => (show g24 114 k = g 114 k from ((jup_o eg24 (by omega)).trans ((jup_o eg13 (by omega)).trans (jup_o eg7 (by omega))))).trans (hx5.1 k p), fun i k p1 p2 p3 => (show g24 i k = g i k from ((jup_o eg24 (by omega)).trans ((jup_o eg13 (by omega)).trans (jup_o eg7 (by omega))))).trans (hx5.2 i k p1 p2 p3)⟩
        exact ih x5 (jw32 (x6 + 1)) (.inl t3) g24 (by omega) (by exact jGOP_fr ef27 hx0) (by exact hc37) (by exact hc38) (by exact hc40) (by exact hc41) (by exact hc42) (by omega) fg24 (by omega)
  refine jGo_blk qX0_write_0 ?_
  refine st_cv (na := 1) (st := [.inl a2, .inr (.inr (.inl 11))]) jo_11 rfl rfl rfl (c_X2_goOnTo a2 h) rfl ?_
  rintro _ _ g44 ⟨rfl, ft43, rfl, zt43⟩ kt43
  have fg44 : jfr w_X0_write_113 h g44 := jfr_tr f0 ft43 (fun i k q => by unfold w_X2_goOnTo at q; unfold w_X0_write_113; omega)
  replace zt43 : jGOP a2 h g44 := zt43
  refine st_cv (na := 2) (st := [.inl 0, .inl 2, .inr (.inr (.inl 11))]) jo_11 rfl rfl rfl (c_X2_inForce 2 0 g44 (by omega)) rfl ?_
  rintro _ _ _ ⟨rfl, rfl, t45, rfl, ht45, zt45⟩ kt45
  replace kt45 : -2147483648 ≤ t45 ∧ t45 ≤ 2147483647 := kt45
  replace ht45 : 0 ≤ t45 ∧ t45 ≤ 200 := ht45
  replace zt45 : t45 = g44 15 (jsl (2 : Int) (0 : Int)) := zt45
  refine st_gr jo_113 jr_113_1 ?_
  refine And.intro (fun c47 => ?_) (fun c47 => ?_)
  · replace c47 : t45 = 0 := c47
    show jGo E l 72 229 229 _ 36 [.inr (.inr (.inl 113)), .inl a1, .inl a2, .inr (.inr (.inl 2)), .inr (.inr (.inl 11)), .inl t45, .inr (.inr (.inr ())), .inr (.inr (.inr ()))] [.inl a1, .inr (.inr (.inl 115))] 229 jr0 g44
    refine jGo_blk qX0_write_36 ?_
    refine st_cv (na := 2) (st := [.inl 0, .inl 3, .inr (.inr (.inl 11)), .inl a1, .inr (.inr (.inl 115))]) jo_11 rfl rfl rfl (c_X2_inForce 3 0 g44 (by omega)) rfl ?_
    rintro _ _ _ ⟨rfl, rfl, t48, rfl, ht48, zt48⟩ kt48
    replace kt48 : -2147483648 ≤ t48 ∧ t48 ≤ 2147483647 := kt48
    replace ht48 : 0 ≤ t48 ∧ t48 ≤ 200 := ht48
    replace zt48 : t48 = g44 15 (jsl (3 : Int) (0 : Int)) := zt48
    show jGo E l 72 229 229 _ 43 [.inr (.inr (.inl 113)), .inl a1, .inl a2, .inr (.inr (.inl 2)), .inr (.inr (.inl 11)), .inl t45, .inr (.inr (.inr ())), .inr (.inr (.inr ()))] [.inl t48, .inl a1, .inr (.inr (.inl 115))] 229 jr0 g44
    refine jGo_blk qX0_write_43 ?_
    refine st_si jo_115 (show 0 ≤ a1 by omega) (show a1 < ((300 : Nat) : Int) by omega) (fun hx => (jba_115 _ _).2 (show 0 ≤ t48 ∧ t48 ≤ 200 by omega)) (fun g50 eg50 => ?_)
    replace eg50 : g50 = jup g44 115 a1 t48 := eg50
    have fg50 : jfr w_X0_write_113 h g50 := jfr_up fg44 eg50 (by unfold w_X0_write_113; omega)
    have e51 : g50 115 a1 = t48 := jup_s eg50
    refine st_gr jo_113 jr_113_2 ?_
    refine st_si jo_116 (show 0 ≤ a1 by omega) (show a1 < ((300 : Nat) : Int) by omega) (fun hx => (jba_116 _ _).2 hx) (fun g52 eg52 => ?_)
    replace eg52 : g52 = jup g50 116 a1 0 := eg52
    have fg52 : jfr w_X0_write_113 h g52 := jfr_up fg50 eg52 (by unfold w_X0_write_113; omega)
    have e53 : g52 116 a1 = 0 := jup_s eg52
    refine st_gr jo_113 jr_113_3 ?_
    refine st_si jo_117 (show 0 ≤ a1 by omega) (show a1 < ((300 : Nat) : Int) by omega) (fun hx => (jba_117 _ _).2 hx) (fun g54 eg54 => ?_)
    replace eg54 : g54 = jup g52 117 a1 0 := eg54
    have fg54 : jfr w_X0_write_113 h g54 := jfr_up fg52 eg54 (by unfold w_X0_write_113; omega)
    have e55 : g54 117 a1 = 0 := jup_s eg54
    show jGo E l 72 229 229 _ 61 [.inr (.inr (.inl 113)), .inl a1, .inl a2, .inr (.inr (.inl 2)), .inr (.inr (.inl 11)), .inl t45, .inl 0, .inr (.inr (.inr ()))] [] 229 jr0 g54
    have ef56 : ∀ i k : Int, 11 ≤ i → i ≤ 15 → g54 i k = g44 i k := fun i k p1 p2 => ((jup_o eg54 (by omega)).trans ((jup_o eg52 (by omega)).trans (jup_o eg50 (by omega))))
    have e57 : g54 15 8 = g52 15 8 := jup_o eg54 (by omega)
    have e58 : g52 15 8 = g50 15 8 := jup_o eg52 (by omega)
    have e59 : g50 15 8 = g44 15 8 := jup_o eg50 (by omega)
    have e60 : g54 15 8 = g52 15 8 := jup_o eg54 (by omega)
    have e61 : g52 15 8 = g50 15 8 := jup_o eg52 (by omega)
    have e62 : g50 15 8 = g44 15 8 := jup_o eg50 (by omega)
    have e63 : g54 15 9 = g52 15 9 := jup_o eg54 (by omega)
    have e64 : g52 15 9 = g50 15 9 := jup_o eg52 (by omega)
    have e65 : g50 15 9 = g44 15 9 := jup_o eg50 (by omega)
    have hc66 : g54 115 a1 = (if ¬ g54 15 8 = 0 ∧ a2.tmod (g54 15 8) = 0 then 0 else g54 15 9) ∧ 0 ≤ g54 115 a1 := by
      have y1 : g54 115 a1 = t48 := ((jup_o eg54 (by omega)).trans (jup_o eg52 (by omega))).trans (jup_s eg50)
      have y2 : g54 15 8 = t45 := (ef56 15 8 (by decide) (by decide)).trans zt45.symm
      rw [y1, y2]
      have y3 : g54 15 9 = t48 := (ef56 15 9 (by decide) (by decide)).trans zt48.symm
      rw [y3]; exact ⟨(if_neg (fun q => by omega)).symm, by omega⟩
    have hc69 : g54 117 a1 = jsm (fun c => jHd h c a2 * g54 15 (4 + c)) ((0 : Int)).toNat ∧ 0 ≤ g54 117 a1 ∧ g54 117 a1 ≤ 80000 * (0 : Int) := by
      rw [jup_s eg54]; exact ⟨rfl, by omega, by omega⟩
    have hc70 : (∀ k : Int, ¬ (a1 * 4 ≤ k ∧ k < a1 * 4 + 4) → g54 114 k = h 114 k) ∧ (∀ i k : Int, 115 ≤ i → i ≤ 117 → ¬ k = a1 → g54 i k = h i k) := by
      exact ⟨fun k p => ((jup_o eg54 (by omega)).trans ((jup_o eg52 (by omega)).trans ((jup_o eg50 (by omega)).trans (ft43 114 k (by unfold w_X2_goOnTo; omega))))), fun i k p1 p2 p3 => ((jup_o eg54 (by omega)).trans ((jup_o eg52 (by omega)).trans ((jup_o eg50 (by omega)).trans (ft43 i k (by unfold w_X2_goOnTo; omega)))))⟩
    exact (key 1000000000000) t45 0 (.inr (.inr (.inr ()))) g54 (by omega) (by exact jGOP_fr ef56 zt43) (by exact hc66) (by exact fun c p1 p2 => absurd p2 (by omega)) (by exact fun c p1 p2 => absurd p2 (by omega)) (by exact hc69) (by exact hc70) (by omega) fg54 (by omega)
  · replace c47 : ¬ t45 = 0 := by first | exact c47 | exact Int.not_le.mp c47 | exact Int.not_lt.mp c47 | exact Decidable.not_not.mp c47
    refine And.intro (show t45 ≠ 0 by omega) ?_
    have e71 : True ∧ 0 ≤ a2.tmod t45 ∧ a2.tmod t45 < t45 := ⟨trivial, (jmd (by omega) (by omega)).2⟩
    refine And.intro (fun c72 => ?_) (fun c72 => ?_)
    · replace c72 : ¬ a2.tmod t45 = 0 := c72
      show jGo E l 72 229 229 _ 36 [.inr (.inr (.inl 113)), .inl a1, .inl a2, .inr (.inr (.inl 2)), .inr (.inr (.inl 11)), .inl t45, .inr (.inr (.inr ())), .inr (.inr (.inr ()))] [.inl a1, .inr (.inr (.inl 115))] 229 jr0 g44
      refine jGo_blk qX0_write_36 ?_
      refine st_cv (na := 2) (st := [.inl 0, .inl 3, .inr (.inr (.inl 11)), .inl a1, .inr (.inr (.inl 115))]) jo_11 rfl rfl rfl (c_X2_inForce 3 0 g44 (by omega)) rfl ?_
      rintro _ _ _ ⟨rfl, rfl, t73, rfl, ht73, zt73⟩ kt73
      replace kt73 : -2147483648 ≤ t73 ∧ t73 ≤ 2147483647 := kt73
      replace ht73 : 0 ≤ t73 ∧ t73 ≤ 200 := ht73
      replace zt73 : t73 = g44 15 (jsl (3 : Int) (0 : Int)) := zt73
      show jGo E l 72 229 229 _ 43 [.inr (.inr (.inl 113)), .inl a1, .inl a2, .inr (.inr (.inl 2)), .inr (.inr (.inl 11)), .inl t45, .inr (.inr (.inr ())), .inr (.inr (.inr ()))] [.inl t73, .inl a1, .inr (.inr (.inl 115))] 229 jr0 g44
      refine jGo_blk qX0_write_43 ?_
      refine st_si jo_115 (show 0 ≤ a1 by omega) (show a1 < ((300 : Nat) : Int) by omega) (fun hx => (jba_115 _ _).2 (show 0 ≤ t73 ∧ t73 ≤ 200 by omega)) (fun g75 eg75 => ?_)
      replace eg75 : g75 = jup g44 115 a1 t73 := eg75
      have fg75 : jfr w_X0_write_113 h g75 := jfr_up fg44 eg75 (by unfold w_X0_write_113; omega)
      have e76 : g75 115 a1 = t73 := jup_s eg75
      refine st_gr jo_113 jr_113_2 ?_
      refine st_si jo_116 (show 0 ≤ a1 by omega) (show a1 < ((300 : Nat) : Int) by omega) (fun hx => (jba_116 _ _).2 hx) (fun g77 eg77 => ?_)
      replace eg77 : g77 = jup g75 116 a1 0 := eg77
      have fg77 : jfr w_X0_write_113 h g77 := jfr_up fg75 eg77 (by unfold w_X0_write_113; omega)
      have e78 : g77 116 a1 = 0 := jup_s eg77
      refine st_gr jo_113 jr_113_3 ?_
      refine st_si jo_117 (show 0 ≤ a1 by omega) (show a1 < ((300 : Nat) : Int) by omega) (fun hx => (jba_117 _ _).2 hx) (fun g79 eg79 => ?_)
      replace eg79 : g79 = jup g77 117 a1 0 := eg79
      have fg79 : jfr w_X0_write_113 h g79 := jfr_up fg77 eg79 (by unfold w_X0_write_113; omega)
      have e80 : g79 117 a1 = 0 := jup_s eg79
      show jGo E l 72 229 229 _ 61 [.inr (.inr (.inl 113)), .inl a1, .inl a2, .inr (.inr (.inl 2)), .inr (.inr (.inl 11)), .inl t45, .inl 0, .inr (.inr (.inr ()))] [] 229 jr0 g79
      have ef81 : ∀ i k : Int, 11 ≤ i → i ≤ 15 → g79 i k = g44 i k := fun i k p1 p2 => ((jup_o eg79 (by omega)).trans ((jup_o eg77 (by omega)).trans (jup_o eg75 (by omega))))
      have e82 : g79 15 8 = g77 15 8 := jup_o eg79 (by omega)
      have e83 : g77 15 8 = g75 15 8 := jup_o eg77 (by omega)
      have e84 : g75 15 8 = g44 15 8 := jup_o eg75 (by omega)
      have e85 : g79 15 8 = g77 15 8 := jup_o eg79 (by omega)
      have e86 : g77 15 8 = g75 15 8 := jup_o eg77 (by omega)
      have e87 : g75 15 8 = g44 15 8 := jup_o eg75 (by omega)
      have e88 : g79 15 9 = g77 15 9 := jup_o eg79 (by omega)
      have e89 : g77 15 9 = g75 15 9 := jup_o eg77 (by omega)
      have e90 : g75 15 9 = g44 15 9 := jup_o eg75 (by omega)
      have hc91 : g79 115 a1 = (if ¬ g79 15 8 = 0 ∧ a2.tmod (g79 15 8) = 0 then 0 else g79 15 9) ∧ 0 ≤ g79 115 a1 := by
        have y1 : g79 115 a1 = t73 := ((jup_o eg79 (by omega)).trans (jup_o eg77 (by omega))).trans (jup_s eg75)
        have y2 : g79 15 8 = t45 := (ef81 15 8 (by decide) (by decide)).trans zt45.symm
        rw [y1, y2]
        have y3 : g79 15 9 = t73 := (ef81 15 9 (by decide) (by decide)).trans zt73.symm
        rw [y3]; exact ⟨(if_neg (fun q => by omega)).symm, by omega⟩
      have hc94 : g79 117 a1 = jsm (fun c => jHd h c a2 * g79 15 (4 + c)) ((0 : Int)).toNat ∧ 0 ≤ g79 117 a1 ∧ g79 117 a1 ≤ 80000 * (0 : Int) := by
        rw [jup_s eg79]; exact ⟨rfl, by omega, by omega⟩
      have hc95 : (∀ k : Int, ¬ (a1 * 4 ≤ k ∧ k < a1 * 4 + 4) → g79 114 k = h 114 k) ∧ (∀ i k : Int, 115 ≤ i → i ≤ 117 → ¬ k = a1 → g79 i k = h i k) := by
        exact ⟨fun k p => ((jup_o eg79 (by omega)).trans ((jup_o eg77 (by omega)).trans ((jup_o eg75 (by omega)).trans (ft43 114 k (by unfold w_X2_goOnTo; omega))))), fun i k p1 p2 p3 => ((jup_o eg79 (by omega)).trans ((jup_o eg77 (by omega)).trans ((jup_o eg75 (by omega)).trans (ft43 i k (by unfold w_X2_goOnTo; omega)))))⟩
      exact (key 1000000000000) t45 0 (.inr (.inr (.inr ()))) g79 (by omega) (by exact jGOP_fr ef81 zt43) (by exact hc91) (by exact fun c p1 p2 => absurd p2 (by omega)) (by exact fun c p1 p2 => absurd p2 (by omega)) (by exact hc94) (by exact hc95) (by omega) fg79 (by omega)
    · replace c72 : a2.tmod t45 = 0 := by first | exact c72 | exact Int.not_le.mp c72 | exact Int.not_lt.mp c72 | exact Decidable.not_not.mp c72
      show jGo E l 72 229 229 _ 43 [.inr (.inr (.inl 113)), .inl a1, .inl a2, .inr (.inr (.inl 2)), .inr (.inr (.inl 11)), .inl t45, .inr (.inr (.inr ())), .inr (.inr (.inr ()))] [.inl 0, .inl a1, .inr (.inr (.inl 115))] 229 jr0 g44
      refine jGo_blk qX0_write_43 ?_
      refine st_si jo_115 (show 0 ≤ a1 by omega) (show a1 < ((300 : Nat) : Int) by omega) (fun hx => (jba_115 _ _).2 (show 0 ≤ 0 ∧ 0 ≤ 200 by omega)) (fun g96 eg96 => ?_)
      replace eg96 : g96 = jup g44 115 a1 0 := eg96
      have fg96 : jfr w_X0_write_113 h g96 := jfr_up fg44 eg96 (by unfold w_X0_write_113; omega)
      have e97 : g96 115 a1 = 0 := jup_s eg96
      refine st_gr jo_113 jr_113_2 ?_
      refine st_si jo_116 (show 0 ≤ a1 by omega) (show a1 < ((300 : Nat) : Int) by omega) (fun hx => (jba_116 _ _).2 hx) (fun g98 eg98 => ?_)
      replace eg98 : g98 = jup g96 116 a1 0 := eg98
      have fg98 : jfr w_X0_write_113 h g98 := jfr_up fg96 eg98 (by unfold w_X0_write_113; omega)
      have e99 : g98 116 a1 = 0 := jup_s eg98
      refine st_gr jo_113 jr_113_3 ?_
      refine st_si jo_117 (show 0 ≤ a1 by omega) (show a1 < ((300 : Nat) : Int) by omega) (fun hx => (jba_117 _ _).2 hx) (fun g100 eg100 => ?_)
      replace eg100 : g100 = jup g98 117 a1 0 := eg100
      have fg100 : jfr w_X0_write_113 h g100 := jfr_up fg98 eg100 (by unfold w_X0_write_113; omega)
      have e101 : g100 117 a1 = 0 := jup_s eg100
      show jGo E l 72 229 229 _ 61 [.inr (.inr (.inl 113)), .inl a1, .inl a2, .inr (.inr (.inl 2)), .inr (.inr (.inl 11)), .inl t45, .inl 0, .inr (.inr (.inr ()))] [] 229 jr0 g100
      have ef102 : ∀ i k : Int, 11 ≤ i → i ≤ 15 → g100 i k = g44 i k := fun i k p1 p2 => ((jup_o eg100 (by omega)).trans ((jup_o eg98 (by omega)).trans (jup_o eg96 (by omega))))
      have e103 : g100 15 8 = g98 15 8 := jup_o eg100 (by omega)
      have e104 : g98 15 8 = g96 15 8 := jup_o eg98 (by omega)
      have e105 : g96 15 8 = g44 15 8 := jup_o eg96 (by omega)
      have e106 : g100 15 8 = g98 15 8 := jup_o eg100 (by omega)
      have e107 : g98 15 8 = g96 15 8 := jup_o eg98 (by omega)
      have e108 : g96 15 8 = g44 15 8 := jup_o eg96 (by omega)
      have e109 : g100 15 9 = g98 15 9 := jup_o eg100 (by omega)
      have e110 : g98 15 9 = g96 15 9 := jup_o eg98 (by omega)
      have e111 : g96 15 9 = g44 15 9 := jup_o eg96 (by omega)
      have hc112 : g100 115 a1 = (if ¬ g100 15 8 = 0 ∧ a2.tmod (g100 15 8) = 0 then 0 else g100 15 9) ∧ 0 ≤ g100 115 a1 := by
        have y1 : g100 115 a1 = 0 := ((jup_o eg100 (by omega)).trans (jup_o eg98 (by omega))).trans (jup_s eg96)
        have y2 : g100 15 8 = t45 := (ef102 15 8 (by decide) (by decide)).trans zt45.symm
        rw [y1, y2]
        exact ⟨(if_pos ⟨by omega, by omega⟩).symm, Int.le_refl _⟩
      have hc115 : g100 117 a1 = jsm (fun c => jHd h c a2 * g100 15 (4 + c)) ((0 : Int)).toNat ∧ 0 ≤ g100 117 a1 ∧ g100 117 a1 ≤ 80000 * (0 : Int) := by
        rw [jup_s eg100]; exact ⟨rfl, by omega, by omega⟩
      have hc116 : (∀ k : Int, ¬ (a1 * 4 ≤ k ∧ k < a1 * 4 + 4) → g100 114 k = h 114 k) ∧ (∀ i k : Int, 115 ≤ i → i ≤ 117 → ¬ k = a1 → g100 i k = h i k) := by
        exact ⟨fun k p => ((jup_o eg100 (by omega)).trans ((jup_o eg98 (by omega)).trans ((jup_o eg96 (by omega)).trans (ft43 114 k (by unfold w_X2_goOnTo; omega))))), fun i k p1 p2 p3 => ((jup_o eg100 (by omega)).trans ((jup_o eg98 (by omega)).trans ((jup_o eg96 (by omega)).trans (ft43 i k (by unfold w_X2_goOnTo; omega)))))⟩
      exact (key 1000000000000) t45 0 (.inr (.inr (.inr ()))) g100 (by omega) (by exact jGOP_fr ef102 zt43) (by exact hc112) (by exact fun c p1 p2 => absurd p2 (by omega)) (by exact fun c p1 p2 => absurd p2 (by omega)) (by exact hc115) (by exact hc116) (by omega) fg100 (by omega)
