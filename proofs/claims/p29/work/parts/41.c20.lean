def w_X11_match (i k : Int) : Prop := (i = 1) ∨ (98 ≤ i ∧ i ≤ 100) ∨ (i = 97 ∧ 0 ≤ k ∧ k ≤ 1)
theorem ws_X6_solve__X11_match (i k : Int) (q : w_X6_solve i k) : w_X11_match i k := by
  unfold w_X6_solve at q; unfold w_X11_match
  rcases q with q | q
  · exact (Or.inr (Or.inl (by omega)))
  · exact (Or.inr (Or.inr (by omega)))
theorem ws_X11_refused__X11_match (i k : Int) (q : w_X11_refused i k) : w_X11_match i k := by
  unfold w_X11_refused at q; unfold w_X11_match
  exact (Or.inl (by omega))
def k_X11_match (a1 : Int) (a2 : Int) (h : JH) (v : Option JV) (r' g : JH) : Prop := r' = jr0 ∧ jfr w_X11_match h g ∧ ∃ x : Int, v = some (.inl x) ∧ (True) ∧ (P_X11_match a1 a2 x h)
set_option maxHeartbeats 4000000 in
theorem c_X11_match {E : JE} {l : Launch} (a1 : Int) (a2 : Int) (h : JH) (q0 : jGok h) : jMt E l 114 [.inr (.inr (.inl 0)), .inl a1, .inl a2] 229 jr0 h (k_X11_match a1 a2 h) := by
  refine jMt0 (nL := 4) (ls := [.inr (.inr (.inl 0)), .inl a1, .inl a2, .inr (.inr (.inr ()))]) (by decide +kernel) (by decide +kernel) (by decide +kernel) rfl rfl ?_
  have f0 : jfr w_X11_match h h := jfr_rf _ _
  refine jGo_blk qX11_match_0 ?_
  refine st_cs (na := 2) (st := [.inl 3, .inl a1]) rfl rfl rfl (c_X11_within a1 3 h) rfl ?_
  rintro _ _ _ ⟨rfl, rfl, t1, rfl, ht1, zt1⟩ kt1
  replace kt1 : -2147483648 ≤ t1 ∧ t1 ≤ 2147483647 := kt1
  replace ht1 : 0 ≤ t1 ∧ t1 ≤ 1 := ht1
  replace zt1 : (t1 = 1 ∧ 0 ≤ a1 ∧ a1 < (3 : Int)) ∨ (t1 = 0 ∧ ¬ (0 ≤ a1 ∧ a1 < (3 : Int))) := zt1
  refine And.intro (fun c3 => ?_) (fun c3 => ?_)
  · replace c3 : ¬ t1 = 0 := c3
    show jGo E l 114 229 229 _ 12 [.inr (.inr (.inl 0)), .inl a1, .inl a2, .inr (.inr (.inr ()))] [] 229 jr0 h
    refine jGo_blk qX11_match_12 ?_
    refine st_gr jo_0 jr_0_7 ?_
    refine st_gr jo_91 jr_91_0 ?_
    refine st_ai jo_92 (show 0 ≤ a1 by omega) (show a1 < ((3 : Nat) : Int) by omega) (fun v4 ev4 b5 => ?_)
    replace ev4 : v4 = h 92 a1 := ev4
    replace b5 := (jba_92 a1 _).1 b5
    have e6 : jw32 (2 + v4) = 2 + v4 := jzj32 (by omega)
    refine st_cs (na := 2) (st := [.inl (jw32 (2 + v4)), .inl a2]) rfl rfl rfl (c_X11_within a2 (jw32 (2 + v4)) h) rfl ?_
    rintro _ _ _ ⟨rfl, rfl, t7, rfl, ht7, zt7⟩ kt7
    replace kt7 : -2147483648 ≤ t7 ∧ t7 ≤ 2147483647 := kt7
    replace ht7 : 0 ≤ t7 ∧ t7 ≤ 1 := ht7
    replace zt7 : (t7 = 1 ∧ 0 ≤ a2 ∧ a2 < (jw32 (2 + v4))) ∨ (t7 = 0 ∧ ¬ (0 ≤ a2 ∧ a2 < (jw32 (2 + v4)))) := zt7
    refine And.intro (fun c9 => ?_) (fun c9 => ?_)
    · replace c9 : ¬ t7 = 0 := c9
      show jGo E l 114 229 229 _ 35 [.inr (.inr (.inl 0)), .inl a1, .inl a2, .inr (.inr (.inr ()))] [] 229 jr0 h
      refine jGo_blk qX11_match_35 ?_
      show jGo E l 114 229 229 _ 36 [.inr (.inr (.inl 0)), .inl a1, .inl a2, .inr (.inr (.inr ()))] [.inl 0] 229 jr0 h
      refine jGo_blk qX11_match_36 ?_
      refine And.intro (fun c10 => ?_) (fun c10 => ?_)
      · replace c10 : (0 : Int) = 0 := c10
        show jGo E l 114 229 229 _ 47 [.inr (.inr (.inl 0)), .inl a1, .inl a2, .inl 0] [] 229 jr0 h
        refine jGo_blk qX11_match_47 ?_
        refine st_gr jo_0 jr_0_8 ?_
        refine st_gr jo_0 jr_0_6 ?_
        refine st_gr jo_0 jr_0_7 ?_
        refine st_cv (na := 3) (st := [.inl a1, .inr (.inr (.inl 91)), .inr (.inr (.inl 84)), .inr (.inr (.inl 97))]) jo_97 rfl rfl rfl (c_X6_solve a1 h (by omega) (jGok_fr q0 (fun s => f0 87 s (by unfold w_X11_match; omega)))) rfl ?_
        rintro _ _ g12 ⟨rfl, ft11, rfl, zt11⟩ kt11
        have fg12 : jfr w_X11_match h g12 := jfr_tr f0 ft11 ws_X6_solve__X11_match
        replace zt11 : jMtP a1 h g12 := zt11
        refine And.intro (fun c14 => ?_) (fun c14 => And.intro (fun c15 => ?_) (fun c15 => ?_))
        · replace c14 : a2 = 0 := c14
          show jGo E l 114 229 229 _ 92 [.inr (.inr (.inl 0)), .inl a1, .inl a2, .inl 0] [] 229 jr0 g12
          refine jGo_blk qX11_match_92 ?_
          refine st_gr jo_0 jr_0_8 ?_
          refine st_gi jo_97 (fun v16 ev16 b17 => ?_)
          replace ev16 : v16 = g12 97 0 := ev16
          replace b17 := (jbf_6_0 jo_97 _).1 b17
          have hc18 : jM5 h → ∃ d : Nat → Nat, jOp (jcA h a1) (jcO h a1) (h 84 0).toNat d ∧ v16 = jMx d (jcs (jcO h a1) d) a2 := by
            intro q9
            obtain ⟨d, op, e1, e2, e3⟩ := zt11 q9
            refine ⟨d, op, ?_⟩
            unfold jMx
            rw [if_pos (by omega)]; omega
          exact st_r0 (ls := []) ⟨rfl, rfl, fg12, v16, rfl, trivial, (by unfold P_X11_match; exact Or.inr (Or.inr ⟨by omega, by omega, by omega, hc18⟩))⟩
        · replace c15 : a2 = 1 := c15
          show jGo E l 114 229 229 _ 100 [.inr (.inr (.inl 0)), .inl a1, .inl a2, .inl 0] [] 229 jr0 g12
          refine jGo_blk qX11_match_100 ?_
          refine st_gr jo_0 jr_0_8 ?_
          refine st_gi jo_97 (fun v19 ev19 b20 => ?_)
          replace ev19 : v19 = g12 97 1 := ev19
          replace b20 := (jbf_6_1 jo_97 _).1 b20
          have hc21 : jM5 h → ∃ d : Nat → Nat, jOp (jcA h a1) (jcO h a1) (h 84 0).toNat d ∧ v19 = jMx d (jcs (jcO h a1) d) a2 := by
            intro q9
            obtain ⟨d, op, e1, e2, e3⟩ := zt11 q9
            refine ⟨d, op, ?_⟩
            unfold jMx
            rw [if_neg (by omega), if_pos (by omega)]; omega
          exact st_r0 (ls := []) ⟨rfl, rfl, fg12, v19, rfl, trivial, (by unfold P_X11_match; exact Or.inr (Or.inr ⟨by omega, by omega, by omega, hc21⟩))⟩
        · replace c14 : ¬ a2 = 0 := c14; replace c15 : ¬ a2 = 1 := c15
          show jGo E l 114 229 229 _ 108 [.inr (.inr (.inl 0)), .inl a1, .inl a2, .inl 0] [] 229 jr0 g12
          refine jGo_blk qX11_match_108 ?_
          refine st_gr jo_0 jr_0_8 ?_
          refine st_gr jo_97 jr_97_2 ?_
          have e22 : jw32 (a2 - 2) = a2 - 2 := jzj32 (by omega)
          refine st_ai jo_98 (show 0 ≤ jw32 (a2 - 2) by omega) (show jw32 (a2 - 2) < ((6 : Nat) : Int) by omega) (fun v23 ev23 b24 => ?_)
          replace ev23 : v23 = g12 98 (jw32 (a2 - 2)) := ev23
          replace b24 := (jba_98 (jw32 (a2 - 2)) _).1 b24
          have hc25 : jM5 h → ∃ d : Nat → Nat, jOp (jcA h a1) (jcO h a1) (h 84 0).toNat d ∧ v23 = jMx d (jcs (jcO h a1) d) a2 := by
            intro q9
            obtain ⟨d, op, e1, e2, e3⟩ := zt11 q9
            refine ⟨d, op, ?_⟩
            unfold jMx
            have e4 := e1 (a2 - 2).toNat (by omega)
            rw [Int.toNat_of_nonneg (show 0 ≤ a2 - 2 by omega)] at e4
            rw [if_neg (by omega), if_neg (by omega), ← e4, ev23]
            exact congrArg (g12 98) (by omega)
          exact st_r0 (ls := []) ⟨rfl, rfl, fg12, v23, rfl, trivial, (by unfold P_X11_match; exact Or.inr (Or.inr ⟨by omega, by omega, by omega, hc25⟩))⟩
      · replace c10 : ¬ (0 : Int) = 0 := by first | exact c10 | exact Int.not_le.mp c10 | exact Int.not_lt.mp c10 | exact Decidable.not_not.mp c10
        exfalso; omega
    · replace c9 : t7 = 0 := by first | exact c9 | exact Int.not_le.mp c9 | exact Int.not_lt.mp c9 | exact Decidable.not_not.mp c9
      show jGo E l 114 229 229 _ 36 [.inr (.inr (.inl 0)), .inl a1, .inl a2, .inr (.inr (.inr ()))] [.inl (-2)] 229 jr0 h
      refine jGo_blk qX11_match_36 ?_
      refine And.intro (fun c26 => ?_) (fun c26 => ?_)
      · replace c26 : (-2 : Int) = 0 := c26
        exfalso; omega
      · replace c26 : ¬ (-2 : Int) = 0 := by first | exact c26 | exact Int.not_le.mp c26 | exact Int.not_lt.mp c26 | exact Decidable.not_not.mp c26
        refine st_cv (na := 1) (st := [.inl (-2), .inr (.inr (.inl 0))]) jo_0 rfl rfl rfl (c_X11_refused (-2) h (by omega)) rfl ?_
        rintro _ _ g28 ⟨rfl, ft27, t27, rfl, ht27, zt27⟩ kt27
        replace kt27 : -2147483648 ≤ t27 ∧ t27 ≤ 2147483647 := kt27
        replace ht27 : -7 ≤ t27 ∧ t27 ≤ -1 := ht27
        have fg28 : jfr w_X11_match h g28 := jfr_tr f0 ft27 ws_X11_refused__X11_match
        replace zt27 : t27 = (-2 : Int) := zt27
        exact st_r0 (ls := []) ⟨rfl, rfl, fg28, t27, rfl, trivial, (by unfold P_X11_match; by_cases zz : t27 = -1 <;> first | exact Or.inl (by omega) | exact Or.inr (Or.inl (by omega)))⟩
  · replace c3 : t1 = 0 := by first | exact c3 | exact Int.not_le.mp c3 | exact Int.not_lt.mp c3 | exact Decidable.not_not.mp c3
    show jGo E l 114 229 229 _ 36 [.inr (.inr (.inl 0)), .inl a1, .inl a2, .inr (.inr (.inr ()))] [.inl (-1)] 229 jr0 h
    refine jGo_blk qX11_match_36 ?_
    refine And.intro (fun c29 => ?_) (fun c29 => ?_)
    · replace c29 : (-1 : Int) = 0 := c29
      exfalso; omega
    · replace c29 : ¬ (-1 : Int) = 0 := by first | exact c29 | exact Int.not_le.mp c29 | exact Int.not_lt.mp c29 | exact Decidable.not_not.mp c29
      refine st_cv (na := 1) (st := [.inl (-1), .inr (.inr (.inl 0))]) jo_0 rfl rfl rfl (c_X11_refused (-1) h (by omega)) rfl ?_
      rintro _ _ g31 ⟨rfl, ft30, t30, rfl, ht30, zt30⟩ kt30
      replace kt30 : -2147483648 ≤ t30 ∧ t30 ≤ 2147483647 := kt30
      replace ht30 : -7 ≤ t30 ∧ t30 ≤ -1 := ht30
      have fg31 : jfr w_X11_match h g31 := jfr_tr f0 ft30 ws_X11_refused__X11_match
      replace zt30 : t30 = (-1 : Int) := zt30
      exact st_r0 (ls := []) ⟨rfl, rfl, fg31, t30, rfl, trivial, (by unfold P_X11_match; by_cases zz : t30 = -1 <;> first | exact Or.inl (by omega) | exact Or.inr (Or.inl (by omega)))⟩

def k_X12_ones (a0 : Int) (h : JH) (v : Option JV) (r' g : JH) : Prop := r' = jr0 ∧ h = g ∧ ∃ x : Int, v = some (.inl x) ∧ (True) ∧ (x = jpp (a0).toNat)
set_option maxHeartbeats 4000000 in
theorem c_X12_ones {E : JE} {l : Launch} (a0 : Int) (h : JH) (p0 : 0 ≤ a0 ∧ a0 ≤ 63) : jMt E l 116 [.inl a0] 229 jr0 h (k_X12_ones a0 h) := by
  refine jMt0 (nL := 3) (ls := [.inl a0, .inr (.inr (.inr ())), .inr (.inr (.inr ()))]) (by decide +kernel) (by decide +kernel) (by decide +kernel) rfl rfl ?_
  have key : ∀ N : Nat, (∀ (x1 : Int) (x2 : Int), (0 ≤ x2 ∧ x2 ≤ 63) → (x1 + jpp (x2).toNat = jpp a0.toNat) → (0 ≤ x1 ∧ x1 ≤ 6) → x2 < (N : Int) → jGo E l 116 229 229 (jRK (k_X12_ones a0 h)) 4 [.inl a0, .inl x1, .inl x2] [] 229 jr0 h) := by
    intro N
    induction N with
    | zero => exact fun _ _ hi hx0 hx1 hN => absurd hN (by omega)
    | succ N ih =>
      intro x1 x2 hi hx0 hx1 hN
      refine jGo_ok (fun hls _ => ?_)
      have rx1 : -2147483648 ≤ x1 ∧ x1 ≤ 2147483647 := hls (.inl x1) (by simp)
      have hp0 := jpp_s (x := x2) (by omega) (by omega)
      have hp1 := jpp_s (x := x2 / 2) (by omega) (by omega)
      have hp2 := jpp_s (x := a0) (by omega) (by omega)
      refine jGo_blk qX12_ones_4 ?_
      refine And.intro (fun c1 => ?_) (fun c1 => ?_)
      · replace c1 : x2 ≤ 0 := c1
        show jGo E l 116 229 229 _ 21 [.inl a0, .inl x1, .inl x2] [] 229 jr0 h
        refine jGo_blk qX12_ones_21 ?_
        exact st_r0 (ls := []) ⟨rfl, rfl, rfl, x1, rfl, trivial, (by have y9 : jpp x2.toNat = 0 := (by rw [show x2 = 0 by omega]; exact jpp_0); omega)⟩
      · replace c1 : 0 < x2 := by first | exact c1 | exact Int.not_le.mp c1 | exact Int.not_lt.mp c1 | exact Decidable.not_not.mp c1
        refine And.intro (show 2 ≠ 0 by omega) ?_
        have e2 : x2.tmod 2 = x2 % 2 ∧ 0 ≤ x2.tmod 2 ∧ x2.tmod 2 < 2 := jmd (by omega) (by omega)
        have e3 : jw32 (x1 + (x2.tmod 2)) = x1 + (x2.tmod 2) := jzj32 (by omega)
        refine And.intro (show 2 ≠ 0 by omega) ?_
        have e4 : jw32 (x2.tdiv 2) = x2 / 2 := j32d (by omega) (by omega) (by omega)
        show jGo E l 116 229 229 _ 4 [.inl a0, .inl (jw32 (x1 + (x2.tmod 2))), .inl (jw32 (x2.tdiv 2))] [] 229 jr0 h
        exact ih (jw32 (x1 + (x2.tmod 2))) (jw32 (x2.tdiv 2)) (by omega) (by rw [show jw32 (x2.tdiv 2) = x2 / 2 by omega]; omega) (by omega) (by omega)
  refine jGo_blk qX12_ones_0 ?_
  show jGo E l 116 229 229 _ 4 [.inl a0, .inl 0, .inl a0] [] 229 jr0 h
  exact (key 1000000000000) 0 a0 (by omega) (by omega) (by omega) (by omega)

def k_X12_fits (a1 : Int) (a2 : Int) (h : JH) (v : Option JV) (r' g : JH) : Prop := r' = jr0 ∧ h = g ∧ ∃ x : Int, v = some (.inl x) ∧ (0 ≤ x ∧ x ≤ 1) ∧ ((x = 1 ∧ jmft h a1 a2) ∨ (x = 0 ∧ ¬ jmft h a1 a2))
set_option maxHeartbeats 4000000 in
theorem c_X12_fits {E : JE} {l : Launch} (a1 : Int) (a2 : Int) (h : JH) (p1 : 0 ≤ a1 ∧ a1 ≤ 39) (p2 : 0 ≤ a2 ∧ a2 ≤ 17) : jMt E l 115 [.inr (.inr (.inl 176)), .inl a1, .inl a2] 229 jr0 h (k_X12_fits a1 a2 h) := by
  refine jMt0 (nL := 4) (ls := [.inr (.inr (.inl 176)), .inl a1, .inl a2, .inr (.inr (.inr ()))]) (by decide +kernel) (by decide +kernel) (by decide +kernel) rfl rfl ?_
  refine jGo_blk qX12_fits_0 ?_
  refine st_gr jo_176 jr_176_36 ?_
  refine st_ai jo_206 (show 0 ≤ a1 by omega) (show a1 < ((40 : Nat) : Int) by omega) (fun v1 ev1 b2 => ?_)
  replace ev1 : v1 = h 206 a1 := ev1
  replace b2 := (jba_206 a1 _).1 b2
  refine st_gr jo_176 jr_176_42 ?_
  refine st_ai jo_212 (show 0 ≤ a2 by omega) (show a2 < ((18 : Nat) : Int) by omega) (fun v3 ev3 b4 => ?_)
  replace ev3 : v3 = h 212 a2 := ev3
  replace b4 := (jba_212 a2 _).1 b4
  have e5 : jw32 (v1 - v3) = v1 - v3 := jzj32 (by omega)
  refine st_gr jo_176 jr_176_38 ?_
  refine st_ai jo_208 (show 0 ≤ a1 by omega) (show a1 < ((40 : Nat) : Int) by omega) (fun v6 ev6 b7 => ?_)
  replace ev6 : v6 = h 208 a1 := ev6
  replace b7 := (jba_208 a1 _).1 b7
  refine And.intro (fun c8 => ?_) (fun c8 => ?_)
  · replace c8 : 0 ≤ v6 := c8
    show jGo E l 115 229 229 _ 78 [.inr (.inr (.inl 176)), .inl a1, .inl a2, .inl (jw32 (v1 - v3))] [] 229 jr0 h
    refine jGo_blk qX12_fits_78 ?_
    show jGo E l 115 229 229 _ 79 [.inr (.inr (.inl 176)), .inl a1, .inl a2, .inl (jw32 (v1 - v3))] [.inl 0] 229 jr0 h
    refine jGo_blk qX12_fits_79 ?_
    exact st_r1 (ls := []) (show (0 : Int) = 0 ∨ (0 : Int) = 1 by omega) ⟨rfl, rfl, rfl, 0, rfl, (by omega), (by unfold jmft; omega)⟩
  · replace c8 : v6 < 0 := by first | exact c8 | exact Int.not_le.mp c8 | exact Int.not_lt.mp c8 | exact Decidable.not_not.mp c8
    refine st_gr jo_176 jr_176_35 ?_
    refine st_ai jo_205 (show 0 ≤ a1 by omega) (show a1 < ((40 : Nat) : Int) by omega) (fun v9 ev9 b10 => ?_)
    replace ev9 : v9 = h 205 a1 := ev9
    replace b10 := (jba_205 a1 _).1 b10
    refine st_gr jo_176 jr_176_41 ?_
    refine st_ai jo_211 (show 0 ≤ a2 by omega) (show a2 < ((18 : Nat) : Int) by omega) (fun v11 ev11 b12 => ?_)
    replace ev11 : v11 = h 211 a2 := ev11
    replace b12 := (jba_211 a2 _).1 b12
    refine And.intro (fun c13 => ?_) (fun c13 => ?_)
    · replace c13 : ¬ v9 = v11 := c13
      show jGo E l 115 229 229 _ 78 [.inr (.inr (.inl 176)), .inl a1, .inl a2, .inl (jw32 (v1 - v3))] [] 229 jr0 h
      refine jGo_blk qX12_fits_78 ?_
      show jGo E l 115 229 229 _ 79 [.inr (.inr (.inl 176)), .inl a1, .inl a2, .inl (jw32 (v1 - v3))] [.inl 0] 229 jr0 h
      refine jGo_blk qX12_fits_79 ?_
      exact st_r1 (ls := []) (show (0 : Int) = 0 ∨ (0 : Int) = 1 by omega) ⟨rfl, rfl, rfl, 0, rfl, (by omega), (by unfold jmft; omega)⟩
    · replace c13 : v9 = v11 := by first | exact c13 | exact Int.not_le.mp c13 | exact Int.not_lt.mp c13 | exact Decidable.not_not.mp c13
      refine st_gr jo_176 jr_176_43 ?_
      refine st_ai jo_213 (show 0 ≤ a2 by omega) (show a2 < ((18 : Nat) : Int) by omega) (fun v14 ev14 b15 => ?_)
      replace ev14 : v14 = h 213 a2 := ev14
      replace b15 := (jba_213 a2 _).1 b15
      refine And.intro (fun c16 => ?_) (fun c16 => ?_)
      · replace c16 : v14 < jw32 (v1 - v3) := c16
        show jGo E l 115 229 229 _ 78 [.inr (.inr (.inl 176)), .inl a1, .inl a2, .inl (jw32 (v1 - v3))] [] 229 jr0 h
        refine jGo_blk qX12_fits_78 ?_
        show jGo E l 115 229 229 _ 79 [.inr (.inr (.inl 176)), .inl a1, .inl a2, .inl (jw32 (v1 - v3))] [.inl 0] 229 jr0 h
        refine jGo_blk qX12_fits_79 ?_
        exact st_r1 (ls := []) (show (0 : Int) = 0 ∨ (0 : Int) = 1 by omega) ⟨rfl, rfl, rfl, 0, rfl, (by omega), (by unfold jmft; omega)⟩
      · replace c16 : jw32 (v1 - v3) ≤ v14 := by first | exact c16 | exact Int.not_le.mp c16 | exact Int.not_lt.mp c16 | exact Decidable.not_not.mp c16
        have e17 : jw32 (-(jw32 (v1 - v3))) = -(jw32 (v1 - v3)) := jzj32 (by omega)
        refine st_gr jo_176 jr_176_43 ?_
        refine st_ai jo_213 (show 0 ≤ a2 by omega) (show a2 < ((18 : Nat) : Int) by omega) (fun v18 ev18 b19 => ?_)
        replace ev18 : v18 = h 213 a2 := ev18
        replace b19 := (jba_213 a2 _).1 b19
        refine And.intro (fun c20 => ?_) (fun c20 => ?_)
        · replace c20 : v18 < jw32 (-(jw32 (v1 - v3))) := c20
          show jGo E l 115 229 229 _ 78 [.inr (.inr (.inl 176)), .inl a1, .inl a2, .inl (jw32 (v1 - v3))] [] 229 jr0 h
          refine jGo_blk qX12_fits_78 ?_
          show jGo E l 115 229 229 _ 79 [.inr (.inr (.inl 176)), .inl a1, .inl a2, .inl (jw32 (v1 - v3))] [.inl 0] 229 jr0 h
          refine jGo_blk qX12_fits_79 ?_
          exact st_r1 (ls := []) (show (0 : Int) = 0 ∨ (0 : Int) = 1 by omega) ⟨rfl, rfl, rfl, 0, rfl, (by omega), (by unfold jmft; omega)⟩
        · replace c20 : jw32 (-(jw32 (v1 - v3))) ≤ v18 := by first | exact c20 | exact Int.not_le.mp c20 | exact Int.not_lt.mp c20 | exact Decidable.not_not.mp c20
          refine st_gr jo_176 jr_176_37 ?_
          refine st_ai jo_207 (show 0 ≤ a1 by omega) (show a1 < ((40 : Nat) : Int) by omega) (fun v21 ev21 b22 => ?_)
          replace ev21 : v21 = h 207 a1 := ev21
          replace b22 := (jba_207 a1 _).1 b22
          refine st_gr jo_176 jr_176_44 ?_
          refine st_ai jo_214 (show 0 ≤ a2 by omega) (show a2 < ((18 : Nat) : Int) by omega) (fun v23 ev23 b24 => ?_)
          replace ev23 : v23 = h 214 a2 := ev23
          replace b24 := (jba_214 a2 _).1 b24
          refine And.intro (fun c25 => ?_) (fun c25 => ?_)
          · replace c25 : v21 < v23 := c25
            show jGo E l 115 229 229 _ 78 [.inr (.inr (.inl 176)), .inl a1, .inl a2, .inl (jw32 (v1 - v3))] [] 229 jr0 h
            refine jGo_blk qX12_fits_78 ?_
            show jGo E l 115 229 229 _ 79 [.inr (.inr (.inl 176)), .inl a1, .inl a2, .inl (jw32 (v1 - v3))] [.inl 0] 229 jr0 h
            refine jGo_blk qX12_fits_79 ?_
            exact st_r1 (ls := []) (show (0 : Int) = 0 ∨ (0 : Int) = 1 by omega) ⟨rfl, rfl, rfl, 0, rfl, (by omega), (by unfold jmft; omega)⟩
          · replace c25 : v23 ≤ v21 := by first | exact c25 | exact Int.not_le.mp c25 | exact Int.not_lt.mp c25 | exact Decidable.not_not.mp c25
            show jGo E l 115 229 229 _ 79 [.inr (.inr (.inl 176)), .inl a1, .inl a2, .inl (jw32 (v1 - v3))] [.inl 1] 229 jr0 h
            refine jGo_blk qX12_fits_79 ?_
            exact st_r1 (ls := []) (show (1 : Int) = 0 ∨ (1 : Int) = 1 by omega) ⟨rfl, rfl, rfl, 1, rfl, (by omega), (by unfold jmft; omega)⟩
