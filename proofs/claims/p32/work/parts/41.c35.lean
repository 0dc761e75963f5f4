def w_X11_ready (i k : Int) : Prop := (i = 1) ∨ (i = 15) ∨ (i = 34) ∨ (114 ≤ i ∧ i ≤ 118) ∨ (120 ≤ i ∧ i ≤ 121) ∨ (124 ≤ i ∧ i ≤ 174) ∨ (i = 11 ∧ k = 5) ∨ (i = 29 ∧ k = 6) ∨ (i = 111 ∧ k = 3) ∨ (i = 111 ∧ 9 ≤ k ∧ k ≤ 10) ∨ (i = 119 ∧ 6 ≤ k ∧ k ≤ 10)
def k_X11_ready (a1 : Int) (h : JH) (v : Option JV) (r' g : JH) : Prop := r' = jr0 ∧ jfr w_X11_ready h g ∧ ∃ x : Int, v = some (.inl x) ∧ (True) ∧ (P_X11_ready a1 x h g)
set_option maxHeartbeats 4000000 in
theorem c_X11_ready {E : JE} {l : Launch} (a1 : Int) (h : JH) : jMt E l 147 [.inr (.inr (.inl 0)), .inl a1] 229 jr0 h (k_X11_ready a1 h) := by
  refine jMt0 (nL := 3) (ls := [.inr (.inr (.inl 0)), .inl a1, .inr (.inr (.inr ()))]) (by decide +kernel) (by decide +kernel) (by decide +kernel) rfl rfl ?_
  have f0 : jfr w_X11_ready h h := jfr_rf _ _
  refine jGo_blk qX11_ready_0 ?_
  refine st_cv (na := 1) (st := [.inl a1, .inr (.inr (.inl 0))]) jo_0 rfl rfl rfl (c_X11_isHull a1 h) rfl ?_
  rintro _ _ _ ⟨rfl, rfl, t1, rfl, ht1, zt1⟩ kt1
  replace kt1 : -2147483648 ≤ t1 ∧ t1 ≤ 2147483647 := kt1
  replace ht1 : 0 ≤ t1 ∧ t1 ≤ 1 := ht1
  replace zt1 : (t1 = 1 ∧ 0 ≤ a1 ∧ a1 < h 29 4 ∧ h 29 4 ≤ 16) ∨ (t1 = 0 ∧ ¬ (0 ≤ a1 ∧ a1 < h 29 4)) := zt1
  refine And.intro (fun c3 => ?_) (fun c3 => ?_)
  · replace c3 : ¬ t1 = 0 := c3
    show jGo E l 147 229 229 _ 12 [.inr (.inr (.inl 0)), .inl a1, .inr (.inr (.inr ()))] [] 229 jr0 h
    refine jGo_blk qX11_ready_12 ?_
    refine st_gr jo_0 jr_0_5 ?_
    refine st_gr jo_29 jr_29_3 ?_
    refine st_ar jo_33 (by decide) (show 0 ≤ a1 by omega) (show a1 < ((16 : Nat) : Int) by omega) (fun u4 eu4 => ?_)
    replace eu4 : u4 = jr0 33 a1 := eu4
    have qu4 : u4 = 36 + 3 * a1 := eu4.trans (jhul_33 a1 (by omega) (by omega)).1
    have hu4 : jHl u4 := by rw [eu4]; exact (jhul_33 a1 (by omega) (by omega)).2
    refine st_gi hu4.1 (fun v5 ev5 b6 => ?_)
    replace ev5 : v5 = h u4 3 := ev5
    replace b6 := (jbf_4_3 hu4.1 _).1 b6
    refine And.intro (fun c7 => ?_) (fun c7 => ?_)
    · replace c7 : ¬ v5 = 3 := c7
      show jGo E l 147 229 229 _ 33 [.inr (.inr (.inl 0)), .inl a1, .inr (.inr (.inr ()))] [] 229 jr0 h
      refine jGo_blk qX11_ready_33 ?_
      show jGo E l 147 229 229 _ 34 [.inr (.inr (.inl 0)), .inl a1, .inr (.inr (.inr ()))] [.inl 0] 229 jr0 h
      refine jGo_blk qX11_ready_34 ?_
      refine And.intro (fun c8 => ?_) (fun c8 => ?_)
      · replace c8 : (0 : Int) = 0 := c8
        show jGo E l 147 229 229 _ 45 [.inr (.inr (.inl 0)), .inl a1, .inl 0] [] 229 jr0 h
        refine jGo_blk qX11_ready_45 ?_
        refine st_gr jo_0 jr_0_5 ?_
        refine st_gr jo_29 jr_29_3 ?_
        refine st_ar jo_33 (by decide) (show 0 ≤ a1 by omega) (show a1 < ((16 : Nat) : Int) by omega) (fun u9 eu9 => ?_)
        replace eu9 : u9 = jr0 33 a1 := eu9
        have qu9 : u9 = 36 + 3 * a1 := eu9.trans (jhul_33 a1 (by omega) (by omega)).1
        have hu9 : jHl u9 := by rw [eu9]; exact (jhul_33 a1 (by omega) (by omega)).2
        refine st_gi hu9.1 (fun v10 ev10 b11 => ?_)
        replace ev10 : v10 = h u9 3 := ev10
        replace b11 := (jbf_4_3 hu9.1 _).1 b11
        refine And.intro (fun c12 => ?_) (fun c12 => ?_)
        · replace c12 : ¬ v10 = 2 := c12
          show jGo E l 147 229 229 _ 74 [.inr (.inr (.inl 0)), .inl a1, .inl 0] [] 229 jr0 h
          refine jGo_blk qX11_ready_74 ?_
          refine st_cv (na := 1) (st := [.inl a1, .inr (.inr (.inl 0))]) jo_0 rfl rfl rfl (c_X11_readyAhead a1 h (by omega)) rfl ?_
          rintro _ _ g14 ⟨rfl, ft13, t13, rfl, ht13, zt13⟩ kt13
          replace kt13 : -2147483648 ≤ t13 ∧ t13 ≤ 2147483647 := kt13
          have fg14 : jfr w_X11_ready h g14 := jfr_tr f0 ft13 (fun i k q => by unfold w_X11_readyAhead at q; unfold w_X11_ready; omega)
          replace zt13 : jRA a1 t13 h g14 := zt13
          have e15 : h u4 3 = h (36 + 3 * a1) 3 := by rw [qu4]
          have e16 : h u9 3 = h (36 + 3 * a1) 3 := by rw [qu9]
          have e17 : h u4 2 = h (36 + 3 * a1) 2 := by rw [qu4]
          have e18 : h u4 3 = h (36 + 3 * a1) 3 := by rw [qu4]
          have e19 : h u4 9 = h (36 + 3 * a1) 9 := by rw [qu4]
          have e20 : h u9 2 = h (36 + 3 * a1) 2 := by rw [qu9]
          have e21 : h u9 3 = h (36 + 3 * a1) 3 := by rw [qu9]
          have e22 : h u9 9 = h (36 + 3 * a1) 9 := by rw [qu9]
          exact st_r0 (ls := []) ⟨rfl, rfl, fg14, t13, rfl, trivial, (by unfold P_X11_ready; exact Or.inr (Or.inr (Or.inr ⟨by omega, t13, by omega, zt13⟩)))⟩
        · replace c12 : v10 = 2 := by first | exact c12 | exact Int.not_le.mp c12 | exact Int.not_lt.mp c12 | exact Decidable.not_not.mp c12
          refine st_gr jo_0 jr_0_5 ?_
          refine st_gr jo_29 jr_29_3 ?_
          refine st_ar jo_33 (by decide) (show 0 ≤ a1 by omega) (show a1 < ((16 : Nat) : Int) by omega) (fun u23 eu23 => ?_)
          replace eu23 : u23 = jr0 33 a1 := eu23
          have qu23 : u23 = 36 + 3 * a1 := eu23.trans (jhul_33 a1 (by omega) (by omega)).1
          have hu23 : jHl u23 := by rw [eu23]; exact (jhul_33 a1 (by omega) (by omega)).2
          refine st_gi hu23.1 (fun v24 ev24 b25 => ?_)
          replace ev24 : v24 = h u23 9 := ev24
          replace b25 := (jbf_4_9 hu23.1 _).1 b25
          have e26 : h u4 3 = h (36 + 3 * a1) 3 := by rw [qu4]
          have e27 : h u9 3 = h (36 + 3 * a1) 3 := by rw [qu9]
          have e28 : h u23 9 = h (36 + 3 * a1) 9 := by rw [qu23]
          have e29 : h u4 2 = h (36 + 3 * a1) 2 := by rw [qu4]
          have e30 : h u4 3 = h (36 + 3 * a1) 3 := by rw [qu4]
          have e31 : h u4 9 = h (36 + 3 * a1) 9 := by rw [qu4]
          have e32 : h u9 2 = h (36 + 3 * a1) 2 := by rw [qu9]
          have e33 : h u9 3 = h (36 + 3 * a1) 3 := by rw [qu9]
          have e34 : h u9 9 = h (36 + 3 * a1) 9 := by rw [qu9]
          have e35 : h u23 2 = h (36 + 3 * a1) 2 := by rw [qu23]
          have e36 : h u23 3 = h (36 + 3 * a1) 3 := by rw [qu23]
          have e37 : h u23 9 = h (36 + 3 * a1) 9 := by rw [qu23]
          have hc38 : jAP h h := jAP_fr (fun i k q => by unfold jwh3 at q; exact rfl)
          exact st_r0 (ls := []) ⟨rfl, rfl, f0, v24, rfl, trivial, (by unfold P_X11_ready; by_cases zz : v24 = -1 <;> first | exact Or.inl ⟨by omega, hc38⟩ | exact Or.inr (Or.inl ⟨by omega, hc38⟩) | exact Or.inr (Or.inr (Or.inl ⟨by omega, hc38⟩)))⟩
      · replace c8 : ¬ (0 : Int) = 0 := by first | exact c8 | exact Int.not_le.mp c8 | exact Int.not_lt.mp c8 | exact Decidable.not_not.mp c8
        exfalso; omega
    · replace c7 : v5 = 3 := by first | exact c7 | exact Int.not_le.mp c7 | exact Int.not_lt.mp c7 | exact Decidable.not_not.mp c7
      show jGo E l 147 229 229 _ 34 [.inr (.inr (.inl 0)), .inl a1, .inr (.inr (.inr ()))] [.inl (-3)] 229 jr0 h
      refine jGo_blk qX11_ready_34 ?_
      refine And.intro (fun c39 => ?_) (fun c39 => ?_)
      · replace c39 : (-3 : Int) = 0 := c39
        exfalso; omega
      · replace c39 : ¬ (-3 : Int) = 0 := by first | exact c39 | exact Int.not_le.mp c39 | exact Int.not_lt.mp c39 | exact Decidable.not_not.mp c39
        refine st_cv (na := 1) (st := [.inl (-3), .inr (.inr (.inl 0))]) jo_0 rfl rfl rfl (c_X11_refused (-3) h (by omega)) rfl ?_
        rintro _ _ g41 ⟨rfl, ft40, t40, rfl, ht40, zt40⟩ kt40
        replace kt40 : -2147483648 ≤ t40 ∧ t40 ≤ 2147483647 := kt40
        replace ht40 : -7 ≤ t40 ∧ t40 ≤ -1 := ht40
        have fg41 : jfr w_X11_ready h g41 := jfr_tr f0 ft40 (fun i k q => by unfold w_X11_refused at q; unfold w_X11_ready; omega)
        replace zt40 : t40 = (-3 : Int) := zt40
        have e42 : h u4 3 = h (36 + 3 * a1) 3 := by rw [qu4]
        have e43 : h u4 2 = h (36 + 3 * a1) 2 := by rw [qu4]
        have e44 : h u4 3 = h (36 + 3 * a1) 3 := by rw [qu4]
        have e45 : h u4 9 = h (36 + 3 * a1) 9 := by rw [qu4]
        have hc46 : jAP h g41 := jAP_fr (fun i k q => by unfold jwh3 at q; exact (ft40 i k (by unfold w_X11_refused; omega)))
        exact st_r0 (ls := []) ⟨rfl, rfl, fg41, t40, rfl, trivial, (by unfold P_X11_ready; by_cases zz : t40 = -1 <;> first | exact Or.inl ⟨by omega, hc46⟩ | exact Or.inr (Or.inl ⟨by omega, hc46⟩) | exact Or.inr (Or.inr (Or.inl ⟨by omega, hc46⟩)))⟩
  · replace c3 : t1 = 0 := by first | exact c3 | exact Int.not_le.mp c3 | exact Int.not_lt.mp c3 | exact Decidable.not_not.mp c3
    show jGo E l 147 229 229 _ 34 [.inr (.inr (.inl 0)), .inl a1, .inr (.inr (.inr ()))] [.inl (-1)] 229 jr0 h
    refine jGo_blk qX11_ready_34 ?_
    refine And.intro (fun c47 => ?_) (fun c47 => ?_)
    · replace c47 : (-1 : Int) = 0 := c47
      exfalso; omega
    · replace c47 : ¬ (-1 : Int) = 0 := by first | exact c47 | exact Int.not_le.mp c47 | exact Int.not_lt.mp c47 | exact Decidable.not_not.mp c47
      refine st_cv (na := 1) (st := [.inl (-1), .inr (.inr (.inl 0))]) jo_0 rfl rfl rfl (c_X11_refused (-1) h (by omega)) rfl ?_
      rintro _ _ g49 ⟨rfl, ft48, t48, rfl, ht48, zt48⟩ kt48
      replace kt48 : -2147483648 ≤ t48 ∧ t48 ≤ 2147483647 := kt48
      replace ht48 : -7 ≤ t48 ∧ t48 ≤ -1 := ht48
      have fg49 : jfr w_X11_ready h g49 := jfr_tr f0 ft48 (fun i k q => by unfold w_X11_refused at q; unfold w_X11_ready; omega)
      replace zt48 : t48 = (-1 : Int) := zt48
      have hc50 : jAP h g49 := jAP_fr (fun i k q => by unfold jwh3 at q; exact (ft48 i k (by unfold w_X11_refused; omega)))
      exact st_r0 (ls := []) ⟨rfl, rfl, fg49, t48, rfl, trivial, (by unfold P_X11_ready; by_cases zz : t48 = -1 <;> first | exact Or.inl ⟨by omega, hc50⟩ | exact Or.inr (Or.inl ⟨by omega, hc50⟩) | exact Or.inr (Or.inr (Or.inl ⟨by omega, hc50⟩)))⟩
