def w_X11_late (i k : Int) : Prop := (i = 1) ∨ (i = 15) ∨ (i = 34) ∨ (114 ≤ i ∧ i ≤ 118) ∨ (120 ≤ i ∧ i ≤ 121) ∨ (124 ≤ i ∧ i ≤ 174) ∨ (i = 11 ∧ k = 5) ∨ (i = 29 ∧ k = 6) ∨ (i = 111 ∧ k = 3) ∨ (i = 111 ∧ 9 ≤ k ∧ k ≤ 10) ∨ (i = 119 ∧ 6 ≤ k ∧ k ≤ 10)
def k_X11_late (a1 : Int) (h : JH) (v : Option JV) (r' g : JH) : Prop := r' = jr0 ∧ jfr w_X11_late h g ∧ ∃ x : Int, v = some (.inl x) ∧ (True) ∧ (P_X11_late a1 x h g)
set_option maxHeartbeats 4000000 in
theorem c_X11_late {E : JE} {l : Launch} (a1 : Int) (h : JH) : jMt E l 153 [.inr (.inr (.inl 0)), .inl a1] 229 jr0 h (k_X11_late a1 h) := by
  refine jMt0 (nL := 3) (ls := [.inr (.inr (.inl 0)), .inl a1, .inr (.inr (.inr ()))]) (by decide +kernel) (by decide +kernel) (by decide +kernel) rfl rfl ?_
  have f0 : jfr w_X11_late h h := jfr_rf _ _
  refine jGo_blk qX11_late_0 ?_
  refine st_cv (na := 1) (st := [.inl a1, .inr (.inr (.inl 0))]) jo_0 rfl rfl rfl (c_X11_isHull a1 h) rfl ?_
  rintro _ _ _ ⟨rfl, rfl, t1, rfl, ht1, zt1⟩ kt1
  replace kt1 : -2147483648 ≤ t1 ∧ t1 ≤ 2147483647 := kt1
  replace ht1 : 0 ≤ t1 ∧ t1 ≤ 1 := ht1
  replace zt1 : (t1 = 1 ∧ 0 ≤ a1 ∧ a1 < h 29 4 ∧ h 29 4 ≤ 16) ∨ (t1 = 0 ∧ ¬ (0 ≤ a1 ∧ a1 < h 29 4)) := zt1
  refine And.intro (fun c3 => ?_) (fun c3 => ?_)
  · replace c3 : ¬ t1 = 0 := c3
    show jGo E l 153 229 229 _ 12 [.inr (.inr (.inl 0)), .inl a1, .inr (.inr (.inr ()))] [] 229 jr0 h
    refine jGo_blk qX11_late_12 ?_
    refine st_gr jo_0 jr_0_5 ?_
    refine st_gr jo_29 jr_29_3 ?_
    refine st_ar jo_33 (by decide) (show 0 ≤ a1 by omega) (show a1 < ((16 : Nat) : Int) by omega) (fun u4 eu4 => ?_)
    replace eu4 : u4 = jr0 33 a1 := eu4
    have qu4 : u4 = 36 + 3 * a1 := eu4.trans (jhul_33 a1 (by omega) (by omega)).1
    have hu4 : jHl u4 := by rw [eu4]; exact (jhul_33 a1 (by omega) (by omega)).2
    refine st_cv (na := 0) (st := [.inr (.inr (.inl u4))]) hu4.1 rfl rfl rfl (c_X4_isUnderWay u4 h hu4) rfl ?_
    rintro _ _ _ ⟨rfl, rfl, t5, rfl, ht5, zt5⟩ kt5
    replace kt5 : -2147483648 ≤ t5 ∧ t5 ≤ 2147483647 := kt5
    replace ht5 : 0 ≤ t5 ∧ t5 ≤ 1 := ht5
    replace zt5 : (t5 = 1 ∧ (h u4 3 = 0 ∨ h u4 3 = 1)) ∨ (t5 = 0 ∧ ¬ (h u4 3 = 0 ∨ h u4 3 = 1)) := zt5
    refine And.intro (fun c7 => ?_) (fun c7 => ?_)
    · replace c7 : ¬ t5 = 0 := c7
      show jGo E l 153 229 229 _ 32 [.inr (.inr (.inl 0)), .inl a1, .inr (.inr (.inr ()))] [] 229 jr0 h
      refine jGo_blk qX11_late_32 ?_
      show jGo E l 153 229 229 _ 33 [.inr (.inr (.inl 0)), .inl a1, .inr (.inr (.inr ()))] [.inl 0] 229 jr0 h
      refine jGo_blk qX11_late_33 ?_
      refine And.intro (fun c8 => ?_) (fun c8 => ?_)
      · replace c8 : (0 : Int) = 0 := c8
        show jGo E l 153 229 229 _ 44 [.inr (.inr (.inl 0)), .inl a1, .inl 0] [] 229 jr0 h
        refine jGo_blk qX11_late_44 ?_
        refine st_cv (na := 1) (st := [.inl a1, .inr (.inr (.inl 0))]) jo_0 rfl rfl rfl (c_X11_readyAhead a1 h (by omega)) rfl ?_
        rintro _ _ g10 ⟨rfl, ft9, t9, rfl, ht9, zt9⟩ kt9
        replace kt9 : -2147483648 ≤ t9 ∧ t9 ≤ 2147483647 := kt9
        have fg10 : jfr w_X11_late h g10 := jfr_tr f0 ft9 (fun i k q => by unfold w_X11_readyAhead at q; unfold w_X11_late; omega)
        replace zt9 : jRA a1 t9 h g10 := zt9
        refine st_gr jo_0 jr_0_5 ?_
        refine st_gr jo_29 jr_29_3 ?_
        refine st_ar jo_33 (by decide) (show 0 ≤ a1 by omega) (show a1 < ((16 : Nat) : Int) by omega) (fun u11 eu11 => ?_)
        replace eu11 : u11 = jr0 33 a1 := eu11
        have qu11 : u11 = 36 + 3 * a1 := eu11.trans (jhul_33 a1 (by omega) (by omega)).1
        have hu11 : jHl u11 := by rw [eu11]; exact (jhul_33 a1 (by omega) (by omega)).2
        refine st_gi hu11.1 (fun v12 ev12 b13 => ?_)
        replace ev12 : v12 = g10 u11 2 := ev12
        replace b13 := (jbf_4_2 hu11.1 _).1 b13
        refine st_gi jo_0 (fun v14 ev14 b15 => ?_)
        replace ev14 : v14 = g10 0 0 := ev14
        replace b15 := (jbf_11_0 jo_0 _).1 b15
        have e16 : g10 0 0 = h 0 0 := ft9 0 0 (by unfold w_X11_readyAhead; omega)
        refine st_cs (na := 3) (st := [.inl v14, .inl v12, .inl t9]) rfl rfl rfl (c_X11_lateness t9 v12 v14 g10) rfl ?_
        rintro _ _ _ ⟨rfl, rfl, t17, rfl, ht17, zt17⟩ kt17
        replace kt17 : -2147483648 ≤ t17 ∧ t17 ≤ 2147483647 := kt17
        replace zt17 : t17 = jlt t9 v12 v14 := zt17
        have e19 : g10 u11 2 = h u11 2 := (ft9 u11 2 (by unfold w_X11_readyAhead; omega))
        have e20 : h u11 2 = h (36 + 3 * a1) 2 := by rw [qu11]
        have e21 : g10 0 0 = h 0 0 := (ft9 0 0 (by unfold w_X11_readyAhead; omega))
        have e22 : h u4 2 = h (36 + 3 * a1) 2 := by rw [qu4]
        have e23 : h u4 3 = h (36 + 3 * a1) 3 := by rw [qu4]
        have e24 : h u4 9 = h (36 + 3 * a1) 9 := by rw [qu4]
        have e25 : h u11 2 = h (36 + 3 * a1) 2 := by rw [qu11]
        have e26 : h u11 3 = h (36 + 3 * a1) 3 := by rw [qu11]
        have e27 : h u11 9 = h (36 + 3 * a1) 9 := by rw [qu11]
        exact st_r0 (ls := []) ⟨rfl, rfl, fg10, t17, rfl, trivial, (by unfold P_X11_late; exact Or.inr (Or.inr ⟨by omega, t9, by rw [zt17, show v12 = h (36 + 3 * a1) 2 by omega, show v14 = h 0 0 by omega], zt9⟩))⟩
      · replace c8 : ¬ (0 : Int) = 0 := by first | exact c8 | exact Int.not_le.mp c8 | exact Int.not_lt.mp c8 | exact Decidable.not_not.mp c8
        exfalso; omega
    · replace c7 : t5 = 0 := by first | exact c7 | exact Int.not_le.mp c7 | exact Int.not_lt.mp c7 | exact Decidable.not_not.mp c7
      show jGo E l 153 229 229 _ 33 [.inr (.inr (.inl 0)), .inl a1, .inr (.inr (.inr ()))] [.inl (-3)] 229 jr0 h
      refine jGo_blk qX11_late_33 ?_
      refine And.intro (fun c28 => ?_) (fun c28 => ?_)
      · replace c28 : (-3 : Int) = 0 := c28
        exfalso; omega
      · replace c28 : ¬ (-3 : Int) = 0 := by first | exact c28 | exact Int.not_le.mp c28 | exact Int.not_lt.mp c28 | exact Decidable.not_not.mp c28
        refine st_cv (na := 1) (st := [.inl (-3), .inr (.inr (.inl 0))]) jo_0 rfl rfl rfl (c_X11_refused (-3) h (by omega)) rfl ?_
        rintro _ _ g30 ⟨rfl, ft29, t29, rfl, ht29, zt29⟩ kt29
        replace kt29 : -2147483648 ≤ t29 ∧ t29 ≤ 2147483647 := kt29
        replace ht29 : -7 ≤ t29 ∧ t29 ≤ -1 := ht29
        have fg30 : jfr w_X11_late h g30 := jfr_tr f0 ft29 (fun i k q => by unfold w_X11_refused at q; unfold w_X11_late; omega)
        replace zt29 : t29 = (-3 : Int) := zt29
        have e31 : h u4 2 = h (36 + 3 * a1) 2 := by rw [qu4]
        have e32 : h u4 3 = h (36 + 3 * a1) 3 := by rw [qu4]
        have e33 : h u4 9 = h (36 + 3 * a1) 9 := by rw [qu4]
        have hc34 : jAP h g30 := jAP_fr (fun i k q => by unfold jwh3 at q; exact (ft29 i k (by unfold w_X11_refused; omega)))
        exact st_r0 (ls := []) ⟨rfl, rfl, fg30, t29, rfl, trivial, (by unfold P_X11_late; by_cases zz : t29 = -1 <;> first | exact Or.inl ⟨by omega, hc34⟩ | exact Or.inr (Or.inl ⟨by omega, hc34⟩))⟩
  · replace c3 : t1 = 0 := by first | exact c3 | exact Int.not_le.mp c3 | exact Int.not_lt.mp c3 | exact Decidable.not_not.mp c3
    show jGo E l 153 229 229 _ 33 [.inr (.inr (.inl 0)), .inl a1, .inr (.inr (.inr ()))] [.inl (-1)] 229 jr0 h
    refine jGo_blk qX11_late_33 ?_
    refine And.intro (fun c35 => ?_) (fun c35 => ?_)
    · replace c35 : (-1 : Int) = 0 := c35
      exfalso; omega
    · replace c35 : ¬ (-1 : Int) = 0 := by first | exact c35 | exact Int.not_le.mp c35 | exact Int.not_lt.mp c35 | exact Decidable.not_not.mp c35
      refine st_cv (na := 1) (st := [.inl (-1), .inr (.inr (.inl 0))]) jo_0 rfl rfl rfl (c_X11_refused (-1) h (by omega)) rfl ?_
      rintro _ _ g37 ⟨rfl, ft36, t36, rfl, ht36, zt36⟩ kt36
      replace kt36 : -2147483648 ≤ t36 ∧ t36 ≤ 2147483647 := kt36
      replace ht36 : -7 ≤ t36 ∧ t36 ≤ -1 := ht36
      have fg37 : jfr w_X11_late h g37 := jfr_tr f0 ft36 (fun i k q => by unfold w_X11_refused at q; unfold w_X11_late; omega)
      replace zt36 : t36 = (-1 : Int) := zt36
      have hc38 : jAP h g37 := jAP_fr (fun i k q => by unfold jwh3 at q; exact (ft36 i k (by unfold w_X11_refused; omega)))
      exact st_r0 (ls := []) ⟨rfl, rfl, fg37, t36, rfl, trivial, (by unfold P_X11_late; by_cases zz : t36 = -1 <;> first | exact Or.inl ⟨by omega, hc38⟩ | exact Or.inr (Or.inl ⟨by omega, hc38⟩))⟩
