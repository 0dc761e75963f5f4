def k_X11_within (a0 : Int) (a1 : Int) (h : JH) (v : Option JV) (r' g : JH) : Prop := r' = jr0 ∧ h = g ∧ ∃ x : Int, v = some (.inl x) ∧ (0 ≤ x ∧ x ≤ 1) ∧ ((x = 1 ∧ 0 ≤ a0 ∧ a0 < a1) ∨ (x = 0 ∧ ¬ (0 ≤ a0 ∧ a0 < a1)))
set_option maxHeartbeats 4000000 in
theorem c_X11_within {E : JE} {l : Launch} (a0 : Int) (a1 : Int) (h : JH) : jMt E l 14 [.inl a0, .inl a1] 229 jr0 h (k_X11_within a0 a1 h) := by
  refine jMt0 (nL := 2) (ls := [.inl a0, .inl a1]) (by decide +kernel) (by decide +kernel) (by decide +kernel) rfl rfl ?_
  refine jGo_blk qX11_within_0 ?_
  refine And.intro (fun c1 => ?_) (fun c1 => ?_)
  · replace c1 : a0 < 0 := c1
    show jGo E l 14 229 229 _ 13 [.inl a0, .inl a1] [] 229 jr0 h
    refine jGo_blk qX11_within_13 ?_
    show jGo E l 14 229 229 _ 14 [.inl a0, .inl a1] [.inl 0] 229 jr0 h
    refine jGo_blk qX11_within_14 ?_
    exact st_r1 (ls := []) (show (0 : Int) = 0 ∨ (0 : Int) = 1 by omega) ⟨rfl, rfl, rfl, 0, rfl, (by omega), (by omega)⟩
  · replace c1 : 0 ≤ a0 := by first | exact c1 | exact Int.not_le.mp c1 | exact Int.not_lt.mp c1 | exact Decidable.not_not.mp c1
    refine And.intro (fun c2 => ?_) (fun c2 => ?_)
    · replace c2 : a1 ≤ a0 := c2
      show jGo E l 14 229 229 _ 13 [.inl a0, .inl a1] [] 229 jr0 h
      refine jGo_blk qX11_within_13 ?_
      show jGo E l 14 229 229 _ 14 [.inl a0, .inl a1] [.inl 0] 229 jr0 h
      refine jGo_blk qX11_within_14 ?_
      exact st_r1 (ls := []) (show (0 : Int) = 0 ∨ (0 : Int) = 1 by omega) ⟨rfl, rfl, rfl, 0, rfl, (by omega), (by omega)⟩
    · replace c2 : a0 < a1 := by first | exact c2 | exact Int.not_le.mp c2 | exact Int.not_lt.mp c2 | exact Decidable.not_not.mp c2
      show jGo E l 14 229 229 _ 14 [.inl a0, .inl a1] [.inl 1] 229 jr0 h
      refine jGo_blk qX11_within_14 ?_
      exact st_r1 (ls := []) (show (1 : Int) = 0 ∨ (1 : Int) = 1 by omega) ⟨rfl, rfl, rfl, 1, rfl, (by omega), (by omega)⟩

def k_X11_outside (a0 : Int) (a1 : Int) (a2 : Int) (h : JH) (v : Option JV) (r' g : JH) : Prop := r' = jr0 ∧ h = g ∧ ∃ x : Int, v = some (.inl x) ∧ (-6 ≤ x ∧ x ≤ 0) ∧ ((x = -4 ∧ a0 < a1) ∨ (x = -6 ∧ a1 ≤ a0 ∧ a2 < a0) ∨ (x = 0 ∧ a1 ≤ a0 ∧ a0 ≤ a2))
set_option maxHeartbeats 4000000 in
theorem c_X11_outside {E : JE} {l : Launch} (a0 : Int) (a1 : Int) (a2 : Int) (h : JH) : jMt E l 15 [.inl a0, .inl a1, .inl a2] 229 jr0 h (k_X11_outside a0 a1 a2 h) := by
  refine jMt0 (nL := 3) (ls := [.inl a0, .inl a1, .inl a2]) (by decide +kernel) (by decide +kernel) (by decide +kernel) rfl rfl ?_
  refine jGo_blk qX11_outside_0 ?_
  refine And.intro (fun c1 => ?_) (fun c1 => ?_)
  · replace c1 : a1 ≤ a0 := c1
    show jGo E l 15 229 229 _ 10 [.inl a0, .inl a1, .inl a2] [] 229 jr0 h
    refine jGo_blk qX11_outside_10 ?_
    refine And.intro (fun c2 => ?_) (fun c2 => ?_)
    · replace c2 : a0 ≤ a2 := c2
      show jGo E l 15 229 229 _ 20 [.inl a0, .inl a1, .inl a2] [] 229 jr0 h
      refine jGo_blk qX11_outside_20 ?_
      show jGo E l 15 229 229 _ 21 [.inl a0, .inl a1, .inl a2] [.inl 0] 229 jr0 h
      refine jGo_blk qX11_outside_21 ?_
      exact st_r0 (ls := []) ⟨rfl, rfl, rfl, 0, rfl, (by omega), (by omega)⟩
    · replace c2 : a2 < a0 := by first | exact c2 | exact Int.not_le.mp c2 | exact Int.not_lt.mp c2 | exact Decidable.not_not.mp c2
      show jGo E l 15 229 229 _ 21 [.inl a0, .inl a1, .inl a2] [.inl (-6)] 229 jr0 h
      refine jGo_blk qX11_outside_21 ?_
      exact st_r0 (ls := []) ⟨rfl, rfl, rfl, (-6), rfl, (by omega), (by omega)⟩
  · replace c1 : a0 < a1 := by first | exact c1 | exact Int.not_le.mp c1 | exact Int.not_lt.mp c1 | exact Decidable.not_not.mp c1
    show jGo E l 15 229 229 _ 21 [.inl a0, .inl a1, .inl a2] [.inl (-4)] 229 jr0 h
    refine jGo_blk qX11_outside_21 ?_
    exact st_r0 (ls := []) ⟨rfl, rfl, rfl, (-4), rfl, (by omega), (by omega)⟩

def w_X7_forget (i k : Int) : Prop := (i = 111 ∧ 9 ≤ k ∧ k ≤ 11)
def k_X7_forget (h : JH) (v : Option JV) (r' g : JH) : Prop := r' = jr0 ∧ jfr w_X7_forget h g ∧ v = none ∧ (g 111 9 = 0 ∧ g 111 10 = 0 ∧ g 111 11 = 0)
set_option maxHeartbeats 4000000 in
theorem c_X7_forget {E : JE} {l : Launch} (h : JH) : jMt E l 17 [.inr (.inr (.inl 111))] 229 jr0 h (k_X7_forget h) := by
  refine jMt0 (nL := 1) (ls := [.inr (.inr (.inl 111))]) (by decide +kernel) (by decide +kernel) (by decide +kernel) rfl rfl ?_
  have f0 : jfr w_X7_forget h h := jfr_rf _ _
  refine jGo_blk qX7_forget_0 ?_
  refine st_pi jo_111 (fun hx => (jbf_7_9 jo_111 _).2 (show 0 ≤ 0 ∧ 0 ≤ 1 by omega)) (fun g1 eg1 => ?_)
  replace eg1 : g1 = jup h 111 9 0 := eg1
  have fg1 : jfr w_X7_forget h g1 := jfr_up f0 eg1 (by unfold w_X7_forget; omega)
  have e2 : g1 111 9 = 0 := jup_s eg1
  refine st_pi jo_111 (fun hx => (jbf_7_10 jo_111 _).2 (show 0 ≤ 0 ∧ 0 ≤ 1 by omega)) (fun g3 eg3 => ?_)
  replace eg3 : g3 = jup g1 111 10 0 := eg3
  have fg3 : jfr w_X7_forget h g3 := jfr_up fg1 eg3 (by unfold w_X7_forget; omega)
  have e4 : g3 111 10 = 0 := jup_s eg3
  refine st_pi jo_111 (fun hx => (jbf_7_11 jo_111 _).2 (show 0 ≤ 0 ∧ 0 ≤ 1 by omega)) (fun g5 eg5 => ?_)
  replace eg5 : g5 = jup g3 111 11 0 := eg5
  have fg5 : jfr w_X7_forget h g5 := jfr_up fg3 eg5 (by unfold w_X7_forget; omega)
  have e6 : g5 111 11 = 0 := jup_s eg5
  exact ⟨rfl, rfl, fg5, rfl, (by exact ⟨(((jup_o eg5 (by first | exact fun q => absurd q.1 (by decide) | exact fun q => absurd q.2 (by decide) | omega)).trans (jup_o eg3 (by first | exact fun q => absurd q.1 (by decide) | exact fun q => absurd q.2 (by decide) | omega)))).trans (jup_s eg1), ((jup_o eg5 (by first | exact fun q => absurd q.1 (by decide) | exact fun q => absurd q.2 (by decide) | omega))).trans (jup_s eg3), jup_s eg5⟩)⟩

def w_X11_refused (i k : Int) : Prop := (i = 1)
def k_X11_refused (a1 : Int) (h : JH) (v : Option JV) (r' g : JH) : Prop := r' = jr0 ∧ jfr w_X11_refused h g ∧ ∃ x : Int, v = some (.inl x) ∧ (-7 ≤ x ∧ x ≤ -1) ∧ (x = a1)
set_option maxHeartbeats 4000000 in
theorem c_X11_refused {E : JE} {l : Launch} (a1 : Int) (h : JH) (p1 : -7 ≤ a1 ∧ a1 ≤ -1) : jMt E l 16 [.inr (.inr (.inl 0)), .inl a1] 229 jr0 h (k_X11_refused a1 h) := by
  refine jMt0 (nL := 2) (ls := [.inr (.inr (.inl 0)), .inl a1]) (by decide +kernel) (by decide +kernel) (by decide +kernel) rfl rfl ?_
  have f0 : jfr w_X11_refused h h := jfr_rf _ _
  refine jGo_blk qX11_refused_0 ?_
  refine st_gr jo_0 jr_0_1 ?_
  have e1 : jw32 (-a1) = -a1 := jzj32 (by omega)
  refine st_ai jo_1 (show 0 ≤ jw32 (-a1) by omega) (show jw32 (-a1) < ((8 : Nat) : Int) by omega) (fun v2 ev2 b3 => ?_)
  replace ev2 : v2 = h 1 (jw32 (-a1)) := ev2
  replace b3 := (jba_1 (jw32 (-a1)) _).1 b3
  refine st_si jo_1 (show 0 ≤ jw32 (-a1) by omega) (show jw32 (-a1) < ((8 : Nat) : Int) by omega) (fun hx => (jba_1 _ _).2 hx) (fun g4 eg4 => ?_)
  replace eg4 : g4 = jup h 1 (jw32 (-a1)) (jw32 (v2 + 1)) := eg4
  have fg4 : jfr w_X11_refused h g4 := jfr_up f0 eg4 (by unfold w_X11_refused; omega)
  have e5 : g4 1 (jw32 (-a1)) = jw32 (v2 + 1) := jup_s eg4
  exact st_r0 (ls := []) ⟨rfl, rfl, fg4, a1, rfl, (by omega), (by omega)⟩

def w_X11_hands (i k : Int) : Prop := (i = 1) ∨ (i = 3) ∨ (i = 111 ∧ 9 ≤ k ∧ k ≤ 11)
theorem ws_X7_forget__X11_hands (i k : Int) (q : w_X7_forget i k) : w_X11_hands i k := by
  unfold w_X7_forget at q; unfold w_X11_hands
  exact (Or.inr (Or.inr (by omega)))
theorem ws_X11_refused__X11_hands (i k : Int) (q : w_X11_refused i k) : w_X11_hands i k := by
  unfold w_X11_refused at q; unfold w_X11_hands
  exact (Or.inl (by omega))
def k_X11_hands (a1 : Int) (a2 : Int) (h : JH) (v : Option JV) (r' g : JH) : Prop := r' = jr0 ∧ jfr w_X11_hands h g ∧ ∃ x : Int, v = some (.inl x) ∧ (-7 ≤ x ∧ x ≤ 400) ∧ ((P_X11_hands a1 a2 x h g) ∧ jFg (x < 0) h g)
set_option maxHeartbeats 4000000 in
theorem c_X11_hands {E : JE} {l : Launch} (a1 : Int) (a2 : Int) (h : JH) : jMt E l 18 [.inr (.inr (.inl 0)), .inl a1, .inl a2] 229 jr0 h (k_X11_hands a1 a2 h) := by
  refine jMt0 (nL := 5) (ls := [.inr (.inr (.inl 0)), .inl a1, .inl a2, .inr (.inr (.inr ())), .inr (.inr (.inr ()))]) (by decide +kernel) (by decide +kernel) (by decide +kernel) rfl rfl ?_
  have f0 : jfr w_X11_hands h h := jfr_rf _ _
  refine jGo_blk qX11_hands_0 ?_
  refine st_cs (na := 2) (st := [.inl 4, .inl a1]) rfl rfl rfl (c_X11_within a1 4 h) rfl ?_
  rintro _ _ _ ⟨rfl, rfl, t1, rfl, ht1, zt1⟩ kt1
  replace kt1 : -2147483648 ≤ t1 ∧ t1 ≤ 2147483647 := kt1
  replace ht1 : 0 ≤ t1 ∧ t1 ≤ 1 := ht1
  replace zt1 : (t1 = 1 ∧ 0 ≤ a1 ∧ a1 < (4 : Int)) ∨ (t1 = 0 ∧ ¬ (0 ≤ a1 ∧ a1 < (4 : Int))) := zt1
  refine And.intro (fun c3 => ?_) (fun c3 => ?_)
  · replace c3 : ¬ t1 = 0 := c3
    show jGo E l 18 229 229 _ 12 [.inr (.inr (.inl 0)), .inl a1, .inl a2, .inr (.inr (.inr ())), .inr (.inr (.inr ()))] [] 229 jr0 h
    refine jGo_blk qX11_hands_12 ?_
    refine st_cs (na := 3) (st := [.inl 400, .inl 0, .inl a2]) rfl rfl rfl (c_X11_outside a2 0 400 h) rfl ?_
    rintro _ _ _ ⟨rfl, rfl, t4, rfl, ht4, zt4⟩ kt4
    replace kt4 : -2147483648 ≤ t4 ∧ t4 ≤ 2147483647 := kt4
    replace ht4 : -6 ≤ t4 ∧ t4 ≤ 0 := ht4
    replace zt4 : (t4 = -4 ∧ a2 < (0 : Int)) ∨ (t4 = -6 ∧ (0 : Int) ≤ a2 ∧ (400 : Int) < a2) ∨ (t4 = 0 ∧ (0 : Int) ≤ a2 ∧ a2 ≤ (400 : Int)) := zt4
    show jGo E l 18 229 229 _ 20 [.inr (.inr (.inl 0)), .inl a1, .inl a2, .inr (.inr (.inr ())), .inr (.inr (.inr ()))] [.inl t4] 229 jr0 h
    refine jGo_blk qX11_hands_20 ?_
    refine And.intro (fun c6 => ?_) (fun c6 => ?_)
    · replace c6 : t4 = 0 := c6
      show jGo E l 18 229 229 _ 31 [.inr (.inr (.inl 0)), .inl a1, .inl a2, .inl t4, .inr (.inr (.inr ()))] [] 229 jr0 h
      refine jGo_blk qX11_hands_31 ?_
      refine st_gr jo_0 jr_0_11 ?_
      refine st_cv (na := 0) (st := [.inr (.inr (.inl 111))]) jo_111 rfl rfl rfl (c_X7_forget h) rfl ?_
      rintro _ _ g8 ⟨rfl, ft7, rfl, zt7⟩ kt7
      have fg8 : jfr w_X11_hands h g8 := jfr_tr f0 ft7 ws_X7_forget__X11_hands
      replace zt7 : g8 111 9 = 0 ∧ g8 111 10 = 0 ∧ g8 111 11 = 0 := zt7
      refine st_gr jo_0 jr_0_2 ?_
      refine st_gr jo_2 jr_2_0 ?_
      refine st_ai jo_3 (show 0 ≤ a1 by omega) (show a1 < ((4 : Nat) : Int) by omega) (fun v9 ev9 b10 => ?_)
      replace ev9 : v9 = g8 3 a1 := ev9
      replace b10 := (jba_3 a1 _).1 b10
      refine st_gr jo_0 jr_0_2 ?_
      refine st_gr jo_2 jr_2_0 ?_
      refine st_si jo_3 (show 0 ≤ a1 by omega) (show a1 < ((4 : Nat) : Int) by omega) (fun hx => (jba_3 _ _).2 (show 0 ≤ a2 ∧ a2 ≤ 400 by omega)) (fun g11 eg11 => ?_)
      replace eg11 : g11 = jup g8 3 a1 a2 := eg11
      have fg11 : jfr w_X11_hands h g11 := jfr_up fg8 eg11 (by unfold w_X11_hands; omega)
      have e12 : g11 3 a1 = a2 := jup_s eg11
      have e13 : g8 3 a1 = h 3 a1 := (ft7 3 a1 (by unfold w_X7_forget; omega))
      have hs14 : g11 3 a1 = a2 := by
        exact jup_s eg11
      have hs15 : ∀ i k : Int, 3 ≤ i → i ≤ 3 → ¬ (i = 3 ∧ k = a1) → g11 i k = h i k := fun i k p1 p2 p3 => ((jup_o eg11 (by first | exact fun q => absurd q.1 (by decide) | exact fun q => absurd q.2 (by decide) | omega)).trans (ft7 i k (by unfold w_X7_forget; omega)))
      exact st_r0 (ls := []) ⟨rfl, rfl, fg11, v9, rfl, (by omega), (by refine ⟨by unfold P_X11_hands; first | exact Or.inr (Or.inr (Or.inr ⟨by omega, ⟨hs14, hs15⟩⟩)), Or.inl ?_⟩; exact ⟨((jup_o eg11 (by first | exact fun q => absurd q.1 (by decide) | exact fun q => absurd q.2 (by decide) | omega))).trans zt7.1, ((jup_o eg11 (by first | exact fun q => absurd q.1 (by decide) | exact fun q => absurd q.2 (by decide) | omega))).trans zt7.2.1, ((jup_o eg11 (by first | exact fun q => absurd q.1 (by decide) | exact fun q => absurd q.2 (by decide) | omega))).trans zt7.2.2⟩)⟩
    · replace c6 : ¬ t4 = 0 := by first | exact c6 | exact Int.not_le.mp c6 | exact Int.not_lt.mp c6 | exact Decidable.not_not.mp c6
      refine st_cv (na := 1) (st := [.inl t4, .inr (.inr (.inl 0))]) jo_0 rfl rfl rfl (c_X11_refused t4 h (by omega)) rfl ?_
      rintro _ _ g17 ⟨rfl, ft16, t16, rfl, ht16, zt16⟩ kt16
      replace kt16 : -2147483648 ≤ t16 ∧ t16 ≤ 2147483647 := kt16
      replace ht16 : -7 ≤ t16 ∧ t16 ≤ -1 := ht16
      have fg17 : jfr w_X11_hands h g17 := jfr_tr f0 ft16 ws_X11_refused__X11_hands
      replace zt16 : t16 = t4 := zt16
      have hs18 : ∀ i k : Int, 3 ≤ i → i ≤ 3 → g17 i k = h i k := fun i k p1 p2 => (ft16 i k (by unfold w_X11_refused; omega))
      exact st_r0 (ls := []) ⟨rfl, rfl, fg17, t16, rfl, (by omega), (by refine ⟨by unfold P_X11_hands; by_cases zz : t16 = -4 <;> first | exact Or.inl ⟨by omega, hs18⟩ | exact Or.inr (Or.inl ⟨by omega, hs18⟩) | exact Or.inr (Or.inr (Or.inl ⟨by omega, hs18⟩)), Or.inr ⟨by omega, fun i k p1 => (ft16 i k (by first | exact p1 | (unfold w_X11_refused; omega)))⟩⟩)⟩
  · replace c3 : t1 = 0 := by first | exact c3 | exact Int.not_le.mp c3 | exact Int.not_lt.mp c3 | exact Decidable.not_not.mp c3
    show jGo E l 18 229 229 _ 20 [.inr (.inr (.inl 0)), .inl a1, .inl a2, .inr (.inr (.inr ())), .inr (.inr (.inr ()))] [.inl (-1)] 229 jr0 h
    refine jGo_blk qX11_hands_20 ?_
    refine And.intro (fun c19 => ?_) (fun c19 => ?_)
    · replace c19 : (-1 : Int) = 0 := c19
      exfalso; omega
    · replace c19 : ¬ (-1 : Int) = 0 := by first | exact c19 | exact Int.not_le.mp c19 | exact Int.not_lt.mp c19 | exact Decidable.not_not.mp c19
      refine st_cv (na := 1) (st := [.inl (-1), .inr (.inr (.inl 0))]) jo_0 rfl rfl rfl (c_X11_refused (-1) h (by omega)) rfl ?_
      rintro _ _ g21 ⟨rfl, ft20, t20, rfl, ht20, zt20⟩ kt20
      replace kt20 : -2147483648 ≤ t20 ∧ t20 ≤ 2147483647 := kt20
      replace ht20 : -7 ≤ t20 ∧ t20 ≤ -1 := ht20
      have fg21 : jfr w_X11_hands h g21 := jfr_tr f0 ft20 ws_X11_refused__X11_hands
      replace zt20 : t20 = (-1 : Int) := zt20
      have hs22 : ∀ i k : Int, 3 ≤ i → i ≤ 3 → g21 i k = h i k := fun i k p1 p2 => (ft20 i k (by unfold w_X11_refused; omega))
      exact st_r0 (ls := []) ⟨rfl, rfl, fg21, t20, rfl, (by omega), (by refine ⟨by unfold P_X11_hands; by_cases zz : t20 = -4 <;> first | exact Or.inl ⟨by omega, hs22⟩ | exact Or.inr (Or.inl ⟨by omega, hs22⟩) | exact Or.inr (Or.inr (Or.inl ⟨by omega, hs22⟩)), Or.inr ⟨by omega, fun i k p1 => (ft20 i k (by first | exact p1 | (unfold w_X11_refused; omega)))⟩⟩)⟩

def k_X12_in (a0 : Int) (a1 : Int) (a2 : Int) (h : JH) (v : Option JV) (r' g : JH) : Prop := r' = jr0 ∧ h = g ∧ ∃ x : Int, v = some (.inl x) ∧ (0 ≤ x ∧ x ≤ 1) ∧ ((x = 1 ∧ a1 ≤ a0 ∧ a0 ≤ a2) ∨ (x = 0 ∧ ¬ (a1 ≤ a0 ∧ a0 ≤ a2)))
set_option maxHeartbeats 4000000 in
theorem c_X12_in {E : JE} {l : Launch} (a0 : Int) (a1 : Int) (a2 : Int) (h : JH) : jMt E l 19 [.inl a0, .inl a1, .inl a2] 229 jr0 h (k_X12_in a0 a1 a2 h) := by
  refine jMt0 (nL := 3) (ls := [.inl a0, .inl a1, .inl a2]) (by decide +kernel) (by decide +kernel) (by decide +kernel) rfl rfl ?_
  refine jGo_blk qX12_in_0 ?_
  refine And.intro (fun c1 => ?_) (fun c1 => ?_)
  · replace c1 : a0 < a1 := c1
    show jGo E l 19 229 229 _ 14 [.inl a0, .inl a1, .inl a2] [] 229 jr0 h
    refine jGo_blk qX12_in_14 ?_
    show jGo E l 19 229 229 _ 15 [.inl a0, .inl a1, .inl a2] [.inl 0] 229 jr0 h
    refine jGo_blk qX12_in_15 ?_
    exact st_r1 (ls := []) (show (0 : Int) = 0 ∨ (0 : Int) = 1 by omega) ⟨rfl, rfl, rfl, 0, rfl, (by omega), (by omega)⟩
  · replace c1 : a1 ≤ a0 := by first | exact c1 | exact Int.not_le.mp c1 | exact Int.not_lt.mp c1 | exact Decidable.not_not.mp c1
    refine And.intro (fun c2 => ?_) (fun c2 => ?_)
    · replace c2 : a2 < a0 := c2
      show jGo E l 19 229 229 _ 14 [.inl a0, .inl a1, .inl a2] [] 229 jr0 h
      refine jGo_blk qX12_in_14 ?_
      show jGo E l 19 229 229 _ 15 [.inl a0, .inl a1, .inl a2] [.inl 0] 229 jr0 h
      refine jGo_blk qX12_in_15 ?_
      exact st_r1 (ls := []) (show (0 : Int) = 0 ∨ (0 : Int) = 1 by omega) ⟨rfl, rfl, rfl, 0, rfl, (by omega), (by omega)⟩
    · replace c2 : a0 ≤ a2 := by first | exact c2 | exact Int.not_le.mp c2 | exact Int.not_lt.mp c2 | exact Decidable.not_not.mp c2
      show jGo E l 19 229 229 _ 15 [.inl a0, .inl a1, .inl a2] [.inl 1] 229 jr0 h
      refine jGo_blk qX12_in_15 ?_
      exact st_r1 (ls := []) (show (1 : Int) = 0 ∨ (1 : Int) = 1 by omega) ⟨rfl, rfl, rfl, 1, rfl, (by omega), (by omega)⟩

def w_X12_refuse (i k : Int) : Prop := (i = 219)
def k_X12_refuse (a1 : Int) (h : JH) (v : Option JV) (r' g : JH) : Prop := r' = jr0 ∧ jfr w_X12_refuse h g ∧ ∃ x : Int, v = some (.inl x) ∧ (-7 ≤ x ∧ x ≤ -1) ∧ (x = a1)
set_option maxHeartbeats 4000000 in
theorem c_X12_refuse {E : JE} {l : Launch} (a1 : Int) (h : JH) (p1 : -7 ≤ a1 ∧ a1 ≤ -1) : jMt E l 20 [.inr (.inr (.inl 176)), .inl a1] 229 jr0 h (k_X12_refuse a1 h) := by
  refine jMt0 (nL := 2) (ls := [.inr (.inr (.inl 176)), .inl a1]) (by decide +kernel) (by decide +kernel) (by decide +kernel) rfl rfl ?_
  have f0 : jfr w_X12_refuse h h := jfr_rf _ _
  refine jGo_blk qX12_refuse_0 ?_
  refine st_gr jo_176 jr_176_50 ?_
  have e1 : jw32 (-a1) = -a1 := jzj32 (by omega)
  refine st_ai jo_219 (show 0 ≤ jw32 (-a1) by omega) (show jw32 (-a1) < ((8 : Nat) : Int) by omega) (fun v2 ev2 b3 => ?_)
  replace ev2 : v2 = h 219 (jw32 (-a1)) := ev2
  replace b3 := (jba_219 (jw32 (-a1)) _).1 b3
  refine st_si jo_219 (show 0 ≤ jw32 (-a1) by omega) (show jw32 (-a1) < ((8 : Nat) : Int) by omega) (fun hx => (jba_219 _ _).2 hx) (fun g4 eg4 => ?_)
  replace eg4 : g4 = jup h 219 (jw32 (-a1)) (jw32 (v2 + 1)) := eg4
  have fg4 : jfr w_X12_refuse h g4 := jfr_up f0 eg4 (by unfold w_X12_refuse; omega)
  have e5 : g4 219 (jw32 (-a1)) = jw32 (v2 + 1) := jup_s eg4
  exact st_r0 (ls := []) ⟨rfl, rfl, fg4, a1, rfl, (by omega), (by omega)⟩
theorem jzma_w_X12_refuse {i k : Int} (q : jma i k) : ¬ w_X12_refuse i k := by unfold jma at q; unfold w_X12_refuse; omega

def w_X12_hands (i k : Int) : Prop := (i = 177) ∨ (i = 219)
theorem ws_X12_refuse__X12_hands (i k : Int) (q : w_X12_refuse i k) : w_X12_hands i k := by
  unfold w_X12_refuse at q; unfold w_X12_hands
  exact (Or.inr (by omega))
def k_X12_hands (a1 : Int) (a2 : Int) (h : JH) (v : Option JV) (r' g : JH) : Prop := r' = jr0 ∧ jfr w_X12_hands h g ∧ ∃ x : Int, v = some (.inl x) ∧ (-7 ≤ x ∧ x ≤ 400) ∧ ((P_X12_hands a1 a2 x h g) ∧ jRx (x < 0) h g)
set_option maxHeartbeats 4000000 in
theorem c_X12_hands {E : JE} {l : Launch} (a1 : Int) (a2 : Int) (h : JH) : jMt E l 21 [.inr (.inr (.inl 176)), .inl a1, .inl a2] 229 jr0 h (k_X12_hands a1 a2 h) := by
  refine jMt0 (nL := 4) (ls := [.inr (.inr (.inl 176)), .inl a1, .inl a2, .inr (.inr (.inr ()))]) (by decide +kernel) (by decide +kernel) (by decide +kernel) rfl rfl ?_
  have f0 : jfr w_X12_hands h h := jfr_rf _ _
  refine jGo_blk qX12_hands_0 ?_
  refine st_cs (na := 3) (st := [.inl 3, .inl 0, .inl a1]) rfl rfl rfl (c_X12_in a1 0 3 h) rfl ?_
  rintro _ _ _ ⟨rfl, rfl, t1, rfl, ht1, zt1⟩ kt1
  replace kt1 : -2147483648 ≤ t1 ∧ t1 ≤ 2147483647 := kt1
  replace ht1 : 0 ≤ t1 ∧ t1 ≤ 1 := ht1
  replace zt1 : (t1 = 1 ∧ (0 : Int) ≤ a1 ∧ a1 ≤ (3 : Int)) ∨ (t1 = 0 ∧ ¬ ((0 : Int) ≤ a1 ∧ a1 ≤ (3 : Int))) := zt1
  refine And.intro (fun c3 => ?_) (fun c3 => ?_)
  · replace c3 : ¬ t1 = 0 := c3
    show jGo E l 21 229 229 _ 15 [.inr (.inr (.inl 176)), .inl a1, .inl a2, .inr (.inr (.inr ()))] [] 229 jr0 h
    refine jGo_blk qX12_hands_15 ?_
    refine And.intro (fun c4 => ?_) (fun c4 => ?_)
    · replace c4 : 0 ≤ a2 := c4
      show jGo E l 21 229 229 _ 26 [.inr (.inr (.inl 176)), .inl a1, .inl a2, .inr (.inr (.inr ()))] [] 229 jr0 h
      refine jGo_blk qX12_hands_26 ?_
      refine And.intro (fun c5 => ?_) (fun c5 => ?_)
      · replace c5 : a2 ≤ 400 := c5
        show jGo E l 21 229 229 _ 40 [.inr (.inr (.inl 176)), .inl a1, .inl a2, .inr (.inr (.inr ()))] [] 229 jr0 h
        refine jGo_blk qX12_hands_40 ?_
        refine st_gr jo_176 jr_176_1 ?_
        refine st_ai jo_177 (show 0 ≤ a1 by omega) (show a1 < ((4 : Nat) : Int) by omega) (fun v6 ev6 b7 => ?_)
        replace ev6 : v6 = h 177 a1 := ev6
        replace b7 := (jba_177 a1 _).1 b7
        refine st_gr jo_176 jr_176_1 ?_
        refine st_si jo_177 (show 0 ≤ a1 by omega) (show a1 < ((4 : Nat) : Int) by omega) (fun hx => (jba_177 _ _).2 (show 0 ≤ a2 ∧ a2 ≤ 400 by omega)) (fun g8 eg8 => ?_)
        replace eg8 : g8 = jup h 177 a1 a2 := eg8
        have fg8 : jfr w_X12_hands h g8 := jfr_up f0 eg8 (by unfold w_X12_hands; omega)
        have e9 : g8 177 a1 = a2 := jup_s eg8
        have hs10 : g8 177 a1 = a2 := by
          exact jup_s eg8
        have hs11 : ∀ i k : Int, 177 ≤ i → i ≤ 177 → ¬ (i = 177 ∧ k = a1) → g8 i k = h i k := fun i k p1 p2 p3 => (jup_o eg8 (by first | exact fun q => absurd q.1 (by decide) | exact fun q => absurd q.2 (by decide) | omega))
        exact st_r0 (ls := []) ⟨rfl, rfl, fg8, v6, rfl, (by omega), (by refine ⟨by unfold P_X12_hands; first | exact Or.inr (Or.inr (Or.inr ⟨by omega, ⟨hs10, hs11⟩⟩)), fun b9 => absurd b9 (by omega)⟩)⟩
      · replace c5 : 400 < a2 := by first | exact c5 | exact Int.not_le.mp c5 | exact Int.not_lt.mp c5 | exact Decidable.not_not.mp c5
        refine st_cv (na := 1) (st := [.inl (-6), .inr (.inr (.inl 176))]) jo_176 rfl rfl rfl (c_X12_refuse (-6) h (by omega)) rfl ?_
        rintro _ _ g13 ⟨rfl, ft12, t12, rfl, ht12, zt12⟩ kt12
        replace kt12 : -2147483648 ≤ t12 ∧ t12 ≤ 2147483647 := kt12
        replace ht12 : -7 ≤ t12 ∧ t12 ≤ -1 := ht12
        have fg13 : jfr w_X12_hands h g13 := jfr_tr f0 ft12 ws_X12_refuse__X12_hands
        replace zt12 : t12 = (-6 : Int) := zt12
        have hs14 : ∀ i k : Int, 177 ≤ i → i ≤ 177 → g13 i k = h i k := fun i k p1 p2 => (ft12 i k (by unfold w_X12_refuse; omega))
        exact st_r0 (ls := []) ⟨rfl, rfl, fg13, t12, rfl, (by omega), (by refine ⟨by unfold P_X12_hands; by_cases zz : t12 = -4 <;> first | exact Or.inl ⟨by omega, hs14⟩ | exact Or.inr (Or.inl ⟨by omega, hs14⟩) | exact Or.inr (Or.inr (Or.inl ⟨by omega, hs14⟩)), fun _ i k q9 => ?_⟩; exact (ft12 i k (jzma_w_X12_refuse q9)))⟩
    · replace c4 : a2 < 0 := by first | exact c4 | exact Int.not_le.mp c4 | exact Int.not_lt.mp c4 | exact Decidable.not_not.mp c4
      refine st_cv (na := 1) (st := [.inl (-4), .inr (.inr (.inl 176))]) jo_176 rfl rfl rfl (c_X12_refuse (-4) h (by omega)) rfl ?_
      rintro _ _ g16 ⟨rfl, ft15, t15, rfl, ht15, zt15⟩ kt15
      replace kt15 : -2147483648 ≤ t15 ∧ t15 ≤ 2147483647 := kt15
      replace ht15 : -7 ≤ t15 ∧ t15 ≤ -1 := ht15
      have fg16 : jfr w_X12_hands h g16 := jfr_tr f0 ft15 ws_X12_refuse__X12_hands
      replace zt15 : t15 = (-4 : Int) := zt15
      have hs17 : ∀ i k : Int, 177 ≤ i → i ≤ 177 → g16 i k = h i k := fun i k p1 p2 => (ft15 i k (by unfold w_X12_refuse; omega))
      exact st_r0 (ls := []) ⟨rfl, rfl, fg16, t15, rfl, (by omega), (by refine ⟨by unfold P_X12_hands; by_cases zz : t15 = -4 <;> first | exact Or.inl ⟨by omega, hs17⟩ | exact Or.inr (Or.inl ⟨by omega, hs17⟩) | exact Or.inr (Or.inr (Or.inl ⟨by omega, hs17⟩)), fun _ i k q9 => ?_⟩; exact (ft15 i k (jzma_w_X12_refuse q9)))⟩
  · replace c3 : t1 = 0 := by first | exact c3 | exact Int.not_le.mp c3 | exact Int.not_lt.mp c3 | exact Decidable.not_not.mp c3
    refine st_cv (na := 1) (st := [.inl (-1), .inr (.inr (.inl 176))]) jo_176 rfl rfl rfl (c_X12_refuse (-1) h (by omega)) rfl ?_
    rintro _ _ g19 ⟨rfl, ft18, t18, rfl, ht18, zt18⟩ kt18
    replace kt18 : -2147483648 ≤ t18 ∧ t18 ≤ 2147483647 := kt18
    replace ht18 : -7 ≤ t18 ∧ t18 ≤ -1 := ht18
    have fg19 : jfr w_X12_hands h g19 := jfr_tr f0 ft18 ws_X12_refuse__X12_hands
    replace zt18 : t18 = (-1 : Int) := zt18
    have hs20 : ∀ i k : Int, 177 ≤ i → i ≤ 177 → g19 i k = h i k := fun i k p1 p2 => (ft18 i k (by unfold w_X12_refuse; omega))
    exact st_r0 (ls := []) ⟨rfl, rfl, fg19, t18, rfl, (by omega), (by refine ⟨by unfold P_X12_hands; by_cases zz : t18 = -4 <;> first | exact Or.inl ⟨by omega, hs20⟩ | exact Or.inr (Or.inl ⟨by omega, hs20⟩) | exact Or.inr (Or.inr (Or.inl ⟨by omega, hs20⟩)), fun _ i k q9 => ?_⟩; exact (ft18 i k (jzma_w_X12_refuse q9)))⟩

def w_X11_bring (i k : Int) : Prop := (i = 1) ∨ (i = 30) ∨ (i = 111 ∧ 9 ≤ k ∧ k ≤ 11)
theorem ws_X7_forget__X11_bring (i k : Int) (q : w_X7_forget i k) : w_X11_bring i k := by
  unfold w_X7_forget at q; unfold w_X11_bring
  exact (Or.inr (Or.inr (by omega)))
theorem ws_X11_refused__X11_bring (i k : Int) (q : w_X11_refused i k) : w_X11_bring i k := by
  unfold w_X11_refused at q; unfold w_X11_bring
  exact (Or.inl (by omega))
def k_X11_bring (a1 : Int) (a2 : Int) (h : JH) (v : Option JV) (r' g : JH) : Prop := r' = jr0 ∧ jfr w_X11_bring h g ∧ ∃ x : Int, v = some (.inl x) ∧ (True) ∧ ((P_X11_bring a1 a2 x h g) ∧ jFg (x < 0) h g)
set_option maxHeartbeats 4000000 in
theorem c_X11_bring {E : JE} {l : Launch} (a1 : Int) (a2 : Int) (h : JH) : jMt E l 22 [.inr (.inr (.inl 0)), .inl a1, .inl a2] 229 jr0 h (k_X11_bring a1 a2 h) := by
  refine jMt0 (nL := 4) (ls := [.inr (.inr (.inl 0)), .inl a1, .inl a2, .inr (.inr (.inr ()))]) (by decide +kernel) (by decide +kernel) (by decide +kernel) rfl rfl ?_
  have f0 : jfr w_X11_bring h h := jfr_rf _ _
  refine jGo_blk qX11_bring_0 ?_
  refine st_cs (na := 2) (st := [.inl 6, .inl a1]) rfl rfl rfl (c_X11_within a1 6 h) rfl ?_
  rintro _ _ _ ⟨rfl, rfl, t1, rfl, ht1, zt1⟩ kt1
  replace kt1 : -2147483648 ≤ t1 ∧ t1 ≤ 2147483647 := kt1
  replace ht1 : 0 ≤ t1 ∧ t1 ≤ 1 := ht1
  replace zt1 : (t1 = 1 ∧ 0 ≤ a1 ∧ a1 < (6 : Int)) ∨ (t1 = 0 ∧ ¬ (0 ≤ a1 ∧ a1 < (6 : Int))) := zt1
  refine And.intro (fun c3 => ?_) (fun c3 => ?_)
  · replace c3 : ¬ t1 = 0 := c3
    show jGo E l 22 229 229 _ 15 [.inr (.inr (.inl 0)), .inl a1, .inl a2, .inr (.inr (.inr ()))] [] 229 jr0 h
    refine jGo_blk qX11_bring_15 ?_
    refine st_gr jo_0 jr_0_5 ?_
    refine st_gr jo_29 jr_29_0 ?_
    refine st_ai jo_30 (show 0 ≤ a1 by omega) (show a1 < ((6 : Nat) : Int) by omega) (fun v4 ev4 b5 => ?_)
    replace ev4 : v4 = h 30 a1 := ev4
    replace b5 := (jba_30 a1 _).1 b5
    refine st_cs (na := 3) (st := [.inl (jw32 (1000000 - v4)), .inl 0, .inl a2]) rfl rfl rfl (c_X11_outside a2 0 (jw32 (1000000 - v4)) h) rfl ?_
    rintro _ _ _ ⟨rfl, rfl, t6, rfl, ht6, zt6⟩ kt6
    replace kt6 : -2147483648 ≤ t6 ∧ t6 ≤ 2147483647 := kt6
    replace ht6 : -6 ≤ t6 ∧ t6 ≤ 0 := ht6
    replace zt6 : (t6 = -4 ∧ a2 < (0 : Int)) ∨ (t6 = -6 ∧ (0 : Int) ≤ a2 ∧ (jw32 (1000000 - v4)) < a2) ∨ (t6 = 0 ∧ (0 : Int) ≤ a2 ∧ a2 ≤ (jw32 (1000000 - v4))) := zt6
    refine And.intro (fun c8 => ?_) (fun c8 => ?_)
    · replace c8 : t6 = 0 := c8
      show jGo E l 22 229 229 _ 43 [.inr (.inr (.inl 0)), .inl a1, .inl a2, .inl t6] [] 229 jr0 h
      refine jGo_blk qX11_bring_43 ?_
      refine st_gr jo_0 jr_0_11 ?_
      refine st_cv (na := 0) (st := [.inr (.inr (.inl 111))]) jo_111 rfl rfl rfl (c_X7_forget h) rfl ?_
      rintro _ _ g10 ⟨rfl, ft9, rfl, zt9⟩ kt9
      have fg10 : jfr w_X11_bring h g10 := jfr_tr f0 ft9 ws_X7_forget__X11_bring
      replace zt9 : g10 111 9 = 0 ∧ g10 111 10 = 0 ∧ g10 111 11 = 0 := zt9
      refine st_gr jo_0 jr_0_5 ?_
      refine st_gr jo_29 jr_29_0 ?_
      refine st_ai jo_30 (show 0 ≤ a1 by omega) (show a1 < ((6 : Nat) : Int) by omega) (fun v11 ev11 b12 => ?_)
      replace ev11 : v11 = g10 30 a1 := ev11
      replace b12 := (jba_30 a1 _).1 b12
      refine st_si jo_30 (show 0 ≤ a1 by omega) (show a1 < ((6 : Nat) : Int) by omega) (fun hx => (jba_30 _ _).2 hx) (fun g13 eg13 => ?_)
      replace eg13 : g13 = jup g10 30 a1 (jw32 (v11 + a2)) := eg13
      have fg13 : jfr w_X11_bring h g13 := jfr_up fg10 eg13 (by unfold w_X11_bring; omega)
      have e14 : g13 30 a1 = jw32 (v11 + a2) := jup_s eg13
      refine st_gr jo_0 jr_0_5 ?_
      refine st_gr jo_29 jr_29_0 ?_
      refine st_ai jo_30 (show 0 ≤ a1 by omega) (show a1 < ((6 : Nat) : Int) by omega) (fun v15 ev15 b16 => ?_)
      replace ev15 : v15 = g13 30 a1 := ev15
      replace b16 := (jba_30 a1 _).1 b16
      have e17 : g10 30 a1 = h 30 a1 := (ft9 30 a1 (by unfold w_X7_forget; omega))
      have rv18 : v4 = h 30 a1 := by omega
      subst rv18
      have rv19 : v11 = h 30 a1 := by omega
      subst rv19
      have hq20 : ∀ i k : Int, ¬ i = 1 → ¬ i = 111 → g13 i k = (jup h 30 a1 (jw32 (h 30 a1 + a2))) i k := fun i k p1 p2 => ((congrFun (congrFun eg13 i) k).trans (jup_cc (by omega) (by omega) (by first | rfl | omega | exact congrArg jw32 (by omega)) (ft9 i k (by unfold w_X7_forget; omega))))
      exact st_r0 (ls := []) ⟨rfl, rfl, fg13, v15, rfl, trivial, (by refine ⟨by unfold P_X11_bring; exact Or.inr (Or.inr (Or.inr ⟨by omega, by first | omega | (have q9 := ev15; omega), hq20⟩)), Or.inl ?_⟩; exact ⟨((jup_o eg13 (by first | exact fun q => absurd q.1 (by decide) | exact fun q => absurd q.2 (by decide) | omega))).trans zt9.1, ((jup_o eg13 (by first | exact fun q => absurd q.1 (by decide) | exact fun q => absurd q.2 (by decide) | omega))).trans zt9.2.1, ((jup_o eg13 (by first | exact fun q => absurd q.1 (by decide) | exact fun q => absurd q.2 (by decide) | omega))).trans zt9.2.2⟩)⟩
    · replace c8 : ¬ t6 = 0 := by first | exact c8 | exact Int.not_le.mp c8 | exact Int.not_lt.mp c8 | exact Decidable.not_not.mp c8
      refine st_cv (na := 1) (st := [.inl t6, .inr (.inr (.inl 0))]) jo_0 rfl rfl rfl (c_X11_refused t6 h (by omega)) rfl ?_
      rintro _ _ g22 ⟨rfl, ft21, t21, rfl, ht21, zt21⟩ kt21
      replace kt21 : -2147483648 ≤ t21 ∧ t21 ≤ 2147483647 := kt21
      replace ht21 : -7 ≤ t21 ∧ t21 ≤ -1 := ht21
      have fg22 : jfr w_X11_bring h g22 := jfr_tr f0 ft21 ws_X11_refused__X11_bring
      replace zt21 : t21 = t6 := zt21
      have rv23 : v4 = h 30 a1 := by omega
      subst rv23
      have hs24 : ∀ i k : Int, ¬ i = 1 → ¬ i = 111 → g22 i k = h i k := fun i k p1 p2 => (ft21 i k (by unfold w_X11_refused; omega))
      exact st_r0 (ls := []) ⟨rfl, rfl, fg22, t21, rfl, trivial, (by refine ⟨by unfold P_X11_bring; by_cases zz : t21 = -4 <;> first | exact Or.inl ⟨by omega, hs24⟩ | exact Or.inr (Or.inl ⟨by omega, hs24⟩) | exact Or.inr (Or.inr (Or.inl ⟨by omega, hs24⟩)), Or.inr ⟨by omega, fun i k p1 => (ft21 i k (by first | exact p1 | (unfold w_X11_refused; omega)))⟩⟩)⟩
  · replace c3 : t1 = 0 := by first | exact c3 | exact Int.not_le.mp c3 | exact Int.not_lt.mp c3 | exact Decidable.not_not.mp c3
    refine st_cv (na := 1) (st := [.inl (-1), .inr (.inr (.inl 0))]) jo_0 rfl rfl rfl (c_X11_refused (-1) h (by omega)) rfl ?_
    rintro _ _ g26 ⟨rfl, ft25, t25, rfl, ht25, zt25⟩ kt25
    replace kt25 : -2147483648 ≤ t25 ∧ t25 ≤ 2147483647 := kt25
    replace ht25 : -7 ≤ t25 ∧ t25 ≤ -1 := ht25
    have fg26 : jfr w_X11_bring h g26 := jfr_tr f0 ft25 ws_X11_refused__X11_bring
    replace zt25 : t25 = (-1 : Int) := zt25
    have hs27 : ∀ i k : Int, ¬ i = 1 → ¬ i = 111 → g26 i k = h i k := fun i k p1 p2 => (ft25 i k (by unfold w_X11_refused; omega))
    exact st_r0 (ls := []) ⟨rfl, rfl, fg26, t25, rfl, trivial, (by refine ⟨by unfold P_X11_bring; by_cases zz : t25 = -4 <;> first | exact Or.inl ⟨by omega, hs27⟩ | exact Or.inr (Or.inl ⟨by omega, hs27⟩) | exact Or.inr (Or.inr (Or.inl ⟨by omega, hs27⟩)), Or.inr ⟨by omega, fun i k p1 => (ft25 i k (by first | exact p1 | (unfold w_X11_refused; omega)))⟩⟩)⟩

def w_X12_bring (i k : Int) : Prop := (i = 181) ∨ (i = 219)
theorem ws_X12_refuse__X12_bring (i k : Int) (q : w_X12_refuse i k) : w_X12_bring i k := by
  unfold w_X12_refuse at q; unfold w_X12_bring
  exact (Or.inr (by omega))
def k_X12_bring (a1 : Int) (a2 : Int) (h : JH) (v : Option JV) (r' g : JH) : Prop := r' = jr0 ∧ jfr w_X12_bring h g ∧ ∃ x : Int, v = some (.inl x) ∧ (True) ∧ (P_X12_bring a1 a2 x h g)
set_option maxHeartbeats 4000000 in
theorem c_X12_bring {E : JE} {l : Launch} (a1 : Int) (a2 : Int) (h : JH) : jMt E l 23 [.inr (.inr (.inl 176)), .inl a1, .inl a2] 229 jr0 h (k_X12_bring a1 a2 h) := by
  refine jMt0 (nL := 3) (ls := [.inr (.inr (.inl 176)), .inl a1, .inl a2]) (by decide +kernel) (by decide +kernel) (by decide +kernel) rfl rfl ?_
  have f0 : jfr w_X12_bring h h := jfr_rf _ _
  refine jGo_blk qX12_bring_0 ?_
  refine st_cs (na := 3) (st := [.inl 5, .inl 0, .inl a1]) rfl rfl rfl (c_X12_in a1 0 5 h) rfl ?_
  rintro _ _ _ ⟨rfl, rfl, t1, rfl, ht1, zt1⟩ kt1
  replace kt1 : -2147483648 ≤ t1 ∧ t1 ≤ 2147483647 := kt1
  replace ht1 : 0 ≤ t1 ∧ t1 ≤ 1 := ht1
  replace zt1 : (t1 = 1 ∧ (0 : Int) ≤ a1 ∧ a1 ≤ (5 : Int)) ∨ (t1 = 0 ∧ ¬ ((0 : Int) ≤ a1 ∧ a1 ≤ (5 : Int))) := zt1
  refine And.intro (fun c3 => ?_) (fun c3 => ?_)
  · replace c3 : ¬ t1 = 0 := c3
    show jGo E l 23 229 229 _ 15 [.inr (.inr (.inl 176)), .inl a1, .inl a2] [] 229 jr0 h
    refine jGo_blk qX12_bring_15 ?_
    refine And.intro (fun c4 => ?_) (fun c4 => ?_)
    · replace c4 : 0 ≤ a2 := c4
      show jGo E l 23 229 229 _ 26 [.inr (.inr (.inl 176)), .inl a1, .inl a2] [] 229 jr0 h
      refine jGo_blk qX12_bring_26 ?_
      refine st_gr jo_176 jr_176_5 ?_
      refine st_ai jo_181 (show 0 ≤ a1 by omega) (show a1 < ((6 : Nat) : Int) by omega) (fun v5 ev5 b6 => ?_)
      replace ev5 : v5 = h 181 a1 := ev5
      replace b6 := (jba_181 a1 _).1 b6
      refine And.intro (fun c7 => ?_) (fun c7 => ?_)
      · replace c7 : a2 ≤ jw32 (1000000 - v5) := c7
        show jGo E l 23 229 229 _ 46 [.inr (.inr (.inl 176)), .inl a1, .inl a2] [] 229 jr0 h
        refine jGo_blk qX12_bring_46 ?_
        refine st_gr jo_176 jr_176_5 ?_
        refine st_ai jo_181 (show 0 ≤ a1 by omega) (show a1 < ((6 : Nat) : Int) by omega) (fun v8 ev8 b9 => ?_)
        replace ev8 : v8 = h 181 a1 := ev8
        replace b9 := (jba_181 a1 _).1 b9
        refine st_si jo_181 (show 0 ≤ a1 by omega) (show a1 < ((6 : Nat) : Int) by omega) (fun hx => (jba_181 _ _).2 hx) (fun g10 eg10 => ?_)
        replace eg10 : g10 = jup h 181 a1 (jw32 (v8 + a2)) := eg10
        have fg10 : jfr w_X12_bring h g10 := jfr_up f0 eg10 (by unfold w_X12_bring; omega)
        have e11 : g10 181 a1 = jw32 (v8 + a2) := jup_s eg10
        refine st_gr jo_176 jr_176_5 ?_
        refine st_ai jo_181 (show 0 ≤ a1 by omega) (show a1 < ((6 : Nat) : Int) by omega) (fun v12 ev12 b13 => ?_)
        replace ev12 : v12 = g10 181 a1 := ev12
        replace b13 := (jba_181 a1 _).1 b13
        have rv14 : v5 = h 181 a1 := by omega
        subst rv14
        have rv15 : v8 = h 181 a1 := by omega
        subst rv15
        have hq16 : ∀ i k : Int, ¬ i = 219 → g10 i k = (jup h 181 a1 (jw32 (h 181 a1 + a2))) i k := fun i k p1 => ((congrFun (congrFun eg10 i) k).trans (jup_cc (by omega) (by omega) (by first | rfl | omega | exact congrArg jw32 (by omega)) rfl))
        exact st_r0 (ls := []) ⟨rfl, rfl, fg10, v12, rfl, trivial, (by unfold P_X12_bring; exact Or.inr (Or.inr (Or.inr ⟨by omega, by first | omega | (have q9 := ev12; omega), hq16⟩)))⟩
      · replace c7 : jw32 (1000000 - v5) < a2 := by first | exact c7 | exact Int.not_le.mp c7 | exact Int.not_lt.mp c7 | exact Decidable.not_not.mp c7
        refine st_cv (na := 1) (st := [.inl (-6), .inr (.inr (.inl 176))]) jo_176 rfl rfl rfl (c_X12_refuse (-6) h (by omega)) rfl ?_
        rintro _ _ g18 ⟨rfl, ft17, t17, rfl, ht17, zt17⟩ kt17
        replace kt17 : -2147483648 ≤ t17 ∧ t17 ≤ 2147483647 := kt17
        replace ht17 : -7 ≤ t17 ∧ t17 ≤ -1 := ht17
        have fg18 : jfr w_X12_bring h g18 := jfr_tr f0 ft17 ws_X12_refuse__X12_bring
        replace zt17 : t17 = (-6 : Int) := zt17
        have rv19 : v5 = h 181 a1 := by omega
        subst rv19
        have hs20 : ∀ i k : Int, ¬ i = 219 → g18 i k = h i k := fun i k p1 => (ft17 i k (by first | exact p1 | (unfold w_X12_refuse; omega)))
        exact st_r0 (ls := []) ⟨rfl, rfl, fg18, t17, rfl, trivial, (by unfold P_X12_bring; by_cases zz : t17 = -4 <;> first | exact Or.inl ⟨by omega, hs20⟩ | exact Or.inr (Or.inl ⟨by omega, hs20⟩) | exact Or.inr (Or.inr (Or.inl ⟨by omega, hs20⟩)))⟩
    · replace c4 : a2 < 0 := by first | exact c4 | exact Int.not_le.mp c4 | exact Int.not_lt.mp c4 | exact Decidable.not_not.mp c4
      refine st_cv (na := 1) (st := [.inl (-4), .inr (.inr (.inl 176))]) jo_176 rfl rfl rfl (c_X12_refuse (-4) h (by omega)) rfl ?_
      rintro _ _ g22 ⟨rfl, ft21, t21, rfl, ht21, zt21⟩ kt21
      replace kt21 : -2147483648 ≤ t21 ∧ t21 ≤ 2147483647 := kt21
      replace ht21 : -7 ≤ t21 ∧ t21 ≤ -1 := ht21
      have fg22 : jfr w_X12_bring h g22 := jfr_tr f0 ft21 ws_X12_refuse__X12_bring
      replace zt21 : t21 = (-4 : Int) := zt21
      have hs23 : ∀ i k : Int, ¬ i = 219 → g22 i k = h i k := fun i k p1 => (ft21 i k (by first | exact p1 | (unfold w_X12_refuse; omega)))
      exact st_r0 (ls := []) ⟨rfl, rfl, fg22, t21, rfl, trivial, (by unfold P_X12_bring; by_cases zz : t21 = -4 <;> first | exact Or.inl ⟨by omega, hs23⟩ | exact Or.inr (Or.inl ⟨by omega, hs23⟩) | exact Or.inr (Or.inr (Or.inl ⟨by omega, hs23⟩)))⟩
  · replace c3 : t1 = 0 := by first | exact c3 | exact Int.not_le.mp c3 | exact Int.not_lt.mp c3 | exact Decidable.not_not.mp c3
    refine st_cv (na := 1) (st := [.inl (-1), .inr (.inr (.inl 176))]) jo_176 rfl rfl rfl (c_X12_refuse (-1) h (by omega)) rfl ?_
    rintro _ _ g25 ⟨rfl, ft24, t24, rfl, ht24, zt24⟩ kt24
    replace kt24 : -2147483648 ≤ t24 ∧ t24 ≤ 2147483647 := kt24
    replace ht24 : -7 ≤ t24 ∧ t24 ≤ -1 := ht24
    have fg25 : jfr w_X12_bring h g25 := jfr_tr f0 ft24 ws_X12_refuse__X12_bring
    replace zt24 : t24 = (-1 : Int) := zt24
    have hs26 : ∀ i k : Int, ¬ i = 219 → g25 i k = h i k := fun i k p1 => (ft24 i k (by first | exact p1 | (unfold w_X12_refuse; omega)))
    exact st_r0 (ls := []) ⟨rfl, rfl, fg25, t24, rfl, trivial, (by unfold P_X12_bring; by_cases zz : t24 = -4 <;> first | exact Or.inl ⟨by omega, hs26⟩ | exact Or.inr (Or.inl ⟨by omega, hs26⟩) | exact Or.inr (Or.inr (Or.inl ⟨by omega, hs26⟩)))⟩

def w_X11_row (i k : Int) : Prop := (i = 1) ∨ (6 ≤ i ∧ i ≤ 10) ∨ (i = 111 ∧ 9 ≤ k ∧ k ≤ 11)
theorem ws_X7_forget__X11_row (i k : Int) (q : w_X7_forget i k) : w_X11_row i k := by
  unfold w_X7_forget at q; unfold w_X11_row
  exact (Or.inr (Or.inr (by omega)))
theorem ws_X11_refused__X11_row (i k : Int) (q : w_X11_refused i k) : w_X11_row i k := by
  unfold w_X11_refused at q; unfold w_X11_row
  exact (Or.inl (by omega))
def k_X11_row (a1 : Int) (a2 : Int) (h : JH) (v : Option JV) (r' g : JH) : Prop := r' = jr0 ∧ jfr w_X11_row h g ∧ ∃ x : Int, v = some (.inl x) ∧ (-7 ≤ x ∧ x ≤ 30) ∧ ((P_X11_row a1 a2 x h g) ∧ jFg (x < 0) h g)
set_option maxHeartbeats 4000000 in
theorem c_X11_row {E : JE} {l : Launch} (a1 : Int) (a2 : Int) (h : JH) : jMt E l 24 [.inr (.inr (.inl 0)), .inl a1, .inl a2] 229 jr0 h (k_X11_row a1 a2 h) := by
  refine jMt0 (nL := 4) (ls := [.inr (.inr (.inl 0)), .inl a1, .inl a2, .inr (.inr (.inr ()))]) (by decide +kernel) (by decide +kernel) (by decide +kernel) rfl rfl ?_
  have f0 : jfr w_X11_row h h := jfr_rf _ _
  refine jGo_blk qX11_row_0 ?_
  refine st_cs (na := 2) (st := [.inl 4, .inl a1]) rfl rfl rfl (c_X11_within a1 4 h) rfl ?_
  rintro _ _ _ ⟨rfl, rfl, t1, rfl, ht1, zt1⟩ kt1
  replace kt1 : -2147483648 ≤ t1 ∧ t1 ≤ 2147483647 := kt1
  replace ht1 : 0 ≤ t1 ∧ t1 ≤ 1 := ht1
  replace zt1 : (t1 = 1 ∧ 0 ≤ a1 ∧ a1 < (4 : Int)) ∨ (t1 = 0 ∧ ¬ (0 ≤ a1 ∧ a1 < (4 : Int))) := zt1
  refine And.intro (fun c3 => ?_) (fun c3 => ?_)
  · replace c3 : ¬ t1 = 0 := c3
    show jGo E l 24 229 229 _ 12 [.inr (.inr (.inl 0)), .inl a1, .inl a2, .inr (.inr (.inr ()))] [] 229 jr0 h
    refine jGo_blk qX11_row_12 ?_
    refine st_cs (na := 3) (st := [.inl 30, .inl 0, .inl a2]) rfl rfl rfl (c_X11_outside a2 0 30 h) rfl ?_
    rintro _ _ _ ⟨rfl, rfl, t4, rfl, ht4, zt4⟩ kt4
    replace kt4 : -2147483648 ≤ t4 ∧ t4 ≤ 2147483647 := kt4
    replace ht4 : -6 ≤ t4 ∧ t4 ≤ 0 := ht4
    replace zt4 : (t4 = -4 ∧ a2 < (0 : Int)) ∨ (t4 = -6 ∧ (0 : Int) ≤ a2 ∧ (30 : Int) < a2) ∨ (t4 = 0 ∧ (0 : Int) ≤ a2 ∧ a2 ≤ (30 : Int)) := zt4
    show jGo E l 24 229 229 _ 19 [.inr (.inr (.inl 0)), .inl a1, .inl a2, .inr (.inr (.inr ()))] [.inl t4] 229 jr0 h
    refine jGo_blk qX11_row_19 ?_
    refine And.intro (fun c6 => ?_) (fun c6 => ?_)
    · replace c6 : t4 = 0 := c6
      show jGo E l 24 229 229 _ 30 [.inr (.inr (.inl 0)), .inl a1, .inl a2, .inl t4] [] 229 jr0 h
      refine jGo_blk qX11_row_30 ?_
      refine st_gr jo_0 jr_0_11 ?_
      refine st_cv (na := 0) (st := [.inr (.inr (.inl 111))]) jo_111 rfl rfl rfl (c_X7_forget h) rfl ?_
      rintro _ _ g8 ⟨rfl, ft7, rfl, zt7⟩ kt7
      have fg8 : jfr w_X11_row h g8 := jfr_tr f0 ft7 ws_X7_forget__X11_row
      replace zt7 : g8 111 9 = 0 ∧ g8 111 10 = 0 ∧ g8 111 11 = 0 := zt7
      refine st_gr jo_0 jr_0_2 ?_
      refine st_gr jo_2 jr_2_2 ?_
      refine st_ar jo_5 (by decide) (show 0 ≤ a1 by omega) (show a1 < ((4 : Nat) : Int) by omega) (fun u9 eu9 => ?_)
      replace eu9 : u9 = jr0 5 a1 := eu9
      have qu9 : u9 = 6 + a1 := eu9.trans (jrow_5 a1 (by omega) (by omega)).1
      have ou9 : jF 229 u9 1 30 := by rw [eu9]; exact (jrow_5 a1 (by omega) (by omega)).2.1
      have wu9 : ∀ j v : Int, jbd u9 j v ↔ (0 ≤ v ∧ v ≤ 400) := by rw [eu9]; exact (jrow_5 a1 (by omega) (by omega)).2.2
      refine st_cs (na := 2) (st := [.inl 0, .inr (.inr (.inl u9))]) rfl rfl rfl (c_fill u9 0 g8 ou9 (by decide) (fun k hx => (wu9 _ _).2 (by omega))) rfl ?_
      rintro _ _ g11 ⟨rfl, ft10, rfl, zt10⟩ kt10
      have fg11 : jfr w_X11_row h g11 := jfr_tr fg8 ft10 (fun i k q => by unfold w_fill at q; unfold w_X11_row; omega)
      refine st_gr jo_0 jr_0_2 ?_
      refine st_gr jo_2 jr_2_3 ?_
      refine st_si jo_10 (show 0 ≤ a1 by omega) (show a1 < ((4 : Nat) : Int) by omega) (fun hx => (jba_10 _ _).2 (show -1 ≤ a2 ∧ a2 ≤ 30 by omega)) (fun g12 eg12 => ?_)
      replace eg12 : g12 = jup g11 10 a1 a2 := eg12
      have fg12 : jfr w_X11_row h g12 := jfr_up fg11 eg12 (by unfold w_X11_row; omega)
      have e13 : g12 10 a1 = a2 := jup_s eg12
      have hs14 : g12 10 a1 = a2 := by
        exact jup_s eg12
      have hs15 : ∀ i k : Int, 10 ≤ i → i ≤ 10 → ¬ (i = 10 ∧ k = a1) → g12 i k = h i k := fun i k p1 p2 p3 => ((jup_o eg12 (by first | exact fun q => absurd q.1 (by decide) | exact fun q => absurd q.2 (by decide) | omega)).trans ((ft10 i k (by unfold w_fill; omega)).trans (ft7 i k (by unfold w_X7_forget; omega))))
      have hs16 : ∀ k : Int, 0 ≤ k → k < 30 → g12 (6 + a1) k = 0 := fun k p1 p2 => by
        rw [show 6 + a1 = u9 by omega]
        exact (jup_o eg12 (by first | exact fun q => absurd q.1 (by decide) | exact fun q => absurd q.2 (by decide) | omega)).trans (zt10 k p1 (by omega))
      have hs17 : ∀ i k : Int, 6 ≤ i → i ≤ 9 → ¬ i = 6 + a1 → g12 i k = h i k := fun i k p1 p2 p3 => ((jup_o eg12 (by first | exact fun q => absurd q.1 (by decide) | exact fun q => absurd q.2 (by decide) | omega)).trans ((ft10 i k (by unfold w_fill; omega)).trans (ft7 i k (by unfold w_X7_forget; omega))))
      exact st_r0 (ls := []) ⟨rfl, rfl, fg12, a2, rfl, (by omega), (by refine ⟨by unfold P_X11_row; first | exact Or.inr (Or.inr (Or.inr ⟨by omega, ⟨hs14, hs15⟩, ⟨hs16, hs17⟩⟩)), Or.inl ?_⟩; exact ⟨(((jup_o eg12 (by first | exact fun q => absurd q.1 (by decide) | exact fun q => absurd q.2 (by decide) | omega)).trans (ft10 111 9 (by unfold w_fill; omega)))).trans zt7.1, (((jup_o eg12 (by first | exact fun q => absurd q.1 (by decide) | exact fun q => absurd q.2 (by decide) | omega)).trans (ft10 111 10 (by unfold w_fill; omega)))).trans zt7.2.1, (((jup_o eg12 (by first | exact fun q => absurd q.1 (by decide) | exact fun q => absurd q.2 (by decide) | omega)).trans (ft10 111 11 (by unfold w_fill; omega)))).trans zt7.2.2⟩)⟩
    · replace c6 : ¬ t4 = 0 := by first | exact c6 | exact Int.not_le.mp c6 | exact Int.not_lt.mp c6 | exact Decidable.not_not.mp c6
      refine st_cv (na := 1) (st := [.inl t4, .inr (.inr (.inl 0))]) jo_0 rfl rfl rfl (c_X11_refused t4 h (by omega)) rfl ?_
      rintro _ _ g19 ⟨rfl, ft18, t18, rfl, ht18, zt18⟩ kt18
      replace kt18 : -2147483648 ≤ t18 ∧ t18 ≤ 2147483647 := kt18
      replace ht18 : -7 ≤ t18 ∧ t18 ≤ -1 := ht18
      have fg19 : jfr w_X11_row h g19 := jfr_tr f0 ft18 ws_X11_refused__X11_row
      replace zt18 : t18 = t4 := zt18
      have hs20 : ∀ i k : Int, 10 ≤ i → i ≤ 10 → g19 i k = h i k := fun i k p1 p2 => (ft18 i k (by unfold w_X11_refused; omega))
      have hs21 : ∀ i k : Int, 6 ≤ i → i ≤ 9 → g19 i k = h i k := fun i k p1 p2 => (ft18 i k (by unfold w_X11_refused; omega))
      exact st_r0 (ls := []) ⟨rfl, rfl, fg19, t18, rfl, (by omega), (by refine ⟨by unfold P_X11_row; by_cases zz : t18 = -4 <;> first | exact Or.inl ⟨by omega, hs20, hs21⟩ | exact Or.inr (Or.inl ⟨by omega, hs20, hs21⟩) | exact Or.inr (Or.inr (Or.inl ⟨by omega, hs20, hs21⟩)), Or.inr ⟨by omega, fun i k p1 => (ft18 i k (by first | exact p1 | (unfold w_X11_refused; omega)))⟩⟩)⟩
  · replace c3 : t1 = 0 := by first | exact c3 | exact Int.not_le.mp c3 | exact Int.not_lt.mp c3 | exact Decidable.not_not.mp c3
    show jGo E l 24 229 229 _ 19 [.inr (.inr (.inl 0)), .inl a1, .inl a2, .inr (.inr (.inr ()))] [.inl (-1)] 229 jr0 h
    refine jGo_blk qX11_row_19 ?_
    refine And.intro (fun c22 => ?_) (fun c22 => ?_)
    · replace c22 : (-1 : Int) = 0 := c22
      exfalso; omega
    · replace c22 : ¬ (-1 : Int) = 0 := by first | exact c22 | exact Int.not_le.mp c22 | exact Int.not_lt.mp c22 | exact Decidable.not_not.mp c22
      refine st_cv (na := 1) (st := [.inl (-1), .inr (.inr (.inl 0))]) jo_0 rfl rfl rfl (c_X11_refused (-1) h (by omega)) rfl ?_
      rintro _ _ g24 ⟨rfl, ft23, t23, rfl, ht23, zt23⟩ kt23
      replace kt23 : -2147483648 ≤ t23 ∧ t23 ≤ 2147483647 := kt23
      replace ht23 : -7 ≤ t23 ∧ t23 ≤ -1 := ht23
      have fg24 : jfr w_X11_row h g24 := jfr_tr f0 ft23 ws_X11_refused__X11_row
      replace zt23 : t23 = (-1 : Int) := zt23
      have hs25 : ∀ i k : Int, 10 ≤ i → i ≤ 10 → g24 i k = h i k := fun i k p1 p2 => (ft23 i k (by unfold w_X11_refused; omega))
      have hs26 : ∀ i k : Int, 6 ≤ i → i ≤ 9 → g24 i k = h i k := fun i k p1 p2 => (ft23 i k (by unfold w_X11_refused; omega))
      exact st_r0 (ls := []) ⟨rfl, rfl, fg24, t23, rfl, (by omega), (by refine ⟨by unfold P_X11_row; by_cases zz : t23 = -4 <;> first | exact Or.inl ⟨by omega, hs25, hs26⟩ | exact Or.inr (Or.inl ⟨by omega, hs25, hs26⟩) | exact Or.inr (Or.inr (Or.inl ⟨by omega, hs25, hs26⟩)), Or.inr ⟨by omega, fun i k p1 => (ft23 i k (by first | exact p1 | (unfold w_X11_refused; omega)))⟩⟩)⟩

def w_X12_row (i k : Int) : Prop := (179 ≤ i ∧ i ≤ 180) ∨ (i = 219)
theorem ws_X12_refuse__X12_row (i k : Int) (q : w_X12_refuse i k) : w_X12_row i k := by
  unfold w_X12_refuse at q; unfold w_X12_row
  exact (Or.inr (by omega))
def k_X12_row (a1 : Int) (a2 : Int) (h : JH) (v : Option JV) (r' g : JH) : Prop := r' = jr0 ∧ jfr w_X12_row h g ∧ ∃ x : Int, v = some (.inl x) ∧ (-7 ≤ x ∧ x ≤ 30) ∧ ((P_X12_row a1 a2 x h g) ∧ jRx (x < 0) h g)
set_option maxHeartbeats 4000000 in
theorem c_X12_row {E : JE} {l : Launch} (a1 : Int) (a2 : Int) (h : JH) : jMt E l 25 [.inr (.inr (.inl 176)), .inl a1, .inl a2] 229 jr0 h (k_X12_row a1 a2 h) := by
  refine jMt0 (nL := 4) (ls := [.inr (.inr (.inl 176)), .inl a1, .inl a2, .inr (.inr (.inr ()))]) (by decide +kernel) (by decide +kernel) (by decide +kernel) rfl rfl ?_
  have f0 : jfr w_X12_row h h := jfr_rf _ _
  have key : ∀ N : Nat, (∀ (x3 : Int) (g : JH), (0 ≤ a1 ∧ a1 ≤ 3 ∧ 0 ≤ a2 ∧ a2 ≤ 30 ∧ 0 ≤ x3 ∧ x3 ≤ 30) → (g 179 a1 = a2 ∧ ∀ i k : Int, 179 ≤ i → i ≤ 179 → ¬ (i = 179 ∧ k = a1) → g i k = h i k) → ((∀ k : Int, 30 * a1 ≤ k → k < 30 * a1 + x3 → g 180 k = 0) ∧ ∀ i k : Int, 180 ≤ i → i ≤ 180 → ¬ (30 * a1 ≤ k ∧ k < 30 * a1 + x3) → g i k = h i k) → (x3 ≤ a2) → jfr w_X12_row h g → (30 - x3) < (N : Int) → jGo E l 25 229 229 (jRK (k_X12_row a1 a2 h)) 48 [.inr (.inr (.inl 176)), .inl a1, .inl a2, .inl x3] [] 229 jr0 g) := by
    intro N
    induction N with
    | zero => exact fun _ _ hi hx0 hx1 hx2 _ hN => absurd hN (by omega)
    | succ N ih =>
      intro x3 g hi hx0 hx1 hx2 hf hN
      refine jGo_blk qX12_row_48 ?_
      refine And.intro (fun c1 => ?_) (fun c1 => ?_)
      · replace c1 : a2 ≤ x3 := c1
        show jGo E l 25 229 229 _ 71 [.inr (.inr (.inl 176)), .inl a1, .inl a2, .inl x3] [] 229 jr0 g
        refine jGo_blk qX12_row_71 ?_
        exact st_r0 (ls := []) ⟨rfl, rfl, hf, a2, rfl, (by omega), (by refine ⟨by unfold P_X12_row; exact Or.inr (Or.inr (Or.inr ⟨by omega, hx0, ⟨fun k p1 p2 => hx1.1 k p1 (by omega), fun i k p1 p2 p3 => hx1.2 i k p1 p2 (by omega)⟩⟩)), fun b9 => absurd b9 (by omega)⟩)⟩
      · replace c1 : x3 < a2 := by first | exact c1 | exact Int.not_le.mp c1 | exact Int.not_lt.mp c1 | exact Decidable.not_not.mp c1
        refine st_gr jo_176 jr_176_4 ?_
        have e2 : jw32 (30 * a1) = 30 * a1 := jzj32 (by omega)
        have e3 : jw32 ((jw32 (30 * a1)) + x3) = (jw32 (30 * a1)) + x3 := jzj32 (by omega)
        refine st_si jo_180 (show 0 ≤ jw32 ((jw32 (30 * a1)) + x3) by omega) (show jw32 ((jw32 (30 * a1)) + x3) < ((120 : Nat) : Int) by omega) (fun hx => (jba_180 _ _).2 (show 0 ≤ 0 ∧ 0 ≤ 400 by omega)) (fun g4 eg4 => ?_)
        replace eg4 : g4 = jup g 180 (jw32 ((jw32 (30 * a1)) + x3)) 0 := eg4
        have fg4 : jfr w_X12_row h g4 := jfr_up hf eg4 (by unfold w_X12_row; omega)
        have e5 : g4 180 (jw32 ((jw32 (30 * a1)) + x3)) = 0 := jup_s eg4
        have e6 : jw32 (x3 + 1) = x3 + 1 := jzj32 (by omega)
        show jGo E l 25 229 229 _ 48 [.inr (.inr (.inl 176)), .inl a1, .inl a2, .inl (jw32 (x3 + 1))] [] 229 jr0 g4
        have hc7 : (∀ k : Int, 30 * a1 ≤ k → k < 30 * a1 + jw32 (x3 + 1) → g4 180 k = 0) ∧ ∀ i k : Int, 180 ≤ i → i ≤ 180 → ¬ (30 * a1 ≤ k ∧ k < 30 * a1 + jw32 (x3 + 1)) → g4 i k = h i k := by
          refine ⟨fun k p1 p2 => ?_, fun i k p1 p2 p3 => (jup_o eg4 (by first | exact fun q => absurd q.1 (by decide) | exact fun q => absurd q.2 (by decide) | omega)).trans (hx1.2 i k p1 p2 (by omega))⟩
          by_cases z : k = jw32 ((jw32 (30 * a1)) + x3)
          · rw [z]; exact jup_s eg4
          · exact (jup_o eg4 (by first | exact fun q => absurd q.1 (by decide) | exact fun q => absurd q.2 (by decide) | omega)).trans (hx1.1 k p1 (by omega))
        exact ih (jw32 (x3 + 1)) g4 (by omega) (by exact ⟨(jup_o eg4 (by first | exact fun q => absurd q.1 (by decide) | exact fun q => absurd q.2 (by decide) | omega)).trans hx0.1, fun i k p1 p2 p3 => (jup_o eg4 (by first | exact fun q => absurd q.1 (by decide) | exact fun q => absurd q.2 (by decide) | omega)).trans (hx0.2 i k p1 p2 p3)⟩) (by exact hc7) (by omega) fg4 (by omega)
  refine jGo_blk qX12_row_0 ?_
  refine st_cs (na := 3) (st := [.inl 3, .inl 0, .inl a1]) rfl rfl rfl (c_X12_in a1 0 3 h) rfl ?_
  rintro _ _ _ ⟨rfl, rfl, t8, rfl, ht8, zt8⟩ kt8
  replace kt8 : -2147483648 ≤ t8 ∧ t8 ≤ 2147483647 := kt8
  replace ht8 : 0 ≤ t8 ∧ t8 ≤ 1 := ht8
  replace zt8 : (t8 = 1 ∧ (0 : Int) ≤ a1 ∧ a1 ≤ (3 : Int)) ∨ (t8 = 0 ∧ ¬ ((0 : Int) ≤ a1 ∧ a1 ≤ (3 : Int))) := zt8
  refine And.intro (fun c10 => ?_) (fun c10 => ?_)
  · replace c10 : ¬ t8 = 0 := c10
    show jGo E l 25 229 229 _ 15 [.inr (.inr (.inl 176)), .inl a1, .inl a2, .inr (.inr (.inr ()))] [] 229 jr0 h
    refine jGo_blk qX12_row_15 ?_
    refine And.intro (fun c11 => ?_) (fun c11 => ?_)
    · replace c11 : 0 ≤ a2 := c11
      show jGo E l 25 229 229 _ 26 [.inr (.inr (.inl 176)), .inl a1, .inl a2, .inr (.inr (.inr ()))] [] 229 jr0 h
      refine jGo_blk qX12_row_26 ?_
      refine And.intro (fun c12 => ?_) (fun c12 => ?_)
      · replace c12 : a2 ≤ 30 := c12
        show jGo E l 25 229 229 _ 39 [.inr (.inr (.inl 176)), .inl a1, .inl a2, .inr (.inr (.inr ()))] [] 229 jr0 h
        refine jGo_blk qX12_row_39 ?_
        refine st_gr jo_176 jr_176_3 ?_
        refine st_si jo_179 (show 0 ≤ a1 by omega) (show a1 < ((4 : Nat) : Int) by omega) (fun hx => (jba_179 _ _).2 (show -1 ≤ a2 ∧ a2 ≤ 30 by omega)) (fun g13 eg13 => ?_)
        replace eg13 : g13 = jup h 179 a1 a2 := eg13
        have fg13 : jfr w_X12_row h g13 := jfr_up f0 eg13 (by unfold w_X12_row; omega)
        have e14 : g13 179 a1 = a2 := jup_s eg13
        show jGo E l 25 229 229 _ 48 [.inr (.inr (.inl 176)), .inl a1, .inl a2, .inl 0] [] 229 jr0 g13
        exact (key 1000000000000) 0 g13 (by omega) (by exact ⟨jup_s eg13, fun i k p1 p2 p3 => jup_o eg13 (by first | exact fun q => absurd q.1 (by decide) | exact fun q => absurd q.2 (by decide) | omega)⟩) (by exact ⟨fun k p1 p2 => absurd p2 (by omega), fun i k p1 p2 p3 => jup_o eg13 (by first | exact fun q => absurd q.1 (by decide) | exact fun q => absurd q.2 (by decide) | omega)⟩) (by omega) fg13 (by omega)
      · replace c12 : 30 < a2 := by first | exact c12 | exact Int.not_le.mp c12 | exact Int.not_lt.mp c12 | exact Decidable.not_not.mp c12
        refine st_cv (na := 1) (st := [.inl (-6), .inr (.inr (.inl 176))]) jo_176 rfl rfl rfl (c_X12_refuse (-6) h (by omega)) rfl ?_
        rintro _ _ g16 ⟨rfl, ft15, t15, rfl, ht15, zt15⟩ kt15
        replace kt15 : -2147483648 ≤ t15 ∧ t15 ≤ 2147483647 := kt15
        replace ht15 : -7 ≤ t15 ∧ t15 ≤ -1 := ht15
        have fg16 : jfr w_X12_row h g16 := jfr_tr f0 ft15 ws_X12_refuse__X12_row
        replace zt15 : t15 = (-6 : Int) := zt15
        have hs17 : ∀ i k : Int, 179 ≤ i → i ≤ 179 → g16 i k = h i k := fun i k p1 p2 => (ft15 i k (by unfold w_X12_refuse; omega))
        have hs18 : ∀ i k : Int, 180 ≤ i → i ≤ 180 → g16 i k = h i k := fun i k p1 p2 => (ft15 i k (by unfold w_X12_refuse; omega))
        exact st_r0 (ls := []) ⟨rfl, rfl, fg16, t15, rfl, (by omega), (by refine ⟨by unfold P_X12_row; by_cases zz : t15 = -4 <;> first | exact Or.inl ⟨by omega, hs17, hs18⟩ | exact Or.inr (Or.inl ⟨by omega, hs17, hs18⟩) | exact Or.inr (Or.inr (Or.inl ⟨by omega, hs17, hs18⟩)), fun _ i k q9 => ?_⟩; exact (ft15 i k (jzma_w_X12_refuse q9)))⟩
    · replace c11 : a2 < 0 := by first | exact c11 | exact Int.not_le.mp c11 | exact Int.not_lt.mp c11 | exact Decidable.not_not.mp c11
      refine st_cv (na := 1) (st := [.inl (-4), .inr (.inr (.inl 176))]) jo_176 rfl rfl rfl (c_X12_refuse (-4) h (by omega)) rfl ?_
      rintro _ _ g20 ⟨rfl, ft19, t19, rfl, ht19, zt19⟩ kt19
      replace kt19 : -2147483648 ≤ t19 ∧ t19 ≤ 2147483647 := kt19
      replace ht19 : -7 ≤ t19 ∧ t19 ≤ -1 := ht19
      have fg20 : jfr w_X12_row h g20 := jfr_tr f0 ft19 ws_X12_refuse__X12_row
      replace zt19 : t19 = (-4 : Int) := zt19
      have hs21 : ∀ i k : Int, 179 ≤ i → i ≤ 179 → g20 i k = h i k := fun i k p1 p2 => (ft19 i k (by unfold w_X12_refuse; omega))
      have hs22 : ∀ i k : Int, 180 ≤ i → i ≤ 180 → g20 i k = h i k := fun i k p1 p2 => (ft19 i k (by unfold w_X12_refuse; omega))
      exact st_r0 (ls := []) ⟨rfl, rfl, fg20, t19, rfl, (by omega), (by refine ⟨by unfold P_X12_row; by_cases zz : t19 = -4 <;> first | exact Or.inl ⟨by omega, hs21, hs22⟩ | exact Or.inr (Or.inl ⟨by omega, hs21, hs22⟩) | exact Or.inr (Or.inr (Or.inl ⟨by omega, hs21, hs22⟩)), fun _ i k q9 => ?_⟩; exact (ft19 i k (jzma_w_X12_refuse q9)))⟩
  · replace c10 : t8 = 0 := by first | exact c10 | exact Int.not_le.mp c10 | exact Int.not_lt.mp c10 | exact Decidable.not_not.mp c10
    refine st_cv (na := 1) (st := [.inl (-1), .inr (.inr (.inl 176))]) jo_176 rfl rfl rfl (c_X12_refuse (-1) h (by omega)) rfl ?_
    rintro _ _ g24 ⟨rfl, ft23, t23, rfl, ht23, zt23⟩ kt23
    replace kt23 : -2147483648 ≤ t23 ∧ t23 ≤ 2147483647 := kt23
    replace ht23 : -7 ≤ t23 ∧ t23 ≤ -1 := ht23
    have fg24 : jfr w_X12_row h g24 := jfr_tr f0 ft23 ws_X12_refuse__X12_row
    replace zt23 : t23 = (-1 : Int) := zt23
    have hs25 : ∀ i k : Int, 179 ≤ i → i ≤ 179 → g24 i k = h i k := fun i k p1 p2 => (ft23 i k (by unfold w_X12_refuse; omega))
    have hs26 : ∀ i k : Int, 180 ≤ i → i ≤ 180 → g24 i k = h i k := fun i k p1 p2 => (ft23 i k (by unfold w_X12_refuse; omega))
    exact st_r0 (ls := []) ⟨rfl, rfl, fg24, t23, rfl, (by omega), (by refine ⟨by unfold P_X12_row; by_cases zz : t23 = -4 <;> first | exact Or.inl ⟨by omega, hs25, hs26⟩ | exact Or.inr (Or.inl ⟨by omega, hs25, hs26⟩) | exact Or.inr (Or.inr (Or.inl ⟨by omega, hs25, hs26⟩)), fun _ i k q9 => ?_⟩; exact (ft23 i k (jzma_w_X12_refuse q9)))⟩
