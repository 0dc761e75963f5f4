def k_X1_isMissing (a1 : Int) (h : JH) (v : Option JV) (r' g : JH) : Prop := r' = jr0 ∧ h = g ∧ ∃ x : Int, v = some (.inl x) ∧ (0 ≤ x ∧ x ≤ 1) ∧ ((x = 1 ∧ h 10 a1 = -1) ∨ (x = 0 ∧ 0 ≤ h 10 a1))
set_option maxHeartbeats 4000000 in
theorem c_X1_isMissing {E : JE} {l : Launch} (a1 : Int) (h : JH) (p1 : 0 ≤ a1 ∧ a1 ≤ 3) : jMt E l 26 [.inr (.inr (.inl 2)), .inl a1] 229 jr0 h (k_X1_isMissing a1 h) := by
  refine jMt0 (nL := 2) (ls := [.inr (.inr (.inl 2)), .inl a1]) (by decide +kernel) (by decide +kernel) (by decide +kernel) rfl rfl ?_
  refine jGo_blk qX1_isMissing_0 ?_
  refine st_gr jo_2 jr_2_3 ?_
  refine st_ai jo_10 (show 0 ≤ a1 by omega) (show a1 < ((4 : Nat) : Int) by omega) (fun v1 ev1 b2 => ?_)
  replace ev1 : v1 = h 10 a1 := ev1
  replace b2 := (jba_10 a1 _).1 b2
  refine And.intro (fun c3 => ?_) (fun c3 => ?_)
  · replace c3 : ¬ v1 = (-1) := c3
    show jGo E l 26 229 229 _ 14 [.inr (.inr (.inl 2)), .inl a1] [] 229 jr0 h
    refine jGo_blk qX1_isMissing_14 ?_
    show jGo E l 26 229 229 _ 15 [.inr (.inr (.inl 2)), .inl a1] [.inl 0] 229 jr0 h
    refine jGo_blk qX1_isMissing_15 ?_
    exact st_r1 (ls := []) (show (0 : Int) = 0 ∨ (0 : Int) = 1 by omega) ⟨rfl, rfl, rfl, 0, rfl, (by omega), (by omega)⟩
  · replace c3 : v1 = (-1) := by first | exact c3 | exact Int.not_le.mp c3 | exact Int.not_lt.mp c3 | exact Decidable.not_not.mp c3
    show jGo E l 26 229 229 _ 15 [.inr (.inr (.inl 2)), .inl a1] [.inl 1] 229 jr0 h
    refine jGo_blk qX1_isMissing_15 ?_
    exact st_r1 (ls := []) (show (1 : Int) = 0 ∨ (1 : Int) = 1 by omega) ⟨rfl, rfl, rfl, 1, rfl, (by omega), (by omega)⟩

def w_X11_lose (i k : Int) : Prop := (i = 1) ∨ (i = 10) ∨ (i = 111 ∧ 9 ≤ k ∧ k ≤ 11)
theorem ws_X7_forget__X11_lose (i k : Int) (q : w_X7_forget i k) : w_X11_lose i k := by
  unfold w_X7_forget at q; unfold w_X11_lose
  exact (Or.inr (Or.inr (by omega)))
theorem ws_X11_refused__X11_lose (i k : Int) (q : w_X11_refused i k) : w_X11_lose i k := by
  unfold w_X11_refused at q; unfold w_X11_lose
  exact (Or.inl (by omega))
def k_X11_lose (a1 : Int) (h : JH) (v : Option JV) (r' g : JH) : Prop := r' = jr0 ∧ jfr w_X11_lose h g ∧ ∃ x : Int, v = some (.inl x) ∧ (-7 ≤ x ∧ x ≤ 1) ∧ ((P_X11_lose a1 x h g) ∧ jFg (x ≤ 0) h g)
set_option maxHeartbeats 4000000 in
theorem c_X11_lose {E : JE} {l : Launch} (a1 : Int) (h : JH) : jMt E l 27 [.inr (.inr (.inl 0)), .inl a1] 229 jr0 h (k_X11_lose a1 h) := by
  refine jMt0 (nL := 2) (ls := [.inr (.inr (.inl 0)), .inl a1]) (by decide +kernel) (by decide +kernel) (by decide +kernel) rfl rfl ?_
  have f0 : jfr w_X11_lose h h := jfr_rf _ _
  refine jGo_blk qX11_lose_0 ?_
  refine st_cs (na := 2) (st := [.inl 4, .inl a1]) rfl rfl rfl (c_X11_within a1 4 h) rfl ?_
  rintro _ _ _ ⟨rfl, rfl, t1, rfl, ht1, zt1⟩ kt1
  replace kt1 : -2147483648 ≤ t1 ∧ t1 ≤ 2147483647 := kt1
  replace ht1 : 0 ≤ t1 ∧ t1 ≤ 1 := ht1
  replace zt1 : (t1 = 1 ∧ 0 ≤ a1 ∧ a1 < (4 : Int)) ∨ (t1 = 0 ∧ ¬ (0 ≤ a1 ∧ a1 < (4 : Int))) := zt1
  refine And.intro (fun c3 => ?_) (fun c3 => ?_)
  · replace c3 : ¬ t1 = 0 := c3
    show jGo E l 27 229 229 _ 14 [.inr (.inr (.inl 0)), .inl a1] [] 229 jr0 h
    refine jGo_blk qX11_lose_14 ?_
    refine st_gr jo_0 jr_0_2 ?_
    refine st_cv (na := 1) (st := [.inl a1, .inr (.inr (.inl 2))]) jo_2 rfl rfl rfl (c_X1_isMissing a1 h (by omega)) rfl ?_
    rintro _ _ _ ⟨rfl, rfl, t4, rfl, ht4, zt4⟩ kt4
    replace kt4 : -2147483648 ≤ t4 ∧ t4 ≤ 2147483647 := kt4
    replace ht4 : 0 ≤ t4 ∧ t4 ≤ 1 := ht4
    replace zt4 : (t4 = 1 ∧ h 10 a1 = -1) ∨ (t4 = 0 ∧ 0 ≤ h 10 a1) := zt4
    refine And.intro (fun c6 => ?_) (fun c6 => ?_)
    · replace c6 : t4 = 0 := c6
      show jGo E l 27 229 229 _ 27 [.inr (.inr (.inl 0)), .inl a1] [] 229 jr0 h
      refine jGo_blk qX11_lose_27 ?_
      refine st_gr jo_0 jr_0_11 ?_
      refine st_cv (na := 0) (st := [.inr (.inr (.inl 111))]) jo_111 rfl rfl rfl (c_X7_forget h) rfl ?_
      rintro _ _ g8 ⟨rfl, ft7, rfl, zt7⟩ kt7
      have fg8 : jfr w_X11_lose h g8 := jfr_tr f0 ft7 ws_X7_forget__X11_lose
      replace zt7 : g8 111 9 = 0 ∧ g8 111 10 = 0 ∧ g8 111 11 = 0 := zt7
      refine st_gr jo_0 jr_0_2 ?_
      refine st_gr jo_2 jr_2_3 ?_
      refine st_si jo_10 (show 0 ≤ a1 by omega) (show a1 < ((4 : Nat) : Int) by omega) (fun hx => (jba_10 _ _).2 (show -1 ≤ (-1) ∧ (-1) ≤ 30 by omega)) (fun g9 eg9 => ?_)
      replace eg9 : g9 = jup g8 10 a1 (-1) := eg9
      have fg9 : jfr w_X11_lose h g9 := jfr_up fg8 eg9 (by unfold w_X11_lose; omega)
      have e10 : g9 10 a1 = (-1) := jup_s eg9
      have hs11 : g9 10 a1 = (-1) := by
        exact jup_s eg9
      have hs12 : ∀ i k : Int, 10 ≤ i → i ≤ 10 → ¬ (i = 10 ∧ k = a1) → g9 i k = h i k := fun i k p1 p2 p3 => ((jup_o eg9 (by first | exact fun q => absurd q.1 (by decide) | exact fun q => absurd q.2 (by decide) | omega)).trans (ft7 i k (by unfold w_X7_forget; omega)))
      exact st_r0 (ls := []) ⟨rfl, rfl, fg9, 1, rfl, (by omega), (by refine ⟨by unfold P_X11_lose; first | exact Or.inr (Or.inr ⟨by omega, ⟨hs11, hs12⟩⟩), Or.inl ?_⟩; exact ⟨((jup_o eg9 (by first | exact fun q => absurd q.1 (by decide) | exact fun q => absurd q.2 (by decide) | omega))).trans zt7.1, ((jup_o eg9 (by first | exact fun q => absurd q.1 (by decide) | exact fun q => absurd q.2 (by decide) | omega))).trans zt7.2.1, ((jup_o eg9 (by first | exact fun q => absurd q.1 (by decide) | exact fun q => absurd q.2 (by decide) | omega))).trans zt7.2.2⟩)⟩
    · replace c6 : ¬ t4 = 0 := by first | exact c6 | exact Int.not_le.mp c6 | exact Int.not_lt.mp c6 | exact Decidable.not_not.mp c6
      have hs13 : ∀ i k : Int, 10 ≤ i → i ≤ 10 → h i k = h i k := fun i k p1 p2 => rfl
      exact st_r0 (ls := []) ⟨rfl, rfl, f0, 0, rfl, (by omega), (by refine ⟨by unfold P_X11_lose; first | exact Or.inl ⟨by omega, hs13⟩ | exact Or.inr (Or.inl ⟨by omega, hs13⟩), Or.inr ⟨by omega, fun i k p1 => rfl⟩⟩)⟩
  · replace c3 : t1 = 0 := by first | exact c3 | exact Int.not_le.mp c3 | exact Int.not_lt.mp c3 | exact Decidable.not_not.mp c3
    refine st_cv (na := 1) (st := [.inl (-1), .inr (.inr (.inl 0))]) jo_0 rfl rfl rfl (c_X11_refused (-1) h (by omega)) rfl ?_
    rintro _ _ g15 ⟨rfl, ft14, t14, rfl, ht14, zt14⟩ kt14
    replace kt14 : -2147483648 ≤ t14 ∧ t14 ≤ 2147483647 := kt14
    replace ht14 : -7 ≤ t14 ∧ t14 ≤ -1 := ht14
    have fg15 : jfr w_X11_lose h g15 := jfr_tr f0 ft14 ws_X11_refused__X11_lose
    replace zt14 : t14 = (-1 : Int) := zt14
    have hs16 : ∀ i k : Int, 10 ≤ i → i ≤ 10 → g15 i k = h i k := fun i k p1 p2 => (ft14 i k (by unfold w_X11_refused; omega))
    exact st_r0 (ls := []) ⟨rfl, rfl, fg15, t14, rfl, (by omega), (by refine ⟨by unfold P_X11_lose; by_cases zz : t14 = -4 <;> first | exact Or.inl ⟨by omega, hs16⟩ | exact Or.inr (Or.inl ⟨by omega, hs16⟩), Or.inr ⟨by omega, fun i k p1 => (ft14 i k (by first | exact p1 | (unfold w_X11_refused; omega)))⟩⟩)⟩

def w_X12_lose (i k : Int) : Prop := (i = 179) ∨ (i = 219)
theorem ws_X12_refuse__X12_lose (i k : Int) (q : w_X12_refuse i k) : w_X12_lose i k := by
  unfold w_X12_refuse at q; unfold w_X12_lose
  exact (Or.inr (by omega))
def k_X12_lose (a1 : Int) (h : JH) (v : Option JV) (r' g : JH) : Prop := r' = jr0 ∧ jfr w_X12_lose h g ∧ ∃ x : Int, v = some (.inl x) ∧ (-7 ≤ x ∧ x ≤ 1) ∧ ((P_X12_lose a1 x h g) ∧ jRx (x ≤ 0) h g)
set_option maxHeartbeats 4000000 in
theorem c_X12_lose {E : JE} {l : Launch} (a1 : Int) (h : JH) : jMt E l 28 [.inr (.inr (.inl 176)), .inl a1] 229 jr0 h (k_X12_lose a1 h) := by
  refine jMt0 (nL := 3) (ls := [.inr (.inr (.inl 176)), .inl a1, .inr (.inr (.inr ()))]) (by decide +kernel) (by decide +kernel) (by decide +kernel) rfl rfl ?_
  have f0 : jfr w_X12_lose h h := jfr_rf _ _
  refine jGo_blk qX12_lose_0 ?_
  refine st_cs (na := 3) (st := [.inl 3, .inl 0, .inl a1]) rfl rfl rfl (c_X12_in a1 0 3 h) rfl ?_
  rintro _ _ _ ⟨rfl, rfl, t1, rfl, ht1, zt1⟩ kt1
  replace kt1 : -2147483648 ≤ t1 ∧ t1 ≤ 2147483647 := kt1
  replace ht1 : 0 ≤ t1 ∧ t1 ≤ 1 := ht1
  replace zt1 : (t1 = 1 ∧ (0 : Int) ≤ a1 ∧ a1 ≤ (3 : Int)) ∨ (t1 = 0 ∧ ¬ ((0 : Int) ≤ a1 ∧ a1 ≤ (3 : Int))) := zt1
  refine And.intro (fun c3 => ?_) (fun c3 => ?_)
  · replace c3 : ¬ t1 = 0 := c3
    show jGo E l 28 229 229 _ 15 [.inr (.inr (.inl 176)), .inl a1, .inr (.inr (.inr ()))] [] 229 jr0 h
    refine jGo_blk qX12_lose_15 ?_
    refine st_gr jo_176 jr_176_3 ?_
    refine st_ai jo_179 (show 0 ≤ a1 by omega) (show a1 < ((4 : Nat) : Int) by omega) (fun v4 ev4 b5 => ?_)
    replace ev4 : v4 = h 179 a1 := ev4
    replace b5 := (jba_179 a1 _).1 b5
    refine st_gr jo_176 jr_176_3 ?_
    refine st_si jo_179 (show 0 ≤ a1 by omega) (show a1 < ((4 : Nat) : Int) by omega) (fun hx => (jba_179 _ _).2 (show -1 ≤ (-1) ∧ (-1) ≤ 30 by omega)) (fun g6 eg6 => ?_)
    replace eg6 : g6 = jup h 179 a1 (-1) := eg6
    have fg6 : jfr w_X12_lose h g6 := jfr_up f0 eg6 (by unfold w_X12_lose; omega)
    have e7 : g6 179 a1 = (-1) := jup_s eg6
    refine And.intro (fun c8 => ?_) (fun c8 => ?_)
    · replace c8 : 0 ≤ v4 := c8
      show jGo E l 28 229 229 _ 37 [.inr (.inr (.inl 176)), .inl a1, .inl v4] [] 229 jr0 g6
      refine jGo_blk qX12_lose_37 ?_
      show jGo E l 28 229 229 _ 38 [.inr (.inr (.inl 176)), .inl a1, .inl v4] [.inl 1] 229 jr0 g6
      refine jGo_blk qX12_lose_38 ?_
      have hs9 : g6 179 a1 = (-1) := by
        exact jup_s eg6
      have hs10 : ∀ i k : Int, 179 ≤ i → i ≤ 179 → ¬ (i = 179 ∧ k = a1) → g6 i k = h i k := fun i k p1 p2 p3 => (jup_o eg6 (by first | exact fun q => absurd q.1 (by decide) | exact fun q => absurd q.2 (by decide) | omega))
      exact st_r0 (ls := []) ⟨rfl, rfl, fg6, 1, rfl, (by omega), (by refine ⟨by unfold P_X12_lose; first | exact Or.inr ⟨by omega, ⟨hs9, hs10⟩⟩, fun b9 i k _ => ?_⟩; first | (exfalso; omega) | (by_cases z : i = 179 ∧ k = a1; (rw [z.1, z.2, jup_s eg6]; omega); exact jup_o eg6 z))⟩
    · replace c8 : v4 < 0 := by first | exact c8 | exact Int.not_le.mp c8 | exact Int.not_lt.mp c8 | exact Decidable.not_not.mp c8
      show jGo E l 28 229 229 _ 38 [.inr (.inr (.inl 176)), .inl a1, .inl v4] [.inl 0] 229 jr0 g6
      refine jGo_blk qX12_lose_38 ?_
      have hs11 : g6 179 a1 = (-1) := by
        exact jup_s eg6
      have hs12 : ∀ i k : Int, 179 ≤ i → i ≤ 179 → ¬ (i = 179 ∧ k = a1) → g6 i k = h i k := fun i k p1 p2 p3 => (jup_o eg6 (by first | exact fun q => absurd q.1 (by decide) | exact fun q => absurd q.2 (by decide) | omega))
      exact st_r0 (ls := []) ⟨rfl, rfl, fg6, 0, rfl, (by omega), (by refine ⟨by unfold P_X12_lose; first | exact Or.inr ⟨by omega, ⟨hs11, hs12⟩⟩, fun b9 i k _ => ?_⟩; first | (exfalso; omega) | (by_cases z : i = 179 ∧ k = a1; (rw [z.1, z.2, jup_s eg6]; omega); exact jup_o eg6 z))⟩
  · replace c3 : t1 = 0 := by first | exact c3 | exact Int.not_le.mp c3 | exact Int.not_lt.mp c3 | exact Decidable.not_not.mp c3
    refine st_cv (na := 1) (st := [.inl (-1), .inr (.inr (.inl 176))]) jo_176 rfl rfl rfl (c_X12_refuse (-1) h (by omega)) rfl ?_
    rintro _ _ g14 ⟨rfl, ft13, t13, rfl, ht13, zt13⟩ kt13
    replace kt13 : -2147483648 ≤ t13 ∧ t13 ≤ 2147483647 := kt13
    replace ht13 : -7 ≤ t13 ∧ t13 ≤ -1 := ht13
    have fg14 : jfr w_X12_lose h g14 := jfr_tr f0 ft13 ws_X12_refuse__X12_lose
    replace zt13 : t13 = (-1 : Int) := zt13
    have hs15 : ∀ i k : Int, 179 ≤ i → i ≤ 179 → g14 i k = h i k := fun i k p1 p2 => (ft13 i k (by unfold w_X12_refuse; omega))
    exact st_r0 (ls := []) ⟨rfl, rfl, fg14, t13, rfl, (by omega), (by refine ⟨by unfold P_X12_lose; by_cases zz : t13 = -4 <;> first | exact Or.inl ⟨by omega, hs15⟩, fun _ i k q9 => ?_⟩; exact (ft13 i k (jzma_w_X12_refuse q9)))⟩

def w_X11_put (i k : Int) : Prop := (i = 1) ∨ (6 ≤ i ∧ i ≤ 9) ∨ (i = 111 ∧ 9 ≤ k ∧ k ≤ 11)
theorem ws_X7_forget__X11_put (i k : Int) (q : w_X7_forget i k) : w_X11_put i k := by
  unfold w_X7_forget at q; unfold w_X11_put
  exact (Or.inr (Or.inr (by omega)))
theorem ws_X11_refused__X11_put (i k : Int) (q : w_X11_refused i k) : w_X11_put i k := by
  unfold w_X11_refused at q; unfold w_X11_put
  exact (Or.inl (by omega))
def k_X11_put (a1 : Int) (a2 : Int) (a3 : Int) (h : JH) (v : Option JV) (r' g : JH) : Prop := r' = jr0 ∧ jfr w_X11_put h g ∧ ∃ x : Int, v = some (.inl x) ∧ (-7 ≤ x ∧ x ≤ 400) ∧ ((P_X11_put a1 a2 a3 x h g) ∧ jFg (x < 0) h g)
set_option maxHeartbeats 4000000 in
theorem c_X11_put {E : JE} {l : Launch} (a1 : Int) (a2 : Int) (a3 : Int) (h : JH) : jMt E l 29 [.inr (.inr (.inl 0)), .inl a1, .inl a2, .inl a3] 229 jr0 h (k_X11_put a1 a2 a3 h) := by
  refine jMt0 (nL := 6) (ls := [.inr (.inr (.inl 0)), .inl a1, .inl a2, .inl a3, .inr (.inr (.inr ())), .inr (.inr (.inr ()))]) (by decide +kernel) (by decide +kernel) (by decide +kernel) rfl rfl ?_
  have f0 : jfr w_X11_put h h := jfr_rf _ _
  refine jGo_blk qX11_put_0 ?_
  refine st_cs (na := 2) (st := [.inl 4, .inl a1]) rfl rfl rfl (c_X11_within a1 4 h) rfl ?_
  rintro _ _ _ ⟨rfl, rfl, t1, rfl, ht1, zt1⟩ kt1
  replace kt1 : -2147483648 ≤ t1 ∧ t1 ≤ 2147483647 := kt1
  replace ht1 : 0 ≤ t1 ∧ t1 ≤ 1 := ht1
  replace zt1 : (t1 = 1 ∧ 0 ≤ a1 ∧ a1 < (4 : Int)) ∨ (t1 = 0 ∧ ¬ (0 ≤ a1 ∧ a1 < (4 : Int))) := zt1
  refine And.intro (fun c3 => ?_) (fun c3 => ?_)
  · replace c3 : ¬ t1 = 0 := c3
    show jGo E l 29 229 229 _ 12 [.inr (.inr (.inl 0)), .inl a1, .inl a2, .inl a3, .inr (.inr (.inr ())), .inr (.inr (.inr ()))] [] 229 jr0 h
    refine jGo_blk qX11_put_12 ?_
    refine st_gr jo_0 jr_0_2 ?_
    refine st_cv (na := 1) (st := [.inl a1, .inr (.inr (.inl 2))]) jo_2 rfl rfl rfl (c_X1_isMissing a1 h (by omega)) rfl ?_
    rintro _ _ _ ⟨rfl, rfl, t4, rfl, ht4, zt4⟩ kt4
    replace kt4 : -2147483648 ≤ t4 ∧ t4 ≤ 2147483647 := kt4
    replace ht4 : 0 ≤ t4 ∧ t4 ≤ 1 := ht4
    replace zt4 : (t4 = 1 ∧ h 10 a1 = -1) ∨ (t4 = 0 ∧ 0 ≤ h 10 a1) := zt4
    refine And.intro (fun c6 => ?_) (fun c6 => ?_)
    · replace c6 : t4 = 0 := c6
      show jGo E l 29 229 229 _ 28 [.inr (.inr (.inl 0)), .inl a1, .inl a2, .inl a3, .inr (.inr (.inr ())), .inr (.inr (.inr ()))] [] 229 jr0 h
      refine jGo_blk qX11_put_28 ?_
      refine st_gr jo_0 jr_0_2 ?_
      refine st_gr jo_2 jr_2_3 ?_
      refine st_ai jo_10 (show 0 ≤ a1 by omega) (show a1 < ((4 : Nat) : Int) by omega) (fun v7 ev7 b8 => ?_)
      replace ev7 : v7 = h 10 a1 := ev7
      replace b8 := (jba_10 a1 _).1 b8
      refine st_cs (na := 2) (st := [.inl v7, .inl a2]) rfl rfl rfl (c_X11_within a2 v7 h) rfl ?_
      rintro _ _ _ ⟨rfl, rfl, t9, rfl, ht9, zt9⟩ kt9
      replace kt9 : -2147483648 ≤ t9 ∧ t9 ≤ 2147483647 := kt9
      replace ht9 : 0 ≤ t9 ∧ t9 ≤ 1 := ht9
      replace zt9 : (t9 = 1 ∧ 0 ≤ a2 ∧ a2 < v7) ∨ (t9 = 0 ∧ ¬ (0 ≤ a2 ∧ a2 < v7)) := zt9
      refine And.intro (fun c11 => ?_) (fun c11 => ?_)
      · replace c11 : ¬ t9 = 0 := c11
        show jGo E l 29 229 229 _ 49 [.inr (.inr (.inl 0)), .inl a1, .inl a2, .inl a3, .inr (.inr (.inr ())), .inr (.inr (.inr ()))] [] 229 jr0 h
        refine jGo_blk qX11_put_49 ?_
        refine st_cs (na := 3) (st := [.inl 400, .inl 0, .inl a3]) rfl rfl rfl (c_X11_outside a3 0 400 h) rfl ?_
        rintro _ _ _ ⟨rfl, rfl, t12, rfl, ht12, zt12⟩ kt12
        replace kt12 : -2147483648 ≤ t12 ∧ t12 ≤ 2147483647 := kt12
        replace ht12 : -6 ≤ t12 ∧ t12 ≤ 0 := ht12
        replace zt12 : (t12 = -4 ∧ a3 < (0 : Int)) ∨ (t12 = -6 ∧ (0 : Int) ≤ a3 ∧ (400 : Int) < a3) ∨ (t12 = 0 ∧ (0 : Int) ≤ a3 ∧ a3 ≤ (400 : Int)) := zt12
        show jGo E l 29 229 229 _ 57 [.inr (.inr (.inl 0)), .inl a1, .inl a2, .inl a3, .inr (.inr (.inr ())), .inr (.inr (.inr ()))] [.inl t12] 229 jr0 h
        refine jGo_blk qX11_put_57 ?_
        refine And.intro (fun c14 => ?_) (fun c14 => ?_)
        · replace c14 : t12 = 0 := c14
          show jGo E l 29 229 229 _ 71 [.inr (.inr (.inl 0)), .inl a1, .inl a2, .inl a3, .inl t12, .inr (.inr (.inr ()))] [] 229 jr0 h
          refine jGo_blk qX11_put_71 ?_
          refine st_gr jo_0 jr_0_11 ?_
          refine st_cv (na := 0) (st := [.inr (.inr (.inl 111))]) jo_111 rfl rfl rfl (c_X7_forget h) rfl ?_
          rintro _ _ g16 ⟨rfl, ft15, rfl, zt15⟩ kt15
          have fg16 : jfr w_X11_put h g16 := jfr_tr f0 ft15 ws_X7_forget__X11_put
          replace zt15 : g16 111 9 = 0 ∧ g16 111 10 = 0 ∧ g16 111 11 = 0 := zt15
          refine st_gr jo_0 jr_0_2 ?_
          refine st_gr jo_2 jr_2_2 ?_
          refine st_ar jo_5 (by decide) (show 0 ≤ a1 by omega) (show a1 < ((4 : Nat) : Int) by omega) (fun u17 eu17 => ?_)
          replace eu17 : u17 = jr0 5 a1 := eu17
          have qu17 : u17 = 6 + a1 := eu17.trans (jrow_5 a1 (by omega) (by omega)).1
          have ou17 : jF 229 u17 1 30 := by rw [eu17]; exact (jrow_5 a1 (by omega) (by omega)).2.1
          have wu17 : ∀ j v : Int, jbd u17 j v ↔ (0 ≤ v ∧ v ≤ 400) := by rw [eu17]; exact (jrow_5 a1 (by omega) (by omega)).2.2
          refine st_ai ou17 (show 0 ≤ a2 by omega) (show a2 < ((30 : Nat) : Int) by omega) (fun v18 ev18 b19 => ?_)
          replace ev18 : v18 = g16 u17 a2 := ev18
          replace b19 := (wu17 a2 _).1 b19
          refine st_gr jo_0 jr_0_2 ?_
          refine st_gr jo_2 jr_2_2 ?_
          refine st_ar jo_5 (by decide) (show 0 ≤ a1 by omega) (show a1 < ((4 : Nat) : Int) by omega) (fun u20 eu20 => ?_)
          replace eu20 : u20 = jr0 5 a1 := eu20
          have qu20 : u20 = 6 + a1 := eu20.trans (jrow_5 a1 (by omega) (by omega)).1
          have ou20 : jF 229 u20 1 30 := by rw [eu20]; exact (jrow_5 a1 (by omega) (by omega)).2.1
          have wu20 : ∀ j v : Int, jbd u20 j v ↔ (0 ≤ v ∧ v ≤ 400) := by rw [eu20]; exact (jrow_5 a1 (by omega) (by omega)).2.2
          refine st_si ou20 (show 0 ≤ a2 by omega) (show a2 < ((30 : Nat) : Int) by omega) (fun hx => (wu20 _ _).2 (show 0 ≤ a3 ∧ a3 ≤ 400 by omega)) (fun g21 eg21 => ?_)
          replace eg21 : g21 = jup g16 u20 a2 a3 := eg21
          have fg21 : jfr w_X11_put h g21 := jfr_up fg16 eg21 (by unfold w_X11_put; omega)
          have e22 : g21 u20 a2 = a3 := jup_s eg21
          have e23 : g16 u17 a2 = h u17 a2 := (ft15 u17 a2 (by unfold w_X7_forget; omega))
          have e24 : h u17 a2 = h (6 + a1) a2 := by rw [qu17]
          have hs25 : g21 (6 + a1) a2 = a3 := by
            rw [show 6 + a1 = u20 by omega]
            exact jup_s eg21
          have hs26 : ∀ i k : Int, 6 ≤ i → i ≤ 9 → ¬ (i = 6 + a1 ∧ k = a2) → g21 i k = h i k := fun i k p1 p2 p3 => ((jup_o eg21 (by first | exact fun q => absurd q.1 (by decide) | exact fun q => absurd q.2 (by decide) | omega)).trans (ft15 i k (by unfold w_X7_forget; omega)))
          exact st_r0 (ls := []) ⟨rfl, rfl, fg21, v18, rfl, (by omega), (by refine ⟨by unfold P_X11_put; first | exact Or.inr (Or.inr (Or.inr (Or.inr (Or.inr ⟨by omega, ⟨hs25, hs26⟩⟩)))), Or.inl ?_⟩; exact ⟨((jup_o eg21 (by first | exact fun q => absurd q.1 (by decide) | exact fun q => absurd q.2 (by decide) | omega))).trans zt15.1, ((jup_o eg21 (by first | exact fun q => absurd q.1 (by decide) | exact fun q => absurd q.2 (by decide) | omega))).trans zt15.2.1, ((jup_o eg21 (by first | exact fun q => absurd q.1 (by decide) | exact fun q => absurd q.2 (by decide) | omega))).trans zt15.2.2⟩)⟩
        · replace c14 : ¬ t12 = 0 := by first | exact c14 | exact Int.not_le.mp c14 | exact Int.not_lt.mp c14 | exact Decidable.not_not.mp c14
          refine st_cv (na := 1) (st := [.inl t12, .inr (.inr (.inl 0))]) jo_0 rfl rfl rfl (c_X11_refused t12 h (by omega)) rfl ?_
          rintro _ _ g28 ⟨rfl, ft27, t27, rfl, ht27, zt27⟩ kt27
          replace kt27 : -2147483648 ≤ t27 ∧ t27 ≤ 2147483647 := kt27
          replace ht27 : -7 ≤ t27 ∧ t27 ≤ -1 := ht27
          have fg28 : jfr w_X11_put h g28 := jfr_tr f0 ft27 ws_X11_refused__X11_put
          replace zt27 : t27 = t12 := zt27
          have hs29 : ∀ i k : Int, 6 ≤ i → i ≤ 9 → g28 i k = h i k := fun i k p1 p2 => (ft27 i k (by unfold w_X11_refused; omega))
          exact st_r0 (ls := []) ⟨rfl, rfl, fg28, t27, rfl, (by omega), (by refine ⟨by unfold P_X11_put; by_cases zz : t27 = -4 <;> first | exact Or.inl ⟨by omega, hs29⟩ | exact Or.inr (Or.inl ⟨by omega, hs29⟩) | exact Or.inr (Or.inr (Or.inl ⟨by omega, hs29⟩)) | exact Or.inr (Or.inr (Or.inr (Or.inl ⟨by omega, hs29⟩))) | exact Or.inr (Or.inr (Or.inr (Or.inr (Or.inl ⟨by omega, hs29⟩)))), Or.inr ⟨by omega, fun i k p1 => (ft27 i k (by first | exact p1 | (unfold w_X11_refused; omega)))⟩⟩)⟩
      · replace c11 : t9 = 0 := by first | exact c11 | exact Int.not_le.mp c11 | exact Int.not_lt.mp c11 | exact Decidable.not_not.mp c11
        show jGo E l 29 229 229 _ 57 [.inr (.inr (.inl 0)), .inl a1, .inl a2, .inl a3, .inr (.inr (.inr ())), .inr (.inr (.inr ()))] [.inl (-7)] 229 jr0 h
        refine jGo_blk qX11_put_57 ?_
        refine And.intro (fun c30 => ?_) (fun c30 => ?_)
        · replace c30 : (-7 : Int) = 0 := c30
          exfalso; omega
        · replace c30 : ¬ (-7 : Int) = 0 := by first | exact c30 | exact Int.not_le.mp c30 | exact Int.not_lt.mp c30 | exact Decidable.not_not.mp c30
          refine st_cv (na := 1) (st := [.inl (-7), .inr (.inr (.inl 0))]) jo_0 rfl rfl rfl (c_X11_refused (-7) h (by omega)) rfl ?_
          rintro _ _ g32 ⟨rfl, ft31, t31, rfl, ht31, zt31⟩ kt31
          replace kt31 : -2147483648 ≤ t31 ∧ t31 ≤ 2147483647 := kt31
          replace ht31 : -7 ≤ t31 ∧ t31 ≤ -1 := ht31
          have fg32 : jfr w_X11_put h g32 := jfr_tr f0 ft31 ws_X11_refused__X11_put
          replace zt31 : t31 = (-7 : Int) := zt31
          have hs33 : ∀ i k : Int, 6 ≤ i → i ≤ 9 → g32 i k = h i k := fun i k p1 p2 => (ft31 i k (by unfold w_X11_refused; omega))
          exact st_r0 (ls := []) ⟨rfl, rfl, fg32, t31, rfl, (by omega), (by refine ⟨by unfold P_X11_put; by_cases zz : t31 = -4 <;> first | exact Or.inl ⟨by omega, hs33⟩ | exact Or.inr (Or.inl ⟨by omega, hs33⟩) | exact Or.inr (Or.inr (Or.inl ⟨by omega, hs33⟩)) | exact Or.inr (Or.inr (Or.inr (Or.inl ⟨by omega, hs33⟩))) | exact Or.inr (Or.inr (Or.inr (Or.inr (Or.inl ⟨by omega, hs33⟩)))), Or.inr ⟨by omega, fun i k p1 => (ft31 i k (by first | exact p1 | (unfold w_X11_refused; omega)))⟩⟩)⟩
    · replace c6 : ¬ t4 = 0 := by first | exact c6 | exact Int.not_le.mp c6 | exact Int.not_lt.mp c6 | exact Decidable.not_not.mp c6
      show jGo E l 29 229 229 _ 57 [.inr (.inr (.inl 0)), .inl a1, .inl a2, .inl a3, .inr (.inr (.inr ())), .inr (.inr (.inr ()))] [.inl (-5)] 229 jr0 h
      refine jGo_blk qX11_put_57 ?_
      refine And.intro (fun c34 => ?_) (fun c34 => ?_)
      · replace c34 : (-5 : Int) = 0 := c34
        exfalso; omega
      · replace c34 : ¬ (-5 : Int) = 0 := by first | exact c34 | exact Int.not_le.mp c34 | exact Int.not_lt.mp c34 | exact Decidable.not_not.mp c34
        refine st_cv (na := 1) (st := [.inl (-5), .inr (.inr (.inl 0))]) jo_0 rfl rfl rfl (c_X11_refused (-5) h (by omega)) rfl ?_
        rintro _ _ g36 ⟨rfl, ft35, t35, rfl, ht35, zt35⟩ kt35
        replace kt35 : -2147483648 ≤ t35 ∧ t35 ≤ 2147483647 := kt35
        replace ht35 : -7 ≤ t35 ∧ t35 ≤ -1 := ht35
        have fg36 : jfr w_X11_put h g36 := jfr_tr f0 ft35 ws_X11_refused__X11_put
        replace zt35 : t35 = (-5 : Int) := zt35
        have hs37 : ∀ i k : Int, 6 ≤ i → i ≤ 9 → g36 i k = h i k := fun i k p1 p2 => (ft35 i k (by unfold w_X11_refused; omega))
        exact st_r0 (ls := []) ⟨rfl, rfl, fg36, t35, rfl, (by omega), (by refine ⟨by unfold P_X11_put; by_cases zz : t35 = -4 <;> first | exact Or.inl ⟨by omega, hs37⟩ | exact Or.inr (Or.inl ⟨by omega, hs37⟩) | exact Or.inr (Or.inr (Or.inl ⟨by omega, hs37⟩)) | exact Or.inr (Or.inr (Or.inr (Or.inl ⟨by omega, hs37⟩))) | exact Or.inr (Or.inr (Or.inr (Or.inr (Or.inl ⟨by omega, hs37⟩)))), Or.inr ⟨by omega, fun i k p1 => (ft35 i k (by first | exact p1 | (unfold w_X11_refused; omega)))⟩⟩)⟩
  · replace c3 : t1 = 0 := by first | exact c3 | exact Int.not_le.mp c3 | exact Int.not_lt.mp c3 | exact Decidable.not_not.mp c3
    show jGo E l 29 229 229 _ 57 [.inr (.inr (.inl 0)), .inl a1, .inl a2, .inl a3, .inr (.inr (.inr ())), .inr (.inr (.inr ()))] [.inl (-1)] 229 jr0 h
    refine jGo_blk qX11_put_57 ?_
    refine And.intro (fun c38 => ?_) (fun c38 => ?_)
    · replace c38 : (-1 : Int) = 0 := c38
      exfalso; omega
    · replace c38 : ¬ (-1 : Int) = 0 := by first | exact c38 | exact Int.not_le.mp c38 | exact Int.not_lt.mp c38 | exact Decidable.not_not.mp c38
      refine st_cv (na := 1) (st := [.inl (-1), .inr (.inr (.inl 0))]) jo_0 rfl rfl rfl (c_X11_refused (-1) h (by omega)) rfl ?_
      rintro _ _ g40 ⟨rfl, ft39, t39, rfl, ht39, zt39⟩ kt39
      replace kt39 : -2147483648 ≤ t39 ∧ t39 ≤ 2147483647 := kt39
      replace ht39 : -7 ≤ t39 ∧ t39 ≤ -1 := ht39
      have fg40 : jfr w_X11_put h g40 := jfr_tr f0 ft39 ws_X11_refused__X11_put
      replace zt39 : t39 = (-1 : Int) := zt39
      have hs41 : ∀ i k : Int, 6 ≤ i → i ≤ 9 → g40 i k = h i k := fun i k p1 p2 => (ft39 i k (by unfold w_X11_refused; omega))
      exact st_r0 (ls := []) ⟨rfl, rfl, fg40, t39, rfl, (by omega), (by refine ⟨by unfold P_X11_put; by_cases zz : t39 = -4 <;> first | exact Or.inl ⟨by omega, hs41⟩ | exact Or.inr (Or.inl ⟨by omega, hs41⟩) | exact Or.inr (Or.inr (Or.inl ⟨by omega, hs41⟩)) | exact Or.inr (Or.inr (Or.inr (Or.inl ⟨by omega, hs41⟩))) | exact Or.inr (Or.inr (Or.inr (Or.inr (Or.inl ⟨by omega, hs41⟩)))), Or.inr ⟨by omega, fun i k p1 => (ft39 i k (by first | exact p1 | (unfold w_X11_refused; omega)))⟩⟩)⟩

def w_X12_put (i k : Int) : Prop := (i = 180) ∨ (i = 219)
theorem ws_X12_refuse__X12_put (i k : Int) (q : w_X12_refuse i k) : w_X12_put i k := by
  unfold w_X12_refuse at q; unfold w_X12_put
  exact (Or.inr (by omega))
def k_X12_put (a1 : Int) (a2 : Int) (a3 : Int) (h : JH) (v : Option JV) (r' g : JH) : Prop := r' = jr0 ∧ jfr w_X12_put h g ∧ ∃ x : Int, v = some (.inl x) ∧ (-7 ≤ x ∧ x ≤ 400) ∧ ((P_X12_put a1 a2 a3 x h g) ∧ jRx (x < 0) h g)
set_option maxHeartbeats 4000000 in
theorem c_X12_put {E : JE} {l : Launch} (a1 : Int) (a2 : Int) (a3 : Int) (h : JH) : jMt E l 30 [.inr (.inr (.inl 176)), .inl a1, .inl a2, .inl a3] 229 jr0 h (k_X12_put a1 a2 a3 h) := by
  refine jMt0 (nL := 5) (ls := [.inr (.inr (.inl 176)), .inl a1, .inl a2, .inl a3, .inr (.inr (.inr ()))]) (by decide +kernel) (by decide +kernel) (by decide +kernel) rfl rfl ?_
  have f0 : jfr w_X12_put h h := jfr_rf _ _
  refine jGo_blk qX12_put_0 ?_
  refine st_cs (na := 3) (st := [.inl 3, .inl 0, .inl a1]) rfl rfl rfl (c_X12_in a1 0 3 h) rfl ?_
  rintro _ _ _ ⟨rfl, rfl, t1, rfl, ht1, zt1⟩ kt1
  replace kt1 : -2147483648 ≤ t1 ∧ t1 ≤ 2147483647 := kt1
  replace ht1 : 0 ≤ t1 ∧ t1 ≤ 1 := ht1
  replace zt1 : (t1 = 1 ∧ (0 : Int) ≤ a1 ∧ a1 ≤ (3 : Int)) ∨ (t1 = 0 ∧ ¬ ((0 : Int) ≤ a1 ∧ a1 ≤ (3 : Int))) := zt1
  refine And.intro (fun c3 => ?_) (fun c3 => ?_)
  · replace c3 : ¬ t1 = 0 := c3
    show jGo E l 30 229 229 _ 15 [.inr (.inr (.inl 176)), .inl a1, .inl a2, .inl a3, .inr (.inr (.inr ()))] [] 229 jr0 h
    refine jGo_blk qX12_put_15 ?_
    refine st_gr jo_176 jr_176_3 ?_
    refine st_ai jo_179 (show 0 ≤ a1 by omega) (show a1 < ((4 : Nat) : Int) by omega) (fun v4 ev4 b5 => ?_)
    replace ev4 : v4 = h 179 a1 := ev4
    replace b5 := (jba_179 a1 _).1 b5
    refine And.intro (fun c6 => ?_) (fun c6 => ?_)
    · replace c6 : 0 ≤ v4 := c6
      show jGo E l 30 229 229 _ 31 [.inr (.inr (.inl 176)), .inl a1, .inl a2, .inl a3, .inr (.inr (.inr ()))] [] 229 jr0 h
      refine jGo_blk qX12_put_31 ?_
      refine st_gr jo_176 jr_176_3 ?_
      refine st_ai jo_179 (show 0 ≤ a1 by omega) (show a1 < ((4 : Nat) : Int) by omega) (fun v7 ev7 b8 => ?_)
      replace ev7 : v7 = h 179 a1 := ev7
      replace b8 := (jba_179 a1 _).1 b8
      have e9 : jw32 (v7 - 1) = v7 - 1 := jzj32 (by omega)
      refine st_cs (na := 3) (st := [.inl (jw32 (v7 - 1)), .inl 0, .inl a2]) rfl rfl rfl (c_X12_in a2 0 (jw32 (v7 - 1)) h) rfl ?_
      rintro _ _ _ ⟨rfl, rfl, t10, rfl, ht10, zt10⟩ kt10
      replace kt10 : -2147483648 ≤ t10 ∧ t10 ≤ 2147483647 := kt10
      replace ht10 : 0 ≤ t10 ∧ t10 ≤ 1 := ht10
      replace zt10 : (t10 = 1 ∧ (0 : Int) ≤ a2 ∧ a2 ≤ (jw32 (v7 - 1))) ∨ (t10 = 0 ∧ ¬ ((0 : Int) ≤ a2 ∧ a2 ≤ (jw32 (v7 - 1)))) := zt10
      refine And.intro (fun c12 => ?_) (fun c12 => ?_)
      · replace c12 : ¬ t10 = 0 := c12
        show jGo E l 30 229 229 _ 54 [.inr (.inr (.inl 176)), .inl a1, .inl a2, .inl a3, .inr (.inr (.inr ()))] [] 229 jr0 h
        refine jGo_blk qX12_put_54 ?_
        refine And.intro (fun c13 => ?_) (fun c13 => ?_)
        · replace c13 : 0 ≤ a3 := c13
          show jGo E l 30 229 229 _ 65 [.inr (.inr (.inl 176)), .inl a1, .inl a2, .inl a3, .inr (.inr (.inr ()))] [] 229 jr0 h
          refine jGo_blk qX12_put_65 ?_
          refine And.intro (fun c14 => ?_) (fun c14 => ?_)
          · replace c14 : a3 ≤ 400 := c14
            show jGo E l 30 229 229 _ 79 [.inr (.inr (.inl 176)), .inl a1, .inl a2, .inl a3, .inr (.inr (.inr ()))] [] 229 jr0 h
            refine jGo_blk qX12_put_79 ?_
            refine st_gr jo_176 jr_176_4 ?_
            have e15 : jw32 (30 * a1) = 30 * a1 := jzj32 (by omega)
            have e16 : jw32 ((jw32 (30 * a1)) + a2) = (jw32 (30 * a1)) + a2 := jzj32 (by omega)
            refine st_ai jo_180 (show 0 ≤ jw32 ((jw32 (30 * a1)) + a2) by omega) (show jw32 ((jw32 (30 * a1)) + a2) < ((120 : Nat) : Int) by omega) (fun v17 ev17 b18 => ?_)
            replace ev17 : v17 = h 180 (jw32 ((jw32 (30 * a1)) + a2)) := ev17
            replace b18 := (jba_180 (jw32 ((jw32 (30 * a1)) + a2)) _).1 b18
            refine st_gr jo_176 jr_176_4 ?_
            have e19 : jw32 (30 * a1) = 30 * a1 := jzj32 (by omega)
            have e20 : jw32 ((jw32 (30 * a1)) + a2) = (jw32 (30 * a1)) + a2 := jzj32 (by omega)
            refine st_si jo_180 (show 0 ≤ jw32 ((jw32 (30 * a1)) + a2) by omega) (show jw32 ((jw32 (30 * a1)) + a2) < ((120 : Nat) : Int) by omega) (fun hx => (jba_180 _ _).2 (show 0 ≤ a3 ∧ a3 ≤ 400 by omega)) (fun g21 eg21 => ?_)
            replace eg21 : g21 = jup h 180 (jw32 ((jw32 (30 * a1)) + a2)) a3 := eg21
            have fg21 : jfr w_X12_put h g21 := jfr_up f0 eg21 (by unfold w_X12_put; omega)
            have e22 : g21 180 (jw32 ((jw32 (30 * a1)) + a2)) = a3 := jup_s eg21
            have e23 : h 180 (jw32 ((jw32 (30 * a1)) + a2)) = h 180 (((30 * a1)) + a2) := congrArg (h 180) (show jw32 ((jw32 (30 * a1)) + a2) = (((30 * a1)) + a2) by omega)
            have hs24 : g21 180 (30 * a1 + a2) = a3 := by
              rw [show 30 * a1 + a2 = jw32 ((jw32 (30 * a1)) + a2) by omega]
              exact jup_s eg21
            have hs25 : ∀ i k : Int, 180 ≤ i → i ≤ 180 → ¬ (i = 180 ∧ k = 30 * a1 + a2) → g21 i k = h i k := fun i k p1 p2 p3 => (jup_o eg21 (by first | exact fun q => absurd q.1 (by decide) | exact fun q => absurd q.2 (by decide) | omega))
            exact st_r0 (ls := []) ⟨rfl, rfl, fg21, v17, rfl, (by omega), (by refine ⟨by unfold P_X12_put; first | exact Or.inr (Or.inr (Or.inr (Or.inr (Or.inr ⟨by omega, ⟨hs24, hs25⟩⟩)))), fun b9 => absurd b9 (by omega)⟩)⟩
          · replace c14 : 400 < a3 := by first | exact c14 | exact Int.not_le.mp c14 | exact Int.not_lt.mp c14 | exact Decidable.not_not.mp c14
            refine st_cv (na := 1) (st := [.inl (-6), .inr (.inr (.inl 176))]) jo_176 rfl rfl rfl (c_X12_refuse (-6) h (by omega)) rfl ?_
            rintro _ _ g27 ⟨rfl, ft26, t26, rfl, ht26, zt26⟩ kt26
            replace kt26 : -2147483648 ≤ t26 ∧ t26 ≤ 2147483647 := kt26
            replace ht26 : -7 ≤ t26 ∧ t26 ≤ -1 := ht26
            have fg27 : jfr w_X12_put h g27 := jfr_tr f0 ft26 ws_X12_refuse__X12_put
            replace zt26 : t26 = (-6 : Int) := zt26
            have hs28 : ∀ i k : Int, 180 ≤ i → i ≤ 180 → g27 i k = h i k := fun i k p1 p2 => (ft26 i k (by unfold w_X12_refuse; omega))
            exact st_r0 (ls := []) ⟨rfl, rfl, fg27, t26, rfl, (by omega), (by refine ⟨by unfold P_X12_put; by_cases zz : t26 = -4 <;> first | exact Or.inl ⟨by omega, hs28⟩ | exact Or.inr (Or.inl ⟨by omega, hs28⟩) | exact Or.inr (Or.inr (Or.inl ⟨by omega, hs28⟩)) | exact Or.inr (Or.inr (Or.inr (Or.inl ⟨by omega, hs28⟩))) | exact Or.inr (Or.inr (Or.inr (Or.inr (Or.inl ⟨by omega, hs28⟩)))), fun _ i k q9 => ?_⟩; exact (ft26 i k (jzma_w_X12_refuse q9)))⟩
        · replace c13 : a3 < 0 := by first | exact c13 | exact Int.not_le.mp c13 | exact Int.not_lt.mp c13 | exact Decidable.not_not.mp c13
          refine st_cv (na := 1) (st := [.inl (-4), .inr (.inr (.inl 176))]) jo_176 rfl rfl rfl (c_X12_refuse (-4) h (by omega)) rfl ?_
          rintro _ _ g30 ⟨rfl, ft29, t29, rfl, ht29, zt29⟩ kt29
          replace kt29 : -2147483648 ≤ t29 ∧ t29 ≤ 2147483647 := kt29
          replace ht29 : -7 ≤ t29 ∧ t29 ≤ -1 := ht29
          have fg30 : jfr w_X12_put h g30 := jfr_tr f0 ft29 ws_X12_refuse__X12_put
          replace zt29 : t29 = (-4 : Int) := zt29
          have hs31 : ∀ i k : Int, 180 ≤ i → i ≤ 180 → g30 i k = h i k := fun i k p1 p2 => (ft29 i k (by unfold w_X12_refuse; omega))
          exact st_r0 (ls := []) ⟨rfl, rfl, fg30, t29, rfl, (by omega), (by refine ⟨by unfold P_X12_put; by_cases zz : t29 = -4 <;> first | exact Or.inl ⟨by omega, hs31⟩ | exact Or.inr (Or.inl ⟨by omega, hs31⟩) | exact Or.inr (Or.inr (Or.inl ⟨by omega, hs31⟩)) | exact Or.inr (Or.inr (Or.inr (Or.inl ⟨by omega, hs31⟩))) | exact Or.inr (Or.inr (Or.inr (Or.inr (Or.inl ⟨by omega, hs31⟩)))), fun _ i k q9 => ?_⟩; exact (ft29 i k (jzma_w_X12_refuse q9)))⟩
      · replace c12 : t10 = 0 := by first | exact c12 | exact Int.not_le.mp c12 | exact Int.not_lt.mp c12 | exact Decidable.not_not.mp c12
        refine st_cv (na := 1) (st := [.inl (-7), .inr (.inr (.inl 176))]) jo_176 rfl rfl rfl (c_X12_refuse (-7) h (by omega)) rfl ?_
        rintro _ _ g33 ⟨rfl, ft32, t32, rfl, ht32, zt32⟩ kt32
        replace kt32 : -2147483648 ≤ t32 ∧ t32 ≤ 2147483647 := kt32
        replace ht32 : -7 ≤ t32 ∧ t32 ≤ -1 := ht32
        have fg33 : jfr w_X12_put h g33 := jfr_tr f0 ft32 ws_X12_refuse__X12_put
        replace zt32 : t32 = (-7 : Int) := zt32
        have hs34 : ∀ i k : Int, 180 ≤ i → i ≤ 180 → g33 i k = h i k := fun i k p1 p2 => (ft32 i k (by unfold w_X12_refuse; omega))
        exact st_r0 (ls := []) ⟨rfl, rfl, fg33, t32, rfl, (by omega), (by refine ⟨by unfold P_X12_put; by_cases zz : t32 = -4 <;> first | exact Or.inl ⟨by omega, hs34⟩ | exact Or.inr (Or.inl ⟨by omega, hs34⟩) | exact Or.inr (Or.inr (Or.inl ⟨by omega, hs34⟩)) | exact Or.inr (Or.inr (Or.inr (Or.inl ⟨by omega, hs34⟩))) | exact Or.inr (Or.inr (Or.inr (Or.inr (Or.inl ⟨by omega, hs34⟩)))), fun _ i k q9 => ?_⟩; exact (ft32 i k (jzma_w_X12_refuse q9)))⟩
    · replace c6 : v4 < 0 := by first | exact c6 | exact Int.not_le.mp c6 | exact Int.not_lt.mp c6 | exact Decidable.not_not.mp c6
      refine st_cv (na := 1) (st := [.inl (-5), .inr (.inr (.inl 176))]) jo_176 rfl rfl rfl (c_X12_refuse (-5) h (by omega)) rfl ?_
      rintro _ _ g36 ⟨rfl, ft35, t35, rfl, ht35, zt35⟩ kt35
      replace kt35 : -2147483648 ≤ t35 ∧ t35 ≤ 2147483647 := kt35
      replace ht35 : -7 ≤ t35 ∧ t35 ≤ -1 := ht35
      have fg36 : jfr w_X12_put h g36 := jfr_tr f0 ft35 ws_X12_refuse__X12_put
      replace zt35 : t35 = (-5 : Int) := zt35
      have hs37 : ∀ i k : Int, 180 ≤ i → i ≤ 180 → g36 i k = h i k := fun i k p1 p2 => (ft35 i k (by unfold w_X12_refuse; omega))
      exact st_r0 (ls := []) ⟨rfl, rfl, fg36, t35, rfl, (by omega), (by refine ⟨by unfold P_X12_put; by_cases zz : t35 = -4 <;> first | exact Or.inl ⟨by omega, hs37⟩ | exact Or.inr (Or.inl ⟨by omega, hs37⟩) | exact Or.inr (Or.inr (Or.inl ⟨by omega, hs37⟩)) | exact Or.inr (Or.inr (Or.inr (Or.inl ⟨by omega, hs37⟩))) | exact Or.inr (Or.inr (Or.inr (Or.inr (Or.inl ⟨by omega, hs37⟩)))), fun _ i k q9 => ?_⟩; exact (ft35 i k (jzma_w_X12_refuse q9)))⟩
  · replace c3 : t1 = 0 := by first | exact c3 | exact Int.not_le.mp c3 | exact Int.not_lt.mp c3 | exact Decidable.not_not.mp c3
    refine st_cv (na := 1) (st := [.inl (-1), .inr (.inr (.inl 176))]) jo_176 rfl rfl rfl (c_X12_refuse (-1) h (by omega)) rfl ?_
    rintro _ _ g39 ⟨rfl, ft38, t38, rfl, ht38, zt38⟩ kt38
    replace kt38 : -2147483648 ≤ t38 ∧ t38 ≤ 2147483647 := kt38
    replace ht38 : -7 ≤ t38 ∧ t38 ≤ -1 := ht38
    have fg39 : jfr w_X12_put h g39 := jfr_tr f0 ft38 ws_X12_refuse__X12_put
    replace zt38 : t38 = (-1 : Int) := zt38
    have hs40 : ∀ i k : Int, 180 ≤ i → i ≤ 180 → g39 i k = h i k := fun i k p1 p2 => (ft38 i k (by unfold w_X12_refuse; omega))
    exact st_r0 (ls := []) ⟨rfl, rfl, fg39, t38, rfl, (by omega), (by refine ⟨by unfold P_X12_put; by_cases zz : t38 = -4 <;> first | exact Or.inl ⟨by omega, hs40⟩ | exact Or.inr (Or.inl ⟨by omega, hs40⟩) | exact Or.inr (Or.inr (Or.inl ⟨by omega, hs40⟩)) | exact Or.inr (Or.inr (Or.inr (Or.inl ⟨by omega, hs40⟩))) | exact Or.inr (Or.inr (Or.inr (Or.inr (Or.inl ⟨by omega, hs40⟩)))), fun _ i k q9 => ?_⟩; exact (ft38 i k (jzma_w_X12_refuse q9)))⟩

def k_X1_hasPlaces (a1 : Int) (a2 : Int) (a3 : Int) (h : JH) (v : Option JV) (r' g : JH) : Prop := r' = jr0 ∧ h = g ∧ ∃ x : Int, v = some (.inl x) ∧ (0 ≤ x ∧ x ≤ 1) ∧ ((x = 1 ∧ 0 ≤ a2 ∧ 0 ≤ a3 ∧ a2 + a3 ≤ h 10 a1 ∧ h 10 a1 ≤ 30) ∨ (x = 0 ∧ ¬ (0 ≤ a2 ∧ 0 ≤ a3 ∧ a2 + a3 ≤ h 10 a1)))
set_option maxHeartbeats 4000000 in
theorem c_X1_hasPlaces {E : JE} {l : Launch} (a1 : Int) (a2 : Int) (a3 : Int) (h : JH) (p1 : 0 ≤ a1 ∧ a1 ≤ 3) : jMt E l 31 [.inr (.inr (.inl 2)), .inl a1, .inl a2, .inl a3] 229 jr0 h (k_X1_hasPlaces a1 a2 a3 h) := by
  refine jMt1 (nL := 4) (ls := [.inr (.inr (.inl 2)), .inl a1, .inl a2, .inl a3]) (by decide +kernel) (by decide +kernel) (by decide +kernel) rfl rfl (fun hav => ?_)
  have ra1 : -2147483648 ≤ a1 ∧ a1 ≤ 2147483647 := hav (.inl a1) (by simp)
  have ra2 : -2147483648 ≤ a2 ∧ a2 ≤ 2147483647 := hav (.inl a2) (by simp)
  have ra3 : -2147483648 ≤ a3 ∧ a3 ≤ 2147483647 := hav (.inl a3) (by simp)
  refine jGo_blk qX1_hasPlaces_0 ?_
  refine And.intro (fun c1 => ?_) (fun c1 => ?_)
  · replace c1 : a3 < 0 := c1
    show jGo E l 31 229 229 _ 24 [.inr (.inr (.inl 2)), .inl a1, .inl a2, .inl a3] [] 229 jr0 h
    refine jGo_blk qX1_hasPlaces_24 ?_
    show jGo E l 31 229 229 _ 25 [.inr (.inr (.inl 2)), .inl a1, .inl a2, .inl a3] [.inl 0] 229 jr0 h
    refine jGo_blk qX1_hasPlaces_25 ?_
    exact st_r1 (ls := []) (show (0 : Int) = 0 ∨ (0 : Int) = 1 by omega) ⟨rfl, rfl, rfl, 0, rfl, (by omega), (by omega)⟩
  · replace c1 : 0 ≤ a3 := by first | exact c1 | exact Int.not_le.mp c1 | exact Int.not_lt.mp c1 | exact Decidable.not_not.mp c1
    refine And.intro (fun c2 => ?_) (fun c2 => ?_)
    · replace c2 : a2 < 0 := c2
      show jGo E l 31 229 229 _ 24 [.inr (.inr (.inl 2)), .inl a1, .inl a2, .inl a3] [] 229 jr0 h
      refine jGo_blk qX1_hasPlaces_24 ?_
      show jGo E l 31 229 229 _ 25 [.inr (.inr (.inl 2)), .inl a1, .inl a2, .inl a3] [.inl 0] 229 jr0 h
      refine jGo_blk qX1_hasPlaces_25 ?_
      exact st_r1 (ls := []) (show (0 : Int) = 0 ∨ (0 : Int) = 1 by omega) ⟨rfl, rfl, rfl, 0, rfl, (by omega), (by omega)⟩
    · replace c2 : 0 ≤ a2 := by first | exact c2 | exact Int.not_le.mp c2 | exact Int.not_lt.mp c2 | exact Decidable.not_not.mp c2
      refine st_gr jo_2 jr_2_3 ?_
      refine st_ai jo_10 (show 0 ≤ a1 by omega) (show a1 < ((4 : Nat) : Int) by omega) (fun v3 ev3 b4 => ?_)
      replace ev3 : v3 = h 10 a1 := ev3
      replace b4 := (jba_10 a1 _).1 b4
      have e5 : jw32 (v3 - a3) = v3 - a3 := jzj32 (by omega)
      refine And.intro (fun c6 => ?_) (fun c6 => ?_)
      · replace c6 : jw32 (v3 - a3) < a2 := c6
        show jGo E l 31 229 229 _ 24 [.inr (.inr (.inl 2)), .inl a1, .inl a2, .inl a3] [] 229 jr0 h
        refine jGo_blk qX1_hasPlaces_24 ?_
        show jGo E l 31 229 229 _ 25 [.inr (.inr (.inl 2)), .inl a1, .inl a2, .inl a3] [.inl 0] 229 jr0 h
        refine jGo_blk qX1_hasPlaces_25 ?_
        exact st_r1 (ls := []) (show (0 : Int) = 0 ∨ (0 : Int) = 1 by omega) ⟨rfl, rfl, rfl, 0, rfl, (by omega), (by omega)⟩
      · replace c6 : a2 ≤ jw32 (v3 - a3) := by first | exact c6 | exact Int.not_le.mp c6 | exact Int.not_lt.mp c6 | exact Decidable.not_not.mp c6
        show jGo E l 31 229 229 _ 25 [.inr (.inr (.inl 2)), .inl a1, .inl a2, .inl a3] [.inl 1] 229 jr0 h
        refine jGo_blk qX1_hasPlaces_25 ?_
        exact st_r1 (ls := []) (show (1 : Int) = 0 ∨ (1 : Int) = 1 by omega) ⟨rfl, rfl, rfl, 1, rfl, (by omega), (by omega)⟩

def w_X11_copy (i k : Int) : Prop := (i = 1) ∨ (6 ≤ i ∧ i ≤ 9) ∨ (i = 111 ∧ 9 ≤ k ∧ k ≤ 11)
theorem ws_X11_refused__X11_copy (i k : Int) (q : w_X11_refused i k) : w_X11_copy i k := by
  unfold w_X11_refused at q; unfold w_X11_copy
  exact (Or.inl (by omega))
theorem ws_X7_forget__X11_copy (i k : Int) (q : w_X7_forget i k) : w_X11_copy i k := by
  unfold w_X7_forget at q; unfold w_X11_copy
  exact (Or.inr (Or.inr (by omega)))
def k_X11_copy (a1 : Int) (a2 : Int) (a3 : Int) (a4 : Int) (a5 : Int) (h : JH) (v : Option JV) (r' g : JH) : Prop := r' = jr0 ∧ jfr w_X11_copy h g ∧ ∃ x : Int, v = some (.inl x) ∧ (True) ∧ ((P_X11_copy a1 a2 a3 a4 a5 x h g) ∧ jFg (x < 0) h g)
set_option maxHeartbeats 4000000 in
theorem c_X11_copy {E : JE} {l : Launch} (a1 : Int) (a2 : Int) (a3 : Int) (a4 : Int) (a5 : Int) (h : JH) : jMt E l 32 [.inr (.inr (.inl 0)), .inl a1, .inl a2, .inl a3, .inl a4, .inl a5] 229 jr0 h (k_X11_copy a1 a2 a3 a4 a5 h) := by
  refine jMt0 (nL := 7) (ls := [.inr (.inr (.inl 0)), .inl a1, .inl a2, .inl a3, .inl a4, .inl a5, .inr (.inr (.inr ()))]) (by decide +kernel) (by decide +kernel) (by decide +kernel) rfl rfl ?_
  have f0 : jfr w_X11_copy h h := jfr_rf _ _
  refine jGo_blk qX11_copy_0 ?_
  refine st_cs (na := 2) (st := [.inl 4, .inl a1]) rfl rfl rfl (c_X11_within a1 4 h) rfl ?_
  rintro _ _ _ ⟨rfl, rfl, t1, rfl, ht1, zt1⟩ kt1
  replace kt1 : -2147483648 ≤ t1 ∧ t1 ≤ 2147483647 := kt1
  replace ht1 : 0 ≤ t1 ∧ t1 ≤ 1 := ht1
  replace zt1 : (t1 = 1 ∧ 0 ≤ a1 ∧ a1 < (4 : Int)) ∨ (t1 = 0 ∧ ¬ (0 ≤ a1 ∧ a1 < (4 : Int))) := zt1
  refine And.intro (fun c3 => ?_) (fun c3 => ?_)
  · replace c3 : t1 = 0 := c3
    show jGo E l 32 229 229 _ 16 [.inr (.inr (.inl 0)), .inl a1, .inl a2, .inl a3, .inl a4, .inl a5, .inr (.inr (.inr ()))] [] 229 jr0 h
    refine jGo_blk qX11_copy_16 ?_
    show jGo E l 32 229 229 _ 82 [.inr (.inr (.inl 0)), .inl a1, .inl a2, .inl a3, .inl a4, .inl a5, .inr (.inr (.inr ()))] [.inl (-1)] 229 jr0 h
    refine jGo_blk qX11_copy_82 ?_
    refine And.intro (fun c4 => ?_) (fun c4 => ?_)
    · replace c4 : (-1 : Int) = 0 := c4
      exfalso; omega
    · replace c4 : ¬ (-1 : Int) = 0 := by first | exact c4 | exact Int.not_le.mp c4 | exact Int.not_lt.mp c4 | exact Decidable.not_not.mp c4
      refine st_cv (na := 1) (st := [.inl (-1), .inr (.inr (.inl 0))]) jo_0 rfl rfl rfl (c_X11_refused (-1) h (by omega)) rfl ?_
      rintro _ _ g6 ⟨rfl, ft5, t5, rfl, ht5, zt5⟩ kt5
      replace kt5 : -2147483648 ≤ t5 ∧ t5 ≤ 2147483647 := kt5
      replace ht5 : -7 ≤ t5 ∧ t5 ≤ -1 := ht5
      have fg6 : jfr w_X11_copy h g6 := jfr_tr f0 ft5 ws_X11_refused__X11_copy
      replace zt5 : t5 = (-1 : Int) := zt5
      have hs7 : ∀ i k : Int, 6 ≤ i → i ≤ 9 → g6 i k = h i k := fun i k p1 p2 => (ft5 i k (by unfold w_X11_refused; omega))
      exact st_r0 (ls := []) ⟨rfl, rfl, fg6, t5, rfl, trivial, (by refine ⟨by unfold P_X11_copy; by_cases zz : t5 = -4 <;> first | exact Or.inl ⟨by omega, hs7⟩ | exact Or.inr (Or.inl ⟨by omega, hs7⟩) | exact Or.inr (Or.inr (Or.inl ⟨by omega, hs7⟩)), Or.inr ⟨by omega, fun i k p1 => (ft5 i k (by first | exact p1 | (unfold w_X11_refused; omega)))⟩⟩)⟩
  · replace c3 : ¬ t1 = 0 := by first | exact c3 | exact Int.not_le.mp c3 | exact Int.not_lt.mp c3 | exact Decidable.not_not.mp c3
    refine st_cs (na := 2) (st := [.inl 4, .inl a3]) rfl rfl rfl (c_X11_within a3 4 h) rfl ?_
    rintro _ _ _ ⟨rfl, rfl, t8, rfl, ht8, zt8⟩ kt8
    replace kt8 : -2147483648 ≤ t8 ∧ t8 ≤ 2147483647 := kt8
    replace ht8 : 0 ≤ t8 ∧ t8 ≤ 1 := ht8
    replace zt8 : (t8 = 1 ∧ 0 ≤ a3 ∧ a3 < (4 : Int)) ∨ (t8 = 0 ∧ ¬ (0 ≤ a3 ∧ a3 < (4 : Int))) := zt8
    refine And.intro (fun c10 => ?_) (fun c10 => ?_)
    · replace c10 : ¬ t8 = 0 := c10
      show jGo E l 32 229 229 _ 20 [.inr (.inr (.inl 0)), .inl a1, .inl a2, .inl a3, .inl a4, .inl a5, .inr (.inr (.inr ()))] [] 229 jr0 h
      refine jGo_blk qX11_copy_20 ?_
      refine st_gr jo_0 jr_0_2 ?_
      refine st_cv (na := 1) (st := [.inl a1, .inr (.inr (.inl 2))]) jo_2 rfl rfl rfl (c_X1_isMissing a1 h (by omega)) rfl ?_
      rintro _ _ _ ⟨rfl, rfl, t11, rfl, ht11, zt11⟩ kt11
      replace kt11 : -2147483648 ≤ t11 ∧ t11 ≤ 2147483647 := kt11
      replace ht11 : 0 ≤ t11 ∧ t11 ≤ 1 := ht11
      replace zt11 : (t11 = 1 ∧ h 10 a1 = -1) ∨ (t11 = 0 ∧ 0 ≤ h 10 a1) := zt11
      refine And.intro (fun c13 => ?_) (fun c13 => ?_)
      · replace c13 : ¬ t11 = 0 := c13
        show jGo E l 32 229 229 _ 42 [.inr (.inr (.inl 0)), .inl a1, .inl a2, .inl a3, .inl a4, .inl a5, .inr (.inr (.inr ()))] [] 229 jr0 h
        refine jGo_blk qX11_copy_42 ?_
        show jGo E l 32 229 229 _ 82 [.inr (.inr (.inl 0)), .inl a1, .inl a2, .inl a3, .inl a4, .inl a5, .inr (.inr (.inr ()))] [.inl (-5)] 229 jr0 h
        refine jGo_blk qX11_copy_82 ?_
        refine And.intro (fun c14 => ?_) (fun c14 => ?_)
        · replace c14 : (-5 : Int) = 0 := c14
          exfalso; omega
        · replace c14 : ¬ (-5 : Int) = 0 := by first | exact c14 | exact Int.not_le.mp c14 | exact Int.not_lt.mp c14 | exact Decidable.not_not.mp c14
          refine st_cv (na := 1) (st := [.inl (-5), .inr (.inr (.inl 0))]) jo_0 rfl rfl rfl (c_X11_refused (-5) h (by omega)) rfl ?_
          rintro _ _ g16 ⟨rfl, ft15, t15, rfl, ht15, zt15⟩ kt15
          replace kt15 : -2147483648 ≤ t15 ∧ t15 ≤ 2147483647 := kt15
          replace ht15 : -7 ≤ t15 ∧ t15 ≤ -1 := ht15
          have fg16 : jfr w_X11_copy h g16 := jfr_tr f0 ft15 ws_X11_refused__X11_copy
          replace zt15 : t15 = (-5 : Int) := zt15
          have hs17 : ∀ i k : Int, 6 ≤ i → i ≤ 9 → g16 i k = h i k := fun i k p1 p2 => (ft15 i k (by unfold w_X11_refused; omega))
          exact st_r0 (ls := []) ⟨rfl, rfl, fg16, t15, rfl, trivial, (by refine ⟨by unfold P_X11_copy; by_cases zz : t15 = -4 <;> first | exact Or.inl ⟨by omega, hs17⟩ | exact Or.inr (Or.inl ⟨by omega, hs17⟩) | exact Or.inr (Or.inr (Or.inl ⟨by omega, hs17⟩)), Or.inr ⟨by omega, fun i k p1 => (ft15 i k (by first | exact p1 | (unfold w_X11_refused; omega)))⟩⟩)⟩
      · replace c13 : t11 = 0 := by first | exact c13 | exact Int.not_le.mp c13 | exact Int.not_lt.mp c13 | exact Decidable.not_not.mp c13
        refine st_gr jo_0 jr_0_2 ?_
        refine st_cv (na := 1) (st := [.inl a3, .inr (.inr (.inl 2))]) jo_2 rfl rfl rfl (c_X1_isMissing a3 h (by omega)) rfl ?_
        rintro _ _ _ ⟨rfl, rfl, t18, rfl, ht18, zt18⟩ kt18
        replace kt18 : -2147483648 ≤ t18 ∧ t18 ≤ 2147483647 := kt18
        replace ht18 : 0 ≤ t18 ∧ t18 ≤ 1 := ht18
        replace zt18 : (t18 = 1 ∧ h 10 a3 = -1) ∨ (t18 = 0 ∧ 0 ≤ h 10 a3) := zt18
        refine And.intro (fun c20 => ?_) (fun c20 => ?_)
        · replace c20 : t18 = 0 := c20
          show jGo E l 32 229 229 _ 47 [.inr (.inr (.inl 0)), .inl a1, .inl a2, .inl a3, .inl a4, .inl a5, .inr (.inr (.inr ()))] [] 229 jr0 h
          refine jGo_blk qX11_copy_47 ?_
          refine st_gr jo_0 jr_0_2 ?_
          refine st_cv (na := 3) (st := [.inl a5, .inl a2, .inl a1, .inr (.inr (.inl 2))]) jo_2 rfl rfl rfl (c_X1_hasPlaces a1 a2 a5 h (by omega)) rfl ?_
          rintro _ _ _ ⟨rfl, rfl, t21, rfl, ht21, zt21⟩ kt21
          replace kt21 : -2147483648 ≤ t21 ∧ t21 ≤ 2147483647 := kt21
          replace ht21 : 0 ≤ t21 ∧ t21 ≤ 1 := ht21
          replace zt21 : (t21 = 1 ∧ 0 ≤ a2 ∧ 0 ≤ a5 ∧ a2 + a5 ≤ h 10 a1 ∧ h 10 a1 ≤ 30) ∨ (t21 = 0 ∧ ¬ (0 ≤ a2 ∧ 0 ≤ a5 ∧ a2 + a5 ≤ h 10 a1)) := zt21
          refine And.intro (fun c23 => ?_) (fun c23 => ?_)
          · replace c23 : t21 = 0 := c23
            show jGo E l 32 229 229 _ 76 [.inr (.inr (.inl 0)), .inl a1, .inl a2, .inl a3, .inl a4, .inl a5, .inr (.inr (.inr ()))] [] 229 jr0 h
            refine jGo_blk qX11_copy_76 ?_
            show jGo E l 32 229 229 _ 82 [.inr (.inr (.inl 0)), .inl a1, .inl a2, .inl a3, .inl a4, .inl a5, .inr (.inr (.inr ()))] [.inl (-7)] 229 jr0 h
            refine jGo_blk qX11_copy_82 ?_
            refine And.intro (fun c24 => ?_) (fun c24 => ?_)
            · replace c24 : (-7 : Int) = 0 := c24
              exfalso; omega
            · replace c24 : ¬ (-7 : Int) = 0 := by first | exact c24 | exact Int.not_le.mp c24 | exact Int.not_lt.mp c24 | exact Decidable.not_not.mp c24
              refine st_cv (na := 1) (st := [.inl (-7), .inr (.inr (.inl 0))]) jo_0 rfl rfl rfl (c_X11_refused (-7) h (by omega)) rfl ?_
              rintro _ _ g26 ⟨rfl, ft25, t25, rfl, ht25, zt25⟩ kt25
              replace kt25 : -2147483648 ≤ t25 ∧ t25 ≤ 2147483647 := kt25
              replace ht25 : -7 ≤ t25 ∧ t25 ≤ -1 := ht25
              have fg26 : jfr w_X11_copy h g26 := jfr_tr f0 ft25 ws_X11_refused__X11_copy
              replace zt25 : t25 = (-7 : Int) := zt25
              have hs27 : ∀ i k : Int, 6 ≤ i → i ≤ 9 → g26 i k = h i k := fun i k p1 p2 => (ft25 i k (by unfold w_X11_refused; omega))
              exact st_r0 (ls := []) ⟨rfl, rfl, fg26, t25, rfl, trivial, (by refine ⟨by unfold P_X11_copy; by_cases zz : t25 = -4 <;> first | exact Or.inl ⟨by omega, hs27⟩ | exact Or.inr (Or.inl ⟨by omega, hs27⟩) | exact Or.inr (Or.inr (Or.inl ⟨by omega, hs27⟩)), Or.inr ⟨by omega, fun i k p1 => (ft25 i k (by first | exact p1 | (unfold w_X11_refused; omega)))⟩⟩)⟩
          · replace c23 : ¬ t21 = 0 := by first | exact c23 | exact Int.not_le.mp c23 | exact Int.not_lt.mp c23 | exact Decidable.not_not.mp c23
            refine st_gr jo_0 jr_0_2 ?_
            refine st_cv (na := 3) (st := [.inl a5, .inl a4, .inl a3, .inr (.inr (.inl 2))]) jo_2 rfl rfl rfl (c_X1_hasPlaces a3 a4 a5 h (by omega)) rfl ?_
            rintro _ _ _ ⟨rfl, rfl, t28, rfl, ht28, zt28⟩ kt28
            replace kt28 : -2147483648 ≤ t28 ∧ t28 ≤ 2147483647 := kt28
            replace ht28 : 0 ≤ t28 ∧ t28 ≤ 1 := ht28
            replace zt28 : (t28 = 1 ∧ 0 ≤ a4 ∧ 0 ≤ a5 ∧ a4 + a5 ≤ h 10 a3 ∧ h 10 a3 ≤ 30) ∨ (t28 = 0 ∧ ¬ (0 ≤ a4 ∧ 0 ≤ a5 ∧ a4 + a5 ≤ h 10 a3)) := zt28
            refine And.intro (fun c30 => ?_) (fun c30 => ?_)
            · replace c30 : ¬ t28 = 0 := c30
              show jGo E l 32 229 229 _ 81 [.inr (.inr (.inl 0)), .inl a1, .inl a2, .inl a3, .inl a4, .inl a5, .inr (.inr (.inr ()))] [] 229 jr0 h
              refine jGo_blk qX11_copy_81 ?_
              show jGo E l 32 229 229 _ 82 [.inr (.inr (.inl 0)), .inl a1, .inl a2, .inl a3, .inl a4, .inl a5, .inr (.inr (.inr ()))] [.inl 0] 229 jr0 h
              refine jGo_blk qX11_copy_82 ?_
              refine And.intro (fun c31 => ?_) (fun c31 => ?_)
              · replace c31 : (0 : Int) = 0 := c31
                show jGo E l 32 229 229 _ 96 [.inr (.inr (.inl 0)), .inl a1, .inl a2, .inl a3, .inl a4, .inl a5, .inl 0] [] 229 jr0 h
                refine jGo_blk qX11_copy_96 ?_
                refine st_gr jo_0 jr_0_11 ?_
                refine st_cv (na := 0) (st := [.inr (.inr (.inl 111))]) jo_111 rfl rfl rfl (c_X7_forget h) rfl ?_
                rintro _ _ g33 ⟨rfl, ft32, rfl, zt32⟩ kt32
                have fg33 : jfr w_X11_copy h g33 := jfr_tr f0 ft32 ws_X7_forget__X11_copy
                replace zt32 : g33 111 9 = 0 ∧ g33 111 10 = 0 ∧ g33 111 11 = 0 := zt32
                refine st_gr jo_0 jr_0_2 ?_
                refine st_gr jo_2 jr_2_2 ?_
                refine st_ar jo_5 (by decide) (show 0 ≤ a1 by omega) (show a1 < ((4 : Nat) : Int) by omega) (fun u34 eu34 => ?_)
                replace eu34 : u34 = jr0 5 a1 := eu34
                have qu34 : u34 = 6 + a1 := eu34.trans (jrow_5 a1 (by omega) (by omega)).1
                have ou34 : jF 229 u34 1 30 := by rw [eu34]; exact (jrow_5 a1 (by omega) (by omega)).2.1
                have wu34 : ∀ j v : Int, jbd u34 j v ↔ (0 ≤ v ∧ v ≤ 400) := by rw [eu34]; exact (jrow_5 a1 (by omega) (by omega)).2.2
                refine st_gr jo_0 jr_0_2 ?_
                refine st_gr jo_2 jr_2_2 ?_
                refine st_ar jo_5 (by decide) (show 0 ≤ a3 by omega) (show a3 < ((4 : Nat) : Int) by omega) (fun u35 eu35 => ?_)
                replace eu35 : u35 = jr0 5 a3 := eu35
                have qu35 : u35 = 6 + a3 := eu35.trans (jrow_5 a3 (by omega) (by omega)).1
                have ou35 : jF 229 u35 1 30 := by rw [eu35]; exact (jrow_5 a3 (by omega) (by omega)).2.1
                have wu35 : ∀ j v : Int, jbd u35 j v ↔ (0 ≤ v ∧ v ≤ 400) := by rw [eu35]; exact (jrow_5 a3 (by omega) (by omega)).2.2
                refine st_cp ou35 ou34 (show 0 ≤ a2 by omega) (show 0 ≤ a4 by omega) (show 0 ≤ a5 by omega) (show a2 + a5 ≤ ((30 : Nat) : Int) by omega) (show a4 + a5 ≤ ((30 : Nat) : Int) by omega) rfl (fun hg j _ _ => (wu35 _ _).2 ((wu34 _ _).1 (hg _ _))) (fun g36 eg36 => ?_)
                replace eg36 : g36 = jcp g33 u34 a2 u35 a4 a5 := eg36
                have fg36 : jfr w_X11_copy h g36 := jfr_cp fg33 eg36 (fun _ => by unfold w_X11_copy; omega)
                have hs37 : ∀ k : Int, a4 ≤ k → k < a4 + a5 → g36 (6 + a3) k = h (6 + a1) (a2 + (k - a4)) := fun k p1 p2 => by
                  rw [show 6 + a3 = u35 by omega, show 6 + a1 = u34 by omega]
                  exact (jcp_s eg36 p1 p2).trans (ft32 u34 (a2 + (k - a4)) (by unfold w_X7_forget; omega))
                have hs38 : ∀ i k : Int, 6 ≤ i → i ≤ 9 → ¬ (i = 6 + a3 ∧ a4 ≤ k ∧ k < a4 + a5) → g36 i k = h i k := fun i k p1 p2 p3 => ((jcp_o eg36 (by omega)).trans (ft32 i k (by unfold w_X7_forget; omega)))
                exact st_r0 (ls := []) ⟨rfl, rfl, fg36, a5, rfl, trivial, (by refine ⟨by unfold P_X11_copy; first | exact Or.inr (Or.inr (Or.inr ⟨by omega, ⟨hs37, hs38⟩⟩)), Or.inl ?_⟩; exact ⟨((jcp_o eg36 (by omega))).trans zt32.1, ((jcp_o eg36 (by omega))).trans zt32.2.1, ((jcp_o eg36 (by omega))).trans zt32.2.2⟩)⟩
              · replace c31 : ¬ (0 : Int) = 0 := by first | exact c31 | exact Int.not_le.mp c31 | exact Int.not_lt.mp c31 | exact Decidable.not_not.mp c31
                exfalso; omega
            · replace c30 : t28 = 0 := by first | exact c30 | exact Int.not_le.mp c30 | exact Int.not_lt.mp c30 | exact Decidable.not_not.mp c30
              show jGo E l 32 229 229 _ 76 [.inr (.inr (.inl 0)), .inl a1, .inl a2, .inl a3, .inl a4, .inl a5, .inr (.inr (.inr ()))] [] 229 jr0 h
              refine jGo_blk qX11_copy_76 ?_
              show jGo E l 32 229 229 _ 82 [.inr (.inr (.inl 0)), .inl a1, .inl a2, .inl a3, .inl a4, .inl a5, .inr (.inr (.inr ()))] [.inl (-7)] 229 jr0 h
              refine jGo_blk qX11_copy_82 ?_
              refine And.intro (fun c39 => ?_) (fun c39 => ?_)
              · replace c39 : (-7 : Int) = 0 := c39
                exfalso; omega
              · replace c39 : ¬ (-7 : Int) = 0 := by first | exact c39 | exact Int.not_le.mp c39 | exact Int.not_lt.mp c39 | exact Decidable.not_not.mp c39
                refine st_cv (na := 1) (st := [.inl (-7), .inr (.inr (.inl 0))]) jo_0 rfl rfl rfl (c_X11_refused (-7) h (by omega)) rfl ?_
                rintro _ _ g41 ⟨rfl, ft40, t40, rfl, ht40, zt40⟩ kt40
                replace kt40 : -2147483648 ≤ t40 ∧ t40 ≤ 2147483647 := kt40
                replace ht40 : -7 ≤ t40 ∧ t40 ≤ -1 := ht40
                have fg41 : jfr w_X11_copy h g41 := jfr_tr f0 ft40 ws_X11_refused__X11_copy
                replace zt40 : t40 = (-7 : Int) := zt40
                have hs42 : ∀ i k : Int, 6 ≤ i → i ≤ 9 → g41 i k = h i k := fun i k p1 p2 => (ft40 i k (by unfold w_X11_refused; omega))
                exact st_r0 (ls := []) ⟨rfl, rfl, fg41, t40, rfl, trivial, (by refine ⟨by unfold P_X11_copy; by_cases zz : t40 = -4 <;> first | exact Or.inl ⟨by omega, hs42⟩ | exact Or.inr (Or.inl ⟨by omega, hs42⟩) | exact Or.inr (Or.inr (Or.inl ⟨by omega, hs42⟩)), Or.inr ⟨by omega, fun i k p1 => (ft40 i k (by first | exact p1 | (unfold w_X11_refused; omega)))⟩⟩)⟩
        · replace c20 : ¬ t18 = 0 := by first | exact c20 | exact Int.not_le.mp c20 | exact Int.not_lt.mp c20 | exact Decidable.not_not.mp c20
          show jGo E l 32 229 229 _ 42 [.inr (.inr (.inl 0)), .inl a1, .inl a2, .inl a3, .inl a4, .inl a5, .inr (.inr (.inr ()))] [] 229 jr0 h
          refine jGo_blk qX11_copy_42 ?_
          show jGo E l 32 229 229 _ 82 [.inr (.inr (.inl 0)), .inl a1, .inl a2, .inl a3, .inl a4, .inl a5, .inr (.inr (.inr ()))] [.inl (-5)] 229 jr0 h
          refine jGo_blk qX11_copy_82 ?_
          refine And.intro (fun c43 => ?_) (fun c43 => ?_)
          · replace c43 : (-5 : Int) = 0 := c43
            exfalso; omega
          · replace c43 : ¬ (-5 : Int) = 0 := by first | exact c43 | exact Int.not_le.mp c43 | exact Int.not_lt.mp c43 | exact Decidable.not_not.mp c43
            refine st_cv (na := 1) (st := [.inl (-5), .inr (.inr (.inl 0))]) jo_0 rfl rfl rfl (c_X11_refused (-5) h (by omega)) rfl ?_
            rintro _ _ g45 ⟨rfl, ft44, t44, rfl, ht44, zt44⟩ kt44
            replace kt44 : -2147483648 ≤ t44 ∧ t44 ≤ 2147483647 := kt44
            replace ht44 : -7 ≤ t44 ∧ t44 ≤ -1 := ht44
            have fg45 : jfr w_X11_copy h g45 := jfr_tr f0 ft44 ws_X11_refused__X11_copy
            replace zt44 : t44 = (-5 : Int) := zt44
            have hs46 : ∀ i k : Int, 6 ≤ i → i ≤ 9 → g45 i k = h i k := fun i k p1 p2 => (ft44 i k (by unfold w_X11_refused; omega))
            exact st_r0 (ls := []) ⟨rfl, rfl, fg45, t44, rfl, trivial, (by refine ⟨by unfold P_X11_copy; by_cases zz : t44 = -4 <;> first | exact Or.inl ⟨by omega, hs46⟩ | exact Or.inr (Or.inl ⟨by omega, hs46⟩) | exact Or.inr (Or.inr (Or.inl ⟨by omega, hs46⟩)), Or.inr ⟨by omega, fun i k p1 => (ft44 i k (by first | exact p1 | (unfold w_X11_refused; omega)))⟩⟩)⟩
    · replace c10 : t8 = 0 := by first | exact c10 | exact Int.not_le.mp c10 | exact Int.not_lt.mp c10 | exact Decidable.not_not.mp c10
      show jGo E l 32 229 229 _ 16 [.inr (.inr (.inl 0)), .inl a1, .inl a2, .inl a3, .inl a4, .inl a5, .inr (.inr (.inr ()))] [] 229 jr0 h
      refine jGo_blk qX11_copy_16 ?_
      show jGo E l 32 229 229 _ 82 [.inr (.inr (.inl 0)), .inl a1, .inl a2, .inl a3, .inl a4, .inl a5, .inr (.inr (.inr ()))] [.inl (-1)] 229 jr0 h
      refine jGo_blk qX11_copy_82 ?_
      refine And.intro (fun c47 => ?_) (fun c47 => ?_)
      · replace c47 : (-1 : Int) = 0 := c47
        exfalso; omega
      · replace c47 : ¬ (-1 : Int) = 0 := by first | exact c47 | exact Int.not_le.mp c47 | exact Int.not_lt.mp c47 | exact Decidable.not_not.mp c47
        refine st_cv (na := 1) (st := [.inl (-1), .inr (.inr (.inl 0))]) jo_0 rfl rfl rfl (c_X11_refused (-1) h (by omega)) rfl ?_
        rintro _ _ g49 ⟨rfl, ft48, t48, rfl, ht48, zt48⟩ kt48
        replace kt48 : -2147483648 ≤ t48 ∧ t48 ≤ 2147483647 := kt48
        replace ht48 : -7 ≤ t48 ∧ t48 ≤ -1 := ht48
        have fg49 : jfr w_X11_copy h g49 := jfr_tr f0 ft48 ws_X11_refused__X11_copy
        replace zt48 : t48 = (-1 : Int) := zt48
        have hs50 : ∀ i k : Int, 6 ≤ i → i ≤ 9 → g49 i k = h i k := fun i k p1 p2 => (ft48 i k (by unfold w_X11_refused; omega))
        exact st_r0 (ls := []) ⟨rfl, rfl, fg49, t48, rfl, trivial, (by refine ⟨by unfold P_X11_copy; by_cases zz : t48 = -4 <;> first | exact Or.inl ⟨by omega, hs50⟩ | exact Or.inr (Or.inl ⟨by omega, hs50⟩) | exact Or.inr (Or.inr (Or.inl ⟨by omega, hs50⟩)), Or.inr ⟨by omega, fun i k p1 => (ft48 i k (by first | exact p1 | (unfold w_X11_refused; omega)))⟩⟩)⟩
