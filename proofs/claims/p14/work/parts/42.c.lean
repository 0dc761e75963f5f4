def w_X12_lose (i k : Int) : Prop := (i = 179) ∨ (i = 219)
def k_X12_lose (a1 : Int) (h : JH) (v : Option JV) (r' g : JH) : Prop := r' = jr0 ∧ jfr w_X12_lose h g ∧ ∃ x : Int, v = some (.inl x) ∧ (-7 ≤ x ∧ x ≤ 1) ∧ (P_X12_lose a1 x h g)
set_option maxHeartbeats 4000000 in
theorem c_X12_lose {E : JE} {l : Launch} (a1 : Int) (h : JH) : jMt E l 28 [.inr (.inr (.inl 176)), .inl a1] 229 jr0 h (k_X12_lose a1 h) := by
  refine jMt0 (nL := 3) (ls := [.inr (.inr (.inl 176)), .inl a1, .inr (.inr (.inr ()))]) (by decide +kernel) (by decide +kernel) (by decide +kernel) rfl rfl ?_
  have f0 : jfr w_X12_lose h h := jfr_rf _ _
  refine jGo_blk qX12_lose_0 ?_
  refine st_cs (na := 3) (st := [.inl 3, .inl 0, .inl a1]) rfl rfl rfl (c_X12_in a1 0 3 h) rfl ?_
  rintro _ _ _ ⟨rfl, rfl, t1, rfl, ht1, zt1⟩ kt1
  replace kt1 : -2147483648 ≤ t1 ∧ t1 ≤ 2147483647 := kt1
  replace ht1 : 0 ≤ t1 ∧ t1 ≤ 1 := ht1
  replace zt1 : (t1 = 1 ∧ (0 : Int) ≤ a1 ∧ a1 ≤ (3 : Int)) ∨ (t1 = 0 ∧ ¬ ((0 : Int) ≤ a1 ∧ a1 ≤ (3 : Int))) := zt1
  refine And.intro (fun c3 => ?_) (fun c3 => ?_)
  · replace c3 : ¬ t1 = 0 := c3
    show jGo E l 28 229 229 _ 15 [.inr (.inr (.inl 176)), .inl a1, .inr (.inr (.inr ()))] [] 229 jr0 h
    refine jGo_blk qX12_lose_15 ?_
    refine st_gr jo_176 jr_176_3 ?_
    refine st_ai jo_179 (show 0 ≤ a1 by omega) (show a1 < ((4 : Nat) : Int) by omega) (fun v4 ev4 b5 => ?_)
    replace ev4 : v4 = h 179 a1 := ev4
    replace b5 := (jba_179 a1 _).1 b5
    refine st_gr jo_176 jr_176_3 ?_
    refine st_si jo_179 (show 0 ≤ a1 by omega) (show a1 < ((4 : Nat) : Int) by omega) (fun hx => (jba_179 _ _).2 (show -1 ≤ (-1) ∧ (-1) ≤ 30 by omega)) (fun g6 eg6 => ?_)
    replace eg6 : g6 = jup h 179 a1 (-1) := eg6
    have fg6 : jfr w_X12_lose h g6 := jfr_up f0 eg6 (by unfold w_X12_lose; omega)
    have e7 : g6 179 a1 = (-1) := jup_s eg6
    refine And.intro (fun c8 => ?_) (fun c8 => ?_)
    · replace c8 : 0 ≤ v4 := c8
      show jGo E l 28 229 229 _ 37 [.inr (.inr (.inl 176)), .inl a1, .inl v4] [] 229 jr0 g6
      refine jGo_blk qX12_lose_37 ?_
      show jGo E l 28 229 229 _ 38 [.inr (.inr (.inl 176)), .inl a1, .inl v4] [.inl 1] 229 jr0 g6
      refine jGo_blk qX12_lose_38 ?_
      have hs9 : g6 179 a1 = (-1) := by
        exact jup_s eg6
      have hs10 : ∀ i k : Int, 179 ≤ i → i ≤ 179 → ¬ (i = 179 ∧ k = a1) → g6 i k = h i k := fun i k p1 p2 p3 => (jup_o eg6 (by omega))
      exact st_r0 (ls := []) ⟨rfl, rfl, fg6, 1, rfl, (by omega), (by unfold P_X12_lose; first | exact Or.inr ⟨by omega, ⟨hs9, hs10⟩⟩)⟩
    · replace c8 : v4 < 0 := by first | exact c8 | exact Int.not_le.mp c8 | exact Int.not_lt.mp c8 | exact Decidable.not_not.mp c8
      show jGo E l 28 229 229 _ 38 [.inr (.inr (.inl 176)), .inl a1, .inl v4] [.inl 0] 229 jr0 g6
      refine jGo_blk qX12_lose_38 ?_
      have hs11 : g6 179 a1 = (-1) := by
        exact jup_s eg6
      have hs12 : ∀ i k : Int, 179 ≤ i → i ≤ 179 → ¬ (i = 179 ∧ k = a1) → g6 i k = h i k := fun i k p1 p2 p3 => (jup_o eg6 (by omega))
      exact st_r0 (ls := []) ⟨rfl, rfl, fg6, 0, rfl, (by omega), (by unfold P_X12_lose; first | exact Or.inr ⟨by omega, ⟨hs11, hs12⟩⟩)⟩
  · replace c3 : t1 = 0 := by first | exact c3 | exact Int.not_le.mp c3 | exact Int.not_lt.mp c3 | exact Decidable.not_not.mp c3
    refine st_cv (na := 1) (st := [.inl (-1), .inr (.inr (.inl 176))]) jo_176 rfl rfl rfl (c_X12_refuse (-1) h (by omega)) rfl ?_
    rintro _ _ g14 ⟨rfl, ft13, t13, rfl, ht13, zt13⟩ kt13
    replace kt13 : -2147483648 ≤ t13 ∧ t13 ≤ 2147483647 := kt13
    replace ht13 : -7 ≤ t13 ∧ t13 ≤ -1 := ht13
    have fg14 : jfr w_X12_lose h g14 := jfr_tr f0 ft13 (fun i k q => by unfold w_X12_refuse at q; unfold w_X12_lose; omega)
    replace zt13 : t13 = (-1 : Int) := zt13
    have hs15 : ∀ i k : Int, 179 ≤ i → i ≤ 179 → g14 i k = h i k := fun i k p1 p2 => (ft13 i k (by unfold w_X12_refuse; omega))
    exact st_r0 (ls := []) ⟨rfl, rfl, fg14, t13, rfl, (by omega), (by unfold P_X12_lose; by_cases zz : t13 = -4 <;> first | exact Or.inl ⟨by omega, hs15⟩)⟩

def w_X11_put (i k : Int) : Prop := (i = 1) ∨ (6 ≤ i ∧ i ≤ 9) ∨ (i = 111 ∧ 9 ≤ k ∧ k ≤ 11)
def k_X11_put (a1 : Int) (a2 : Int) (a3 : Int) (h : JH) (v : Option JV) (r' g : JH) : Prop := r' = jr0 ∧ jfr w_X11_put h g ∧ ∃ x : Int, v = some (.inl x) ∧ (-7 ≤ x ∧ x ≤ 400) ∧ (True)
set_option maxHeartbeats 4000000 in
theorem c_X11_put {E : JE} {l : Launch} (a1 : Int) (a2 : Int) (a3 : Int) (h : JH) : jMt E l 29 [.inr (.inr (.inl 0)), .inl a1, .inl a2, .inl a3] 229 jr0 h (k_X11_put a1 a2 a3 h) := by
  refine jMt0 (nL := 6) (ls := [.inr (.inr (.inl 0)), .inl a1, .inl a2, .inl a3, .inr (.inr (.inr ())), .inr (.inr (.inr ()))]) (by decide +kernel) (by decide +kernel) (by decide +kernel) rfl rfl ?_
  have f0 : jfr w_X11_put h h := jfr_rf _ _
  refine jGo_blk qX11_put_0 ?_
  refine st_cs (na := 2) (st := [.inl 4, .inl a1]) rfl rfl rfl (c_X11_within a1 4 h) rfl ?_
  rintro _ _ _ ⟨rfl, rfl, t1, rfl, ht1, zt1⟩ kt1
  replace kt1 : -2147483648 ≤ t1 ∧ t1 ≤ 2147483647 := kt1
  replace ht1 : 0 ≤ t1 ∧ t1 ≤ 1 := ht1
  replace zt1 : (t1 = 1 ∧ 0 ≤ a1 ∧ a1 < (4 : Int)) ∨ (t1 = 0 ∧ ¬ (0 ≤ a1 ∧ a1 < (4 : Int))) := zt1
  refine And.intro (fun c3 => ?_) (fun c3 => ?_)
  · replace c3 : ¬ t1 = 0 := c3
    show jGo E l 29 229 229 _ 12 [.inr (.inr (.inl 0)), .inl a1, .inl a2, .inl a3, .inr (.inr (.inr ())), .inr (.inr (.inr ()))] [] 229 jr0 h
    refine jGo_blk qX11_put_12 ?_
    refine st_gr jo_0 jr_0_2 ?_
    refine st_cv (na := 1) (st := [.inl a1, .inr (.inr (.inl 2))]) jo_2 rfl rfl rfl (c_X1_isMissing a1 h (by omega)) rfl ?_
    rintro _ _ _ ⟨rfl, rfl, t4, rfl, ht4, zt4⟩ kt4
    replace kt4 : -2147483648 ≤ t4 ∧ t4 ≤ 2147483647 := kt4
    replace ht4 : 0 ≤ t4 ∧ t4 ≤ 1 := ht4
    replace zt4 : (t4 = 1 ∧ h 10 a1 = -1) ∨ (t4 = 0 ∧ 0 ≤ h 10 a1) := zt4
    refine And.intro (fun c6 => ?_) (fun c6 => ?_)
    · replace c6 : t4 = 0 := c6
      show jGo E l 29 229 229 _ 28 [.inr (.inr (.inl 0)), .inl a1, .inl a2, .inl a3, .inr (.inr (.inr ())), .inr (.inr (.inr ()))] [] 229 jr0 h
      refine jGo_blk qX11_put_28 ?_
      refine st_gr jo_0 jr_0_2 ?_
      refine st_gr jo_2 jr_2_3 ?_
      refine st_ai jo_10 (show 0 ≤ a1 by omega) (show a1 < ((4 : Nat) : Int) by omega) (fun v7 ev7 b8 => ?_)
      replace ev7 : v7 = h 10 a1 := ev7
      replace b8 := (jba_10 a1 _).1 b8
      refine st_cs (na := 2) (st := [.inl v7, .inl a2]) rfl rfl rfl (c_X11_within a2 v7 h) rfl ?_
      rintro _ _ _ ⟨rfl, rfl, t9, rfl, ht9, zt9⟩ kt9
      replace kt9 : -2147483648 ≤ t9 ∧ t9 ≤ 2147483647 := kt9
      replace ht9 : 0 ≤ t9 ∧ t9 ≤ 1 := ht9
      replace zt9 : (t9 = 1 ∧ 0 ≤ a2 ∧ a2 < v7) ∨ (t9 = 0 ∧ ¬ (0 ≤ a2 ∧ a2 < v7)) := zt9
      refine And.intro (fun c11 => ?_) (fun c11 => ?_)
      · replace c11 : ¬ t9 = 0 := c11
        show jGo E l 29 229 229 _ 49 [.inr (.inr (.inl 0)), .inl a1, .inl a2, .inl a3, .inr (.inr (.inr ())), .inr (.inr (.inr ()))] [] 229 jr0 h
        refine jGo_blk qX11_put_49 ?_
        refine st_cs (na := 3) (st := [.inl 400, .inl 0, .inl a3]) rfl rfl rfl (c_X11_outside a3 0 400 h) rfl ?_
        rintro _ _ _ ⟨rfl, rfl, t12, rfl, ht12, zt12⟩ kt12
        replace kt12 : -2147483648 ≤ t12 ∧ t12 ≤ 2147483647 := kt12
        replace ht12 : -6 ≤ t12 ∧ t12 ≤ 0 := ht12
        replace zt12 : (t12 = -4 ∧ a3 < (0 : Int)) ∨ (t12 = -6 ∧ (0 : Int) ≤ a3 ∧ (400 : Int) < a3) ∨ (t12 = 0 ∧ (0 : Int) ≤ a3 ∧ a3 ≤ (400 : Int)) := zt12
        show jGo E l 29 229 229 _ 57 [.inr (.inr (.inl 0)), .inl a1, .inl a2, .inl a3, .inr (.inr (.inr ())), .inr (.inr (.inr ()))] [.inl t12] 229 jr0 h
        refine jGo_blk qX11_put_57 ?_
        refine And.intro (fun c14 => ?_) (fun c14 => ?_)
        · replace c14 : t12 = 0 := c14
          show jGo E l 29 229 229 _ 71 [.inr (.inr (.inl 0)), .inl a1, .inl a2, .inl a3, .inl t12, .inr (.inr (.inr ()))] [] 229 jr0 h
          refine jGo_blk qX11_put_71 ?_
          refine st_gr jo_0 jr_0_11 ?_
          refine st_cv (na := 0) (st := [.inr (.inr (.inl 111))]) jo_111 rfl rfl rfl (c_X7_forget h) rfl ?_
          rintro _ _ g16 ⟨rfl, ft15, rfl, zt15⟩ kt15
          have fg16 : jfr w_X11_put h g16 := jfr_tr f0 ft15 (fun i k q => by unfold w_X7_forget at q; unfold w_X11_put; omega)
          refine st_gr jo_0 jr_0_2 ?_
          refine st_gr jo_2 jr_2_2 ?_
          refine st_ar jo_5 (by decide) (show 0 ≤ a1 by omega) (show a1 < ((4 : Nat) : Int) by omega) (fun u17 eu17 => ?_)
          replace eu17 : u17 = jr0 5 a1 := eu17
          have qu17 : u17 = 6 + a1 := eu17.trans (jrow_5 a1 (by omega) (by omega)).1
          have ou17 : jF 229 u17 1 30 := by rw [eu17]; exact (jrow_5 a1 (by omega) (by omega)).2.1
          have wu17 : ∀ j v : Int, jbd u17 j v ↔ (0 ≤ v ∧ v ≤ 400) := by rw [eu17]; exact (jrow_5 a1 (by omega) (by omega)).2.2
          refine st_ai ou17 (show 0 ≤ a2 by omega) (show a2 < ((30 : Nat) : Int) by omega) (fun v18 ev18 b19 => ?_)
          replace ev18 : v18 = g16 u17 a2 := ev18
          replace b19 := (wu17 a2 _).1 b19
          refine st_gr jo_0 jr_0_2 ?_
          refine st_gr jo_2 jr_2_2 ?_
          refine st_ar jo_5 (by decide) (show 0 ≤ a1 by omega) (show a1 < ((4 : Nat) : Int) by omega) (fun u20 eu20 => ?_)
          replace eu20 : u20 = jr0 5 a1 := eu20
          have qu20 : u20 = 6 + a1 := eu20.trans (jrow_5 a1 (by omega) (by omega)).1
          have ou20 : jF 229 u20 1 30 := by rw [eu20]; exact (jrow_5 a1 (by omega) (by omega)).2.1
          have wu20 : ∀ j v : Int, jbd u20 j v ↔ (0 ≤ v ∧ v ≤ 400) := by rw [eu20]; exact (jrow_5 a1 (by omega) (by omega)).2.2
          refine st_si ou20 (show 0 ≤ a2 by omega) (show a2 < ((30 : Nat) : Int) by omega) (fun hx => (wu20 _ _).2 (show 0 ≤ a3 ∧ a3 ≤ 400 by omega)) (fun g21 eg21 => ?_)
          replace eg21 : g21 = jup g16 u20 a2 a3 := eg21
          have fg21 : jfr w_X11_put h g21 := jfr_up fg16 eg21 (by unfold w_X11_put; omega)
          have e22 : g21 u20 a2 = a3 := jup_s eg21
          exact st_r0 (ls := []) ⟨rfl, rfl, fg21, v18, rfl, (by omega), trivial⟩
        · replace c14 : ¬ t12 = 0 := by first | exact c14 | exact Int.not_le.mp c14 | exact Int.not_lt.mp c14 | exact Decidable.not_not.mp c14
          refine st_cv (na := 1) (st := [.inl t12, .inr (.inr (.inl 0))]) jo_0 rfl rfl rfl (c_X11_refused t12 h (by omega)) rfl ?_
          rintro _ _ g24 ⟨rfl, ft23, t23, rfl, ht23, zt23⟩ kt23
          replace kt23 : -2147483648 ≤ t23 ∧ t23 ≤ 2147483647 := kt23
          replace ht23 : -7 ≤ t23 ∧ t23 ≤ -1 := ht23
          have fg24 : jfr w_X11_put h g24 := jfr_tr f0 ft23 (fun i k q => by unfold w_X11_refused at q; unfold w_X11_put; omega)
          replace zt23 : t23 = t12 := zt23
          exact st_r0 (ls := []) ⟨rfl, rfl, fg24, t23, rfl, (by omega), trivial⟩
      · replace c11 : t9 = 0 := by first | exact c11 | exact Int.not_le.mp c11 | exact Int.not_lt.mp c11 | exact Decidable.not_not.mp c11
        show jGo E l 29 229 229 _ 57 [.inr (.inr (.inl 0)), .inl a1, .inl a2, .inl a3, .inr (.inr (.inr ())), .inr (.inr (.inr ()))] [.inl (-7)] 229 jr0 h
        refine jGo_blk qX11_put_57 ?_
        refine And.intro (fun c25 => ?_) (fun c25 => ?_)
        · replace c25 : (-7 : Int) = 0 := c25
          exfalso; omega
        · replace c25 : ¬ (-7 : Int) = 0 := by first | exact c25 | exact Int.not_le.mp c25 | exact Int.not_lt.mp c25 | exact Decidable.not_not.mp c25
          refine st_cv (na := 1) (st := [.inl (-7), .inr (.inr (.inl 0))]) jo_0 rfl rfl rfl (c_X11_refused (-7) h (by omega)) rfl ?_
          rintro _ _ g27 ⟨rfl, ft26, t26, rfl, ht26, zt26⟩ kt26
          replace kt26 : -2147483648 ≤ t26 ∧ t26 ≤ 2147483647 := kt26
          replace ht26 : -7 ≤ t26 ∧ t26 ≤ -1 := ht26
          have fg27 : jfr w_X11_put h g27 := jfr_tr f0 ft26 (fun i k q => by unfold w_X11_refused at q; unfold w_X11_put; omega)
          replace zt26 : t26 = (-7 : Int) := zt26
          exact st_r0 (ls := []) ⟨rfl, rfl, fg27, t26, rfl, (by omega), trivial⟩
    · replace c6 : ¬ t4 = 0 := by first | exact c6 | exact Int.not_le.mp c6 | exact Int.not_lt.mp c6 | exact Decidable.not_not.mp c6
      show jGo E l 29 229 229 _ 57 [.inr (.inr (.inl 0)), .inl a1, .inl a2, .inl a3, .inr (.inr (.inr ())), .inr (.inr (.inr ()))] [.inl (-5)] 229 jr0 h
      refine jGo_blk qX11_put_57 ?_
      refine And.intro (fun c28 => ?_) (fun c28 => ?_)
      · replace c28 : (-5 : Int) = 0 := c28
        exfalso; omega
      · replace c28 : ¬ (-5 : Int) = 0 := by first | exact c28 | exact Int.not_le.mp c28 | exact Int.not_lt.mp c28 | exact Decidable.not_not.mp c28
        refine st_cv (na := 1) (st := [.inl (-5), .inr (.inr (.inl 0))]) jo_0 rfl rfl rfl (c_X11_refused (-5) h (by omega)) rfl ?_
        rintro _ _ g30 ⟨rfl, ft29, t29, rfl, ht29, zt29⟩ kt29
        replace kt29 : -2147483648 ≤ t29 ∧ t29 ≤ 2147483647 := kt29
        replace ht29 : -7 ≤ t29 ∧ t29 ≤ -1 := ht29
        have fg30 : jfr w_X11_put h g30 := jfr_tr f0 ft29 (fun i k q => by unfold w_X11_refused at q; unfold w_X11_put; omega)
        replace zt29 : t29 = (-5 : Int) := zt29
        exact st_r0 (ls := []) ⟨rfl, rfl, fg30, t29, rfl, (by omega), trivial⟩
  · replace c3 : t1 = 0 := by first | exact c3 | exact Int.not_le.mp c3 | exact Int.not_lt.mp c3 | exact Decidable.not_not.mp c3
    show jGo E l 29 229 229 _ 57 [.inr (.inr (.inl 0)), .inl a1, .inl a2, .inl a3, .inr (.inr (.inr ())), .inr (.inr (.inr ()))] [.inl (-1)] 229 jr0 h
    refine jGo_blk qX11_put_57 ?_
    refine And.intro (fun c31 => ?_) (fun c31 => ?_)
    · replace c31 : (-1 : Int) = 0 := c31
      exfalso; omega
    · replace c31 : ¬ (-1 : Int) = 0 := by first | exact c31 | exact Int.not_le.mp c31 | exact Int.not_lt.mp c31 | exact Decidable.not_not.mp c31
      refine st_cv (na := 1) (st := [.inl (-1), .inr (.inr (.inl 0))]) jo_0 rfl rfl rfl (c_X11_refused (-1) h (by omega)) rfl ?_
      rintro _ _ g33 ⟨rfl, ft32, t32, rfl, ht32, zt32⟩ kt32
      replace kt32 : -2147483648 ≤ t32 ∧ t32 ≤ 2147483647 := kt32
      replace ht32 : -7 ≤ t32 ∧ t32 ≤ -1 := ht32
      have fg33 : jfr w_X11_put h g33 := jfr_tr f0 ft32 (fun i k q => by unfold w_X11_refused at q; unfold w_X11_put; omega)
      replace zt32 : t32 = (-1 : Int) := zt32
      exact st_r0 (ls := []) ⟨rfl, rfl, fg33, t32, rfl, (by omega), trivial⟩

def w_X12_put (i k : Int) : Prop := (i = 180) ∨ (i = 219)
def k_X12_put (a1 : Int) (a2 : Int) (a3 : Int) (h : JH) (v : Option JV) (r' g : JH) : Prop := r' = jr0 ∧ jfr w_X12_put h g ∧ ∃ x : Int, v = some (.inl x) ∧ (-7 ≤ x ∧ x ≤ 400) ∧ (True)
set_option maxHeartbeats 4000000 in
theorem c_X12_put {E : JE} {l : Launch} (a1 : Int) (a2 : Int) (a3 : Int) (h : JH) : jMt E l 30 [.inr (.inr (.inl 176)), .inl a1, .inl a2, .inl a3] 229 jr0 h (k_X12_put a1 a2 a3 h) := by
  refine jMt0 (nL := 5) (ls := [.inr (.inr (.inl 176)), .inl a1, .inl a2, .inl a3, .inr (.inr (.inr ()))]) (by decide +kernel) (by decide +kernel) (by decide +kernel) rfl rfl ?_
  have f0 : jfr w_X12_put h h := jfr_rf _ _
  refine jGo_blk qX12_put_0 ?_
  refine st_cs (na := 3) (st := [.inl 3, .inl 0, .inl a1]) rfl rfl rfl (c_X12_in a1 0 3 h) rfl ?_
  rintro _ _ _ ⟨rfl, rfl, t1, rfl, ht1, zt1⟩ kt1
  replace kt1 : -2147483648 ≤ t1 ∧ t1 ≤ 2147483647 := kt1
  replace ht1 : 0 ≤ t1 ∧ t1 ≤ 1 := ht1
  replace zt1 : (t1 = 1 ∧ (0 : Int) ≤ a1 ∧ a1 ≤ (3 : Int)) ∨ (t1 = 0 ∧ ¬ ((0 : Int) ≤ a1 ∧ a1 ≤ (3 : Int))) := zt1
  refine And.intro (fun c3 => ?_) (fun c3 => ?_)
  · replace c3 : ¬ t1 = 0 := c3
    show jGo E l 30 229 229 _ 15 [.inr (.inr (.inl 176)), .inl a1, .inl a2, .inl a3, .inr (.inr (.inr ()))] [] 229 jr0 h
    refine jGo_blk qX12_put_15 ?_
    refine st_gr jo_176 jr_176_3 ?_
    refine st_ai jo_179 (show 0 ≤ a1 by omega) (show a1 < ((4 : Nat) : Int) by omega) (fun v4 ev4 b5 => ?_)
    replace ev4 : v4 = h 179 a1 := ev4
    replace b5 := (jba_179 a1 _).1 b5
    refine And.intro (fun c6 => ?_) (fun c6 => ?_)
    · replace c6 : 0 ≤ v4 := c6
      show jGo E l 30 229 229 _ 31 [.inr (.inr (.inl 176)), .inl a1, .inl a2, .inl a3, .inr (.inr (.inr ()))] [] 229 jr0 h
      refine jGo_blk qX12_put_31 ?_
      refine st_gr jo_176 jr_176_3 ?_
      refine st_ai jo_179 (show 0 ≤ a1 by omega) (show a1 < ((4 : Nat) : Int) by omega) (fun v7 ev7 b8 => ?_)
      replace ev7 : v7 = h 179 a1 := ev7
      replace b8 := (jba_179 a1 _).1 b8
      have e9 : jw32 (v7 - 1) = v7 - 1 := j32e (by omega) (by omega)
      refine st_cs (na := 3) (st := [.inl (jw32 (v7 - 1)), .inl 0, .inl a2]) rfl rfl rfl (c_X12_in a2 0 (jw32 (v7 - 1)) h) rfl ?_
      rintro _ _ _ ⟨rfl, rfl, t10, rfl, ht10, zt10⟩ kt10
      replace kt10 : -2147483648 ≤ t10 ∧ t10 ≤ 2147483647 := kt10
      replace ht10 : 0 ≤ t10 ∧ t10 ≤ 1 := ht10
      replace zt10 : (t10 = 1 ∧ (0 : Int) ≤ a2 ∧ a2 ≤ (jw32 (v7 - 1))) ∨ (t10 = 0 ∧ ¬ ((0 : Int) ≤ a2 ∧ a2 ≤ (jw32 (v7 - 1)))) := zt10
      refine And.intro (fun c12 => ?_) (fun c12 => ?_)
      · replace c12 : ¬ t10 = 0 := c12
        show jGo E l 30 229 229 _ 54 [.inr (.inr (.inl 176)), .inl a1, .inl a2, .inl a3, .inr (.inr (.inr ()))] [] 229 jr0 h
        refine jGo_blk qX12_put_54 ?_
        refine And.intro (fun c13 => ?_) (fun c13 => ?_)
        · replace c13 : 0 ≤ a3 := c13
          show jGo E l 30 229 229 _ 65 [.inr (.inr (.inl 176)), .inl a1, .inl a2, .inl a3, .inr (.inr (.inr ()))] [] 229 jr0 h
          refine jGo_blk qX12_put_65 ?_
          refine And.intro (fun c14 => ?_) (fun c14 => ?_)
          · replace c14 : a3 ≤ 400 := c14
            show jGo E l 30 229 229 _ 79 [.inr (.inr (.inl 176)), .inl a1, .inl a2, .inl a3, .inr (.inr (.inr ()))] [] 229 jr0 h
            refine jGo_blk qX12_put_79 ?_
            refine st_gr jo_176 jr_176_4 ?_
            have e15 : jw32 (30 * a1) = 30 * a1 := j32e (by omega) (by omega)
            have e16 : jw32 ((jw32 (30 * a1)) + a2) = (jw32 (30 * a1)) + a2 := j32e (by omega) (by omega)
            refine st_ai jo_180 (show 0 ≤ jw32 ((jw32 (30 * a1)) + a2) by omega) (show jw32 ((jw32 (30 * a1)) + a2) < ((120 : Nat) : Int) by omega) (fun v17 ev17 b18 => ?_)
            replace ev17 : v17 = h 180 (jw32 ((jw32 (30 * a1)) + a2)) := ev17
            replace b18 := (jba_180 (jw32 ((jw32 (30 * a1)) + a2)) _).1 b18
            refine st_gr jo_176 jr_176_4 ?_
            have e19 : jw32 (30 * a1) = 30 * a1 := j32e (by omega) (by omega)
            have e20 : jw32 ((jw32 (30 * a1)) + a2) = (jw32 (30 * a1)) + a2 := j32e (by omega) (by omega)
            refine st_si jo_180 (show 0 ≤ jw32 ((jw32 (30 * a1)) + a2) by omega) (show jw32 ((jw32 (30 * a1)) + a2) < ((120 : Nat) : Int) by omega) (fun hx => (jba_180 _ _).2 (show 0 ≤ a3 ∧ a3 ≤ 400 by omega)) (fun g21 eg21 => ?_)
            replace eg21 : g21 = jup h 180 (jw32 ((jw32 (30 * a1)) + a2)) a3 := eg21
            have fg21 : jfr w_X12_put h g21 := jfr_up f0 eg21 (by unfold w_X12_put; omega)
            have e22 : g21 180 (jw32 ((jw32 (30 * a1)) + a2)) = a3 := jup_s eg21
            exact st_r0 (ls := []) ⟨rfl, rfl, fg21, v17, rfl, (by omega), trivial⟩
          · replace c14 : 400 < a3 := by first | exact c14 | exact Int.not_le.mp c14 | exact Int.not_lt.mp c14 | exact Decidable.not_not.mp c14
            refine st_cv (na := 1) (st := [.inl (-6), .inr (.inr (.inl 176))]) jo_176 rfl rfl rfl (c_X12_refuse (-6) h (by omega)) rfl ?_
            rintro _ _ g24 ⟨rfl, ft23, t23, rfl, ht23, zt23⟩ kt23
            replace kt23 : -2147483648 ≤ t23 ∧ t23 ≤ 2147483647 := kt23
            replace ht23 : -7 ≤ t23 ∧ t23 ≤ -1 := ht23
            have fg24 : jfr w_X12_put h g24 := jfr_tr f0 ft23 (fun i k q => by unfold w_X12_refuse at q; unfold w_X12_put; omega)
            replace zt23 : t23 = (-6 : Int) := zt23
            exact st_r0 (ls := []) ⟨rfl, rfl, fg24, t23, rfl, (by omega), trivial⟩
        · replace c13 : a3 < 0 := by first | exact c13 | exact Int.not_le.mp c13 | exact Int.not_lt.mp c13 | exact Decidable.not_not.mp c13
          refine st_cv (na := 1) (st := [.inl (-4), .inr (.inr (.inl 176))]) jo_176 rfl rfl rfl (c_X12_refuse (-4) h (by omega)) rfl ?_
          rintro _ _ g26 ⟨rfl, ft25, t25, rfl, ht25, zt25⟩ kt25
          replace kt25 : -2147483648 ≤ t25 ∧ t25 ≤ 2147483647 := kt25
          replace ht25 : -7 ≤ t25 ∧ t25 ≤ -1 := ht25
          have fg26 : jfr w_X12_put h g26 := jfr_tr f0 ft25 (fun i k q => by unfold w_X12_refuse at q; unfold w_X12_put; omega)
          replace zt25 : t25 = (-4 : Int) := zt25
          exact st_r0 (ls := []) ⟨rfl, rfl, fg26, t25, rfl, (by omega), trivial⟩
      · replace c12 : t10 = 0 := by first | exact c12 | exact Int.not_le.mp c12 | exact Int.not_lt.mp c12 | exact Decidable.not_not.mp c12
        refine st_cv (na := 1) (st := [.inl (-7), .inr (.inr (.inl 176))]) jo_176 rfl rfl rfl (c_X12_refuse (-7) h (by omega)) rfl ?_
        rintro _ _ g28 ⟨rfl, ft27, t27, rfl, ht27, zt27⟩ kt27
        replace kt27 : -2147483648 ≤ t27 ∧ t27 ≤ 2147483647 := kt27
        replace ht27 : -7 ≤ t27 ∧ t27 ≤ -1 := ht27
        have fg28 : jfr w_X12_put h g28 := jfr_tr f0 ft27 (fun i k q => by unfold w_X12_refuse at q; unfold w_X12_put; omega)
        replace zt27 : t27 = (-7 : Int) := zt27
        exact st_r0 (ls := []) ⟨rfl, rfl, fg28, t27, rfl, (by omega), trivial⟩
    · replace c6 : v4 < 0 := by first | exact c6 | exact Int.not_le.mp c6 | exact Int.not_lt.mp c6 | exact Decidable.not_not.mp c6
      refine st_cv (na := 1) (st := [.inl (-5), .inr (.inr (.inl 176))]) jo_176 rfl rfl rfl (c_X12_refuse (-5) h (by omega)) rfl ?_
      rintro _ _ g30 ⟨rfl, ft29, t29, rfl, ht29, zt29⟩ kt29
      replace kt29 : -2147483648 ≤ t29 ∧ t29 ≤ 2147483647 := kt29
      replace ht29 : -7 ≤ t29 ∧ t29 ≤ -1 := ht29
      have fg30 : jfr w_X12_put h g30 := jfr_tr f0 ft29 (fun i k q => by unfold w_X12_refuse at q; unfold w_X12_put; omega)
      replace zt29 : t29 = (-5 : Int) := zt29
      exact st_r0 (ls := []) ⟨rfl, rfl, fg30, t29, rfl, (by omega), trivial⟩
  · replace c3 : t1 = 0 := by first | exact c3 | exact Int.not_le.mp c3 | exact Int.not_lt.mp c3 | exact Decidable.not_not.mp c3
    refine st_cv (na := 1) (st := [.inl (-1), .inr (.inr (.inl 176))]) jo_176 rfl rfl rfl (c_X12_refuse (-1) h (by omega)) rfl ?_
    rintro _ _ g32 ⟨rfl, ft31, t31, rfl, ht31, zt31⟩ kt31
    replace kt31 : -2147483648 ≤ t31 ∧ t31 ≤ 2147483647 := kt31
    replace ht31 : -7 ≤ t31 ∧ t31 ≤ -1 := ht31
    have fg32 : jfr w_X12_put h g32 := jfr_tr f0 ft31 (fun i k q => by unfold w_X12_refuse at q; unfold w_X12_put; omega)
    replace zt31 : t31 = (-1 : Int) := zt31
    exact st_r0 (ls := []) ⟨rfl, rfl, fg32, t31, rfl, (by omega), trivial⟩

def k_X1_hasPlaces (a1 : Int) (a2 : Int) (a3 : Int) (h : JH) (v : Option JV) (r' g : JH) : Prop := r' = jr0 ∧ h = g ∧ ∃ x : Int, v = some (.inl x) ∧ (0 ≤ x ∧ x ≤ 1) ∧ (x = 0 ∨ (0 ≤ a2 ∧ 0 ≤ a3 ∧ a2 + a3 ≤ 30))
set_option maxHeartbeats 4000000 in
theorem c_X1_hasPlaces {E : JE} {l : Launch} (a1 : Int) (a2 : Int) (a3 : Int) (h : JH) (p1 : 0 ≤ a1 ∧ a1 ≤ 3) : jMt E l 31 [.inr (.inr (.inl 2)), .inl a1, .inl a2, .inl a3] 229 jr0 h (k_X1_hasPlaces a1 a2 a3 h) := by
  refine jMt1 (nL := 4) (ls := [.inr (.inr (.inl 2)), .inl a1, .inl a2, .inl a3]) (by decide +kernel) (by decide +kernel) (by decide +kernel) rfl rfl (fun hav => ?_)
  have ra1 : -2147483648 ≤ a1 ∧ a1 ≤ 2147483647 := hav (.inl a1) (by simp)
  have ra2 : -2147483648 ≤ a2 ∧ a2 ≤ 2147483647 := hav (.inl a2) (by simp)
  have ra3 : -2147483648 ≤ a3 ∧ a3 ≤ 2147483647 := hav (.inl a3) (by simp)
  refine jGo_blk qX1_hasPlaces_0 ?_
  refine And.intro (fun c1 => ?_) (fun c1 => ?_)
  · replace c1 : a3 < 0 := c1
    show jGo E l 31 229 229 _ 24 [.inr (.inr (.inl 2)), .inl a1, .inl a2, .inl a3] [] 229 jr0 h
    refine jGo_blk qX1_hasPlaces_24 ?_
    show jGo E l 31 229 229 _ 25 [.inr (.inr (.inl 2)), .inl a1, .inl a2, .inl a3] [.inl 0] 229 jr0 h
    refine jGo_blk qX1_hasPlaces_25 ?_
    exact st_r1 (ls := []) (show (0 : Int) = 0 ∨ (0 : Int) = 1 by omega) ⟨rfl, rfl, rfl, 0, rfl, (by omega), (by omega)⟩
  · replace c1 : 0 ≤ a3 := by first | exact c1 | exact Int.not_le.mp c1 | exact Int.not_lt.mp c1 | exact Decidable.not_not.mp c1
    refine And.intro (fun c2 => ?_) (fun c2 => ?_)
    · replace c2 : a2 < 0 := c2
      show jGo E l 31 229 229 _ 24 [.inr (.inr (.inl 2)), .inl a1, .inl a2, .inl a3] [] 229 jr0 h
      refine jGo_blk qX1_hasPlaces_24 ?_
      show jGo E l 31 229 229 _ 25 [.inr (.inr (.inl 2)), .inl a1, .inl a2, .inl a3] [.inl 0] 229 jr0 h
      refine jGo_blk qX1_hasPlaces_25 ?_
      exact st_r1 (ls := []) (show (0 : Int) = 0 ∨ (0 : Int) = 1 by omega) ⟨rfl, rfl, rfl, 0, rfl, (by omega), (by omega)⟩
    · replace c2 : 0 ≤ a2 := by first | exact c2 | exact Int.not_le.mp c2 | exact Int.not_lt.mp c2 | exact Decidable.not_not.mp c2
      refine st_gr jo_2 jr_2_3 ?_
      refine st_ai jo_10 (show 0 ≤ a1 by omega) (show a1 < ((4 : Nat) : Int) by omega) (fun v3 ev3 b4 => ?_)
      replace ev3 : v3 = h 10 a1 := ev3
      replace b4 := (jba_10 a1 _).1 b4
      have e5 : jw32 (v3 - a3) = v3 - a3 := j32e (by omega) (by omega)
      refine And.intro (fun c6 => ?_) (fun c6 => ?_)
      · replace c6 : jw32 (v3 - a3) < a2 := c6
        show jGo E l 31 229 229 _ 24 [.inr (.inr (.inl 2)), .inl a1, .inl a2, .inl a3] [] 229 jr0 h
        refine jGo_blk qX1_hasPlaces_24 ?_
        show jGo E l 31 229 229 _ 25 [.inr (.inr (.inl 2)), .inl a1, .inl a2, .inl a3] [.inl 0] 229 jr0 h
        refine jGo_blk qX1_hasPlaces_25 ?_
        exact st_r1 (ls := []) (show (0 : Int) = 0 ∨ (0 : Int) = 1 by omega) ⟨rfl, rfl, rfl, 0, rfl, (by omega), (by omega)⟩
      · replace c6 : a2 ≤ jw32 (v3 - a3) := by first | exact c6 | exact Int.not_le.mp c6 | exact Int.not_lt.mp c6 | exact Decidable.not_not.mp c6
        show jGo E l 31 229 229 _ 25 [.inr (.inr (.inl 2)), .inl a1, .inl a2, .inl a3] [.inl 1] 229 jr0 h
        refine jGo_blk qX1_hasPlaces_25 ?_
        exact st_r1 (ls := []) (show (1 : Int) = 0 ∨ (1 : Int) = 1 by omega) ⟨rfl, rfl, rfl, 1, rfl, (by omega), (by omega)⟩

def w_X11_copy (i k : Int) : Prop := (i = 1) ∨ (6 ≤ i ∧ i ≤ 9) ∨ (i = 111 ∧ 9 ≤ k ∧ k ≤ 11)
def k_X11_copy (a1 : Int) (a2 : Int) (a3 : Int) (a4 : Int) (a5 : Int) (h : JH) (v : Option JV) (r' g : JH) : Prop := r' = jr0 ∧ jfr w_X11_copy h g ∧ ∃ x : Int, v = some (.inl x) ∧ (True) ∧ (True)
set_option maxHeartbeats 4000000 in
theorem c_X11_copy {E : JE} {l : Launch} (a1 : Int) (a2 : Int) (a3 : Int) (a4 : Int) (a5 : Int) (h : JH) : jMt E l 32 [.inr (.inr (.inl 0)), .inl a1, .inl a2, .inl a3, .inl a4, .inl a5] 229 jr0 h (k_X11_copy a1 a2 a3 a4 a5 h) := by
  refine jMt0 (nL := 7) (ls := [.inr (.inr (.inl 0)), .inl a1, .inl a2, .inl a3, .inl a4, .inl a5, .inr (.inr (.inr ()))]) (by decide +kernel) (by decide +kernel) (by decide +kernel) rfl rfl ?_
  have f0 : jfr w_X11_copy h h := jfr_rf _ _
  refine jGo_blk qX11_copy_0 ?_
  refine st_cs (na := 2) (st := [.inl 4, .inl a1]) rfl rfl rfl (c_X11_within a1 4 h) rfl ?_
  rintro _ _ _ ⟨rfl, rfl, t1, rfl, ht1, zt1⟩ kt1
  replace kt1 : -2147483648 ≤ t1 ∧ t1 ≤ 2147483647 := kt1
  replace ht1 : 0 ≤ t1 ∧ t1 ≤ 1 := ht1
  replace zt1 : (t1 = 1 ∧ 0 ≤ a1 ∧ a1 < (4 : Int)) ∨ (t1 = 0 ∧ ¬ (0 ≤ a1 ∧ a1 < (4 : Int))) := zt1
  refine And.intro (fun c3 => ?_) (fun c3 => ?_)
  · replace c3 : t1 = 0 := c3
    show jGo E l 32 229 229 _ 16 [.inr (.inr (.inl 0)), .inl a1, .inl a2, .inl a3, .inl a4, .inl a5, .inr (.inr (.inr ()))] [] 229 jr0 h
    refine jGo_blk qX11_copy_16 ?_
    show jGo E l 32 229 229 _ 82 [.inr (.inr (.inl 0)), .inl a1, .inl a2, .inl a3, .inl a4, .inl a5, .inr (.inr (.inr ()))] [.inl (-1)] 229 jr0 h
    refine jGo_blk qX11_copy_82 ?_
    refine And.intro (fun c4 => ?_) (fun c4 => ?_)
    · replace c4 : (-1 : Int) = 0 := c4
      exfalso; omega
    · replace c4 : ¬ (-1 : Int) = 0 := by first | exact c4 | exact Int.not_le.mp c4 | exact Int.not_lt.mp c4 | exact Decidable.not_not.mp c4
      refine st_cv (na := 1) (st := [.inl (-1), .inr (.inr (.inl 0))]) jo_0 rfl rfl rfl (c_X11_refused (-1) h (by omega)) rfl ?_
      rintro _ _ g6 ⟨rfl, ft5, t5, rfl, ht5, zt5⟩ kt5
      replace kt5 : -2147483648 ≤ t5 ∧ t5 ≤ 2147483647 := kt5
      replace ht5 : -7 ≤ t5 ∧ t5 ≤ -1 := ht5
      have fg6 : jfr w_X11_copy h g6 := jfr_tr f0 ft5 (fun i k q => by unfold w_X11_refused at q; unfold w_X11_copy; omega)
      replace zt5 : t5 = (-1 : Int) := zt5
      exact st_r0 (ls := []) ⟨rfl, rfl, fg6, t5, rfl, trivial, trivial⟩
  · replace c3 : ¬ t1 = 0 := by first | exact c3 | exact Int.not_le.mp c3 | exact Int.not_lt.mp c3 | exact Decidable.not_not.mp c3
    refine st_cs (na := 2) (st := [.inl 4, .inl a3]) rfl rfl rfl (c_X11_within a3 4 h) rfl ?_
    rintro _ _ _ ⟨rfl, rfl, t7, rfl, ht7, zt7⟩ kt7
    replace kt7 : -2147483648 ≤ t7 ∧ t7 ≤ 2147483647 := kt7
    replace ht7 : 0 ≤ t7 ∧ t7 ≤ 1 := ht7
    replace zt7 : (t7 = 1 ∧ 0 ≤ a3 ∧ a3 < (4 : Int)) ∨ (t7 = 0 ∧ ¬ (0 ≤ a3 ∧ a3 < (4 : Int))) := zt7
    refine And.intro (fun c9 => ?_) (fun c9 => ?_)
    · replace c9 : ¬ t7 = 0 := c9
      show jGo E l 32 229 229 _ 20 [.inr (.inr (.inl 0)), .inl a1, .inl a2, .inl a3, .inl a4, .inl a5, .inr (.inr (.inr ()))] [] 229 jr0 h
      refine jGo_blk qX11_copy_20 ?_
      refine st_gr jo_0 jr_0_2 ?_
      refine st_cv (na := 1) (st := [.inl a1, .inr (.inr (.inl 2))]) jo_2 rfl rfl rfl (c_X1_isMissing a1 h (by omega)) rfl ?_
      rintro _ _ _ ⟨rfl, rfl, t10, rfl, ht10, zt10⟩ kt10
      replace kt10 : -2147483648 ≤ t10 ∧ t10 ≤ 2147483647 := kt10
      replace ht10 : 0 ≤ t10 ∧ t10 ≤ 1 := ht10
      replace zt10 : (t10 = 1 ∧ h 10 a1 = -1) ∨ (t10 = 0 ∧ 0 ≤ h 10 a1) := zt10
      refine And.intro (fun c12 => ?_) (fun c12 => ?_)
      · replace c12 : ¬ t10 = 0 := c12
        show jGo E l 32 229 229 _ 42 [.inr (.inr (.inl 0)), .inl a1, .inl a2, .inl a3, .inl a4, .inl a5, .inr (.inr (.inr ()))] [] 229 jr0 h
        refine jGo_blk qX11_copy_42 ?_
        show jGo E l 32 229 229 _ 82 [.inr (.inr (.inl 0)), .inl a1, .inl a2, .inl a3, .inl a4, .inl a5, .inr (.inr (.inr ()))] [.inl (-5)] 229 jr0 h
        refine jGo_blk qX11_copy_82 ?_
        refine And.intro (fun c13 => ?_) (fun c13 => ?_)
        · replace c13 : (-5 : Int) = 0 := c13
          exfalso; omega
        · replace c13 : ¬ (-5 : Int) = 0 := by first | exact c13 | exact Int.not_le.mp c13 | exact Int.not_lt.mp c13 | exact Decidable.not_not.mp c13
          refine st_cv (na := 1) (st := [.inl (-5), .inr (.inr (.inl 0))]) jo_0 rfl rfl rfl (c_X11_refused (-5) h (by omega)) rfl ?_
          rintro _ _ g15 ⟨rfl, ft14, t14, rfl, ht14, zt14⟩ kt14
          replace kt14 : -2147483648 ≤ t14 ∧ t14 ≤ 2147483647 := kt14
          replace ht14 : -7 ≤ t14 ∧ t14 ≤ -1 := ht14
          have fg15 : jfr w_X11_copy h g15 := jfr_tr f0 ft14 (fun i k q => by unfold w_X11_refused at q; unfold w_X11_copy; omega)
          replace zt14 : t14 = (-5 : Int) := zt14
          exact st_r0 (ls := []) ⟨rfl, rfl, fg15, t14, rfl, trivial, trivial⟩
      · replace c12 : t10 = 0 := by first | exact c12 | exact Int.not_le.mp c12 | exact Int.not_lt.mp c12 | exact Decidable.not_not.mp c12
        refine st_gr jo_0 jr_0_2 ?_
        refine st_cv (na := 1) (st := [.inl a3, .inr (.inr (.inl 2))]) jo_2 rfl rfl rfl (c_X1_isMissing a3 h (by omega)) rfl ?_
        rintro _ _ _ ⟨rfl, rfl, t16, rfl, ht16, zt16⟩ kt16
        replace kt16 : -2147483648 ≤ t16 ∧ t16 ≤ 2147483647 := kt16
        replace ht16 : 0 ≤ t16 ∧ t16 ≤ 1 := ht16
        replace zt16 : (t16 = 1 ∧ h 10 a3 = -1) ∨ (t16 = 0 ∧ 0 ≤ h 10 a3) := zt16
        refine And.intro (fun c18 => ?_) (fun c18 => ?_)
        · replace c18 : t16 = 0 := c18
          show jGo E l 32 229 229 _ 47 [.inr (.inr (.inl 0)), .inl a1, .inl a2, .inl a3, .inl a4, .inl a5, .inr (.inr (.inr ()))] [] 229 jr0 h
          refine jGo_blk qX11_copy_47 ?_
          refine st_gr jo_0 jr_0_2 ?_
          refine st_cv (na := 3) (st := [.inl a5, .inl a2, .inl a1, .inr (.inr (.inl 2))]) jo_2 rfl rfl rfl (c_X1_hasPlaces a1 a2 a5 h (by omega)) rfl ?_
          rintro _ _ _ ⟨rfl, rfl, t19, rfl, ht19, zt19⟩ kt19
          replace kt19 : -2147483648 ≤ t19 ∧ t19 ≤ 2147483647 := kt19
          replace ht19 : 0 ≤ t19 ∧ t19 ≤ 1 := ht19
          replace zt19 : t19 = 0 ∨ (0 ≤ a2 ∧ 0 ≤ a5 ∧ a2 + a5 ≤ 30) := zt19
          refine And.intro (fun c21 => ?_) (fun c21 => ?_)
          · replace c21 : t19 = 0 := c21
            show jGo E l 32 229 229 _ 76 [.inr (.inr (.inl 0)), .inl a1, .inl a2, .inl a3, .inl a4, .inl a5, .inr (.inr (.inr ()))] [] 229 jr0 h
            refine jGo_blk qX11_copy_76 ?_
            show jGo E l 32 229 229 _ 82 [.inr (.inr (.inl 0)), .inl a1, .inl a2, .inl a3, .inl a4, .inl a5, .inr (.inr (.inr ()))] [.inl (-7)] 229 jr0 h
            refine jGo_blk qX11_copy_82 ?_
            refine And.intro (fun c22 => ?_) (fun c22 => ?_)
            · replace c22 : (-7 : Int) = 0 := c22
              exfalso; omega
            · replace c22 : ¬ (-7 : Int) = 0 := by first | exact c22 | exact Int.not_le.mp c22 | exact Int.not_lt.mp c22 | exact Decidable.not_not.mp c22
              refine st_cv (na := 1) (st := [.inl (-7), .inr (.inr (.inl 0))]) jo_0 rfl rfl rfl (c_X11_refused (-7) h (by omega)) rfl ?_
              rintro _ _ g24 ⟨rfl, ft23, t23, rfl, ht23, zt23⟩ kt23
              replace kt23 : -2147483648 ≤ t23 ∧ t23 ≤ 2147483647 := kt23
              replace ht23 : -7 ≤ t23 ∧ t23 ≤ -1 := ht23
              have fg24 : jfr w_X11_copy h g24 := jfr_tr f0 ft23 (fun i k q => by unfold w_X11_refused at q; unfold w_X11_copy; omega)
              replace zt23 : t23 = (-7 : Int) := zt23
              exact st_r0 (ls := []) ⟨rfl, rfl, fg24, t23, rfl, trivial, trivial⟩
          · replace c21 : ¬ t19 = 0 := by first | exact c21 | exact Int.not_le.mp c21 | exact Int.not_lt.mp c21 | exact Decidable.not_not.mp c21
            refine st_gr jo_0 jr_0_2 ?_
            refine st_cv (na := 3) (st := [.inl a5, .inl a4, .inl a3, .inr (.inr (.inl 2))]) jo_2 rfl rfl rfl (c_X1_hasPlaces a3 a4 a5 h (by omega)) rfl ?_
            rintro _ _ _ ⟨rfl, rfl, t25, rfl, ht25, zt25⟩ kt25
            replace kt25 : -2147483648 ≤ t25 ∧ t25 ≤ 2147483647 := kt25
            replace ht25 : 0 ≤ t25 ∧ t25 ≤ 1 := ht25
            replace zt25 : t25 = 0 ∨ (0 ≤ a4 ∧ 0 ≤ a5 ∧ a4 + a5 ≤ 30) := zt25
            refine And.intro (fun c27 => ?_) (fun c27 => ?_)
            · replace c27 : ¬ t25 = 0 := c27
              show jGo E l 32 229 229 _ 81 [.inr (.inr (.inl 0)), .inl a1, .inl a2, .inl a3, .inl a4, .inl a5, .inr (.inr (.inr ()))] [] 229 jr0 h
              refine jGo_blk qX11_copy_81 ?_
              show jGo E l 32 229 229 _ 82 [.inr (.inr (.inl 0)), .inl a1, .inl a2, .inl a3, .inl a4, .inl a5, .inr (.inr (.inr ()))] [.inl 0] 229 jr0 h
              refine jGo_blk qX11_copy_82 ?_
              refine And.intro (fun c28 => ?_) (fun c28 => ?_)
              · replace c28 : (0 : Int) = 0 := c28
                show jGo E l 32 229 229 _ 96 [.inr (.inr (.inl 0)), .inl a1, .inl a2, .inl a3, .inl a4, .inl a5, .inl 0] [] 229 jr0 h
                refine jGo_blk qX11_copy_96 ?_
                refine st_gr jo_0 jr_0_11 ?_
                refine st_cv (na := 0) (st := [.inr (.inr (.inl 111))]) jo_111 rfl rfl rfl (c_X7_forget h) rfl ?_
                rintro _ _ g30 ⟨rfl, ft29, rfl, zt29⟩ kt29
                have fg30 : jfr w_X11_copy h g30 := jfr_tr f0 ft29 (fun i k q => by unfold w_X7_forget at q; unfold w_X11_copy; omega)
                refine st_gr jo_0 jr_0_2 ?_
                refine st_gr jo_2 jr_2_2 ?_
                refine st_ar jo_5 (by decide) (show 0 ≤ a1 by omega) (show a1 < ((4 : Nat) : Int) by omega) (fun u31 eu31 => ?_)
                replace eu31 : u31 = jr0 5 a1 := eu31
                have qu31 : u31 = 6 + a1 := eu31.trans (jrow_5 a1 (by omega) (by omega)).1
                have ou31 : jF 229 u31 1 30 := by rw [eu31]; exact (jrow_5 a1 (by omega) (by omega)).2.1
                have wu31 : ∀ j v : Int, jbd u31 j v ↔ (0 ≤ v ∧ v ≤ 400) := by rw [eu31]; exact (jrow_5 a1 (by omega) (by omega)).2.2
                refine st_gr jo_0 jr_0_2 ?_
                refine st_gr jo_2 jr_2_2 ?_
                refine st_ar jo_5 (by decide) (show 0 ≤ a3 by omega) (show a3 < ((4 : Nat) : Int) by omega) (fun u32 eu32 => ?_)
                replace eu32 : u32 = jr0 5 a3 := eu32
                have qu32 : u32 = 6 + a3 := eu32.trans (jrow_5 a3 (by omega) (by omega)).1
                have ou32 : jF 229 u32 1 30 := by rw [eu32]; exact (jrow_5 a3 (by omega) (by omega)).2.1
                have wu32 : ∀ j v : Int, jbd u32 j v ↔ (0 ≤ v ∧ v ≤ 400) := by rw [eu32]; exact (jrow_5 a3 (by omega) (by omega)).2.2
                refine st_cp ou32 ou31 (show 0 ≤ a2 by omega) (show 0 ≤ a4 by omega) (show 0 ≤ a5 by omega) (show a2 + a5 ≤ ((30 : Nat) : Int) by omega) (show a4 + a5 ≤ ((30 : Nat) : Int) by omega) rfl (fun hg j _ _ => (wu32 _ _).2 ((wu31 _ _).1 (hg _ _))) (fun g33 eg33 => ?_)
                replace eg33 : g33 = jcp g30 u31 a2 u32 a4 a5 := eg33
                have fg33 : jfr w_X11_copy h g33 := jfr_cp fg30 eg33 (fun _ => by unfold w_X11_copy; omega)
                exact st_r0 (ls := []) ⟨rfl, rfl, fg33, a5, rfl, trivial, trivial⟩
              · replace c28 : ¬ (0 : Int) = 0 := by first | exact c28 | exact Int.not_le.mp c28 | exact Int.not_lt.mp c28 | exact Decidable.not_not.mp c28
                exfalso; omega
            · replace c27 : t25 = 0 := by first | exact c27 | exact Int.not_le.mp c27 | exact Int.not_lt.mp c27 | exact Decidable.not_not.mp c27
              show jGo E l 32 229 229 _ 76 [.inr (.inr (.inl 0)), .inl a1, .inl a2, .inl a3, .inl a4, .inl a5, .inr (.inr (.inr ()))] [] 229 jr0 h
              refine jGo_blk qX11_copy_76 ?_
              show jGo E l 32 229 229 _ 82 [.inr (.inr (.inl 0)), .inl a1, .inl a2, .inl a3, .inl a4, .inl a5, .inr (.inr (.inr ()))] [.inl (-7)] 229 jr0 h
              refine jGo_blk qX11_copy_82 ?_
              refine And.intro (fun c34 => ?_) (fun c34 => ?_)
              · replace c34 : (-7 : Int) = 0 := c34
                exfalso; omega
              · replace c34 : ¬ (-7 : Int) = 0 := by first | exact c34 | exact Int.not_le.mp c34 | exact Int.not_lt.mp c34 | exact Decidable.not_not.mp c34
                refine st_cv (na := 1) (st := [.inl (-7), .inr (.inr (.inl 0))]) jo_0 rfl rfl rfl (c_X11_refused (-7) h (by omega)) rfl ?_
                rintro _ _ g36 ⟨rfl, ft35, t35, rfl, ht35, zt35⟩ kt35
                replace kt35 : -2147483648 ≤ t35 ∧ t35 ≤ 2147483647 := kt35
                replace ht35 : -7 ≤ t35 ∧ t35 ≤ -1 := ht35
                have fg36 : jfr w_X11_copy h g36 := jfr_tr f0 ft35 (fun i k q => by unfold w_X11_refused at q; unfold w_X11_copy; omega)
                replace zt35 : t35 = (-7 : Int) := zt35
                exact st_r0 (ls := []) ⟨rfl, rfl, fg36, t35, rfl, trivial, trivial⟩
        · replace c18 : ¬ t16 = 0 := by first | exact c18 | exact Int.not_le.mp c18 | exact Int.not_lt.mp c18 | exact Decidable.not_not.mp c18
          show jGo E l 32 229 229 _ 42 [.inr (.inr (.inl 0)), .inl a1, .inl a2, .inl a3, .inl a4, .inl a5, .inr (.inr (.inr ()))] [] 229 jr0 h
          refine jGo_blk qX11_copy_42 ?_
          show jGo E l 32 229 229 _ 82 [.inr (.inr (.inl 0)), .inl a1, .inl a2, .inl a3, .inl a4, .inl a5, .inr (.inr (.inr ()))] [.inl (-5)] 229 jr0 h
          refine jGo_blk qX11_copy_82 ?_
          refine And.intro (fun c37 => ?_) (fun c37 => ?_)
          · replace c37 : (-5 : Int) = 0 := c37
            exfalso; omega
          · replace c37 : ¬ (-5 : Int) = 0 := by first | exact c37 | exact Int.not_le.mp c37 | exact Int.not_lt.mp c37 | exact Decidable.not_not.mp c37
            refine st_cv (na := 1) (st := [.inl (-5), .inr (.inr (.inl 0))]) jo_0 rfl rfl rfl (c_X11_refused (-5) h (by omega)) rfl ?_
            rintro _ _ g39 ⟨rfl, ft38, t38, rfl, ht38, zt38⟩ kt38
            replace kt38 : -2147483648 ≤ t38 ∧ t38 ≤ 2147483647 := kt38
            replace ht38 : -7 ≤ t38 ∧ t38 ≤ -1 := ht38
            have fg39 : jfr w_X11_copy h g39 := jfr_tr f0 ft38 (fun i k q => by unfold w_X11_refused at q; unfold w_X11_copy; omega)
            replace zt38 : t38 = (-5 : Int) := zt38
            exact st_r0 (ls := []) ⟨rfl, rfl, fg39, t38, rfl, trivial, trivial⟩
    · replace c9 : t7 = 0 := by first | exact c9 | exact Int.not_le.mp c9 | exact Int.not_lt.mp c9 | exact Decidable.not_not.mp c9
      show jGo E l 32 229 229 _ 16 [.inr (.inr (.inl 0)), .inl a1, .inl a2, .inl a3, .inl a4, .inl a5, .inr (.inr (.inr ()))] [] 229 jr0 h
      refine jGo_blk qX11_copy_16 ?_
      show jGo E l 32 229 229 _ 82 [.inr (.inr (.inl 0)), .inl a1, .inl a2, .inl a3, .inl a4, .inl a5, .inr (.inr (.inr ()))] [.inl (-1)] 229 jr0 h
      refine jGo_blk qX11_copy_82 ?_
      refine And.intro (fun c40 => ?_) (fun c40 => ?_)
      · replace c40 : (-1 : Int) = 0 := c40
        exfalso; omega
      · replace c40 : ¬ (-1 : Int) = 0 := by first | exact c40 | exact Int.not_le.mp c40 | exact Int.not_lt.mp c40 | exact Decidable.not_not.mp c40
        refine st_cv (na := 1) (st := [.inl (-1), .inr (.inr (.inl 0))]) jo_0 rfl rfl rfl (c_X11_refused (-1) h (by omega)) rfl ?_
        rintro _ _ g42 ⟨rfl, ft41, t41, rfl, ht41, zt41⟩ kt41
        replace kt41 : -2147483648 ≤ t41 ∧ t41 ≤ 2147483647 := kt41
        replace ht41 : -7 ≤ t41 ∧ t41 ≤ -1 := ht41
        have fg42 : jfr w_X11_copy h g42 := jfr_tr f0 ft41 (fun i k q => by unfold w_X11_refused at q; unfold w_X11_copy; omega)
        replace zt41 : t41 = (-1 : Int) := zt41
        exact st_r0 (ls := []) ⟨rfl, rfl, fg42, t41, rfl, trivial, trivial⟩

def w_X12_copy (i k : Int) : Prop := (i = 180) ∨ (219 ≤ i ∧ i ≤ 220)
def k_X12_copy (a1 : Int) (a2 : Int) (a3 : Int) (a4 : Int) (a5 : Int) (h : JH) (v : Option JV) (r' g : JH) : Prop := r' = jr0 ∧ jfr w_X12_copy h g ∧ ∃ x : Int, v = some (.inl x) ∧ (-7 ≤ x ∧ x ≤ 30) ∧ (True)
set_option maxHeartbeats 4000000 in
theorem c_X12_copy {E : JE} {l : Launch} (a1 : Int) (a2 : Int) (a3 : Int) (a4 : Int) (a5 : Int) (h : JH) : jMt E l 33 [.inr (.inr (.inl 176)), .inl a1, .inl a2, .inl a3, .inl a4, .inl a5] 229 jr0 h (k_X12_copy a1 a2 a3 a4 a5 h) := by
  refine jMt0 (nL := 7) (ls := [.inr (.inr (.inl 176)), .inl a1, .inl a2, .inl a3, .inl a4, .inl a5, .inr (.inr (.inr ()))]) (by decide +kernel) (by decide +kernel) (by decide +kernel) rfl rfl ?_
  have f0 : jfr w_X12_copy h h := jfr_rf _ _
  have key : ∀ N : Nat, (∀ (x6 : Int) (g : JH), (0 ≤ a1 ∧ a1 ≤ 3 ∧ 0 ≤ a2 ∧ a2 ≤ 30 ∧ 0 ≤ a3 ∧ a3 ≤ 3 ∧ 0 ≤ a4 ∧ a4 ≤ 30 ∧ 0 ≤ a5 ∧ a5 ≤ 30 ∧ 0 ≤ x6 ∧ x6 ≤ 30) → (a2 + a5 ≤ 30 ∧ a4 + a5 ≤ 30) → jfr w_X12_copy h g → (30 - x6) + 20000 < (N : Int) → jGo E l 33 229 229 (jRK (k_X12_copy a1 a2 a3 a4 a5 h)) 107 [.inr (.inr (.inl 176)), .inl a1, .inl a2, .inl a3, .inl a4, .inl a5, .inl x6] [] 229 jr0 g) ∧
      (∀ (x6 : Int) (g : JH), (0 ≤ a1 ∧ a1 ≤ 3 ∧ 0 ≤ a2 ∧ a2 ≤ 30 ∧ 0 ≤ a3 ∧ a3 ≤ 3 ∧ 0 ≤ a4 ∧ a4 ≤ 30 ∧ 0 ≤ a5 ∧ a5 ≤ 30 ∧ 0 ≤ x6 ∧ x6 ≤ 30) → (a2 + a5 ≤ 30 ∧ a4 + a5 ≤ 30) → jfr w_X12_copy h g → (30 - x6) < (N : Int) → jGo E l 33 229 229 (jRK (k_X12_copy a1 a2 a3 a4 a5 h)) 144 [.inr (.inr (.inl 176)), .inl a1, .inl a2, .inl a3, .inl a4, .inl a5, .inl x6] [] 229 jr0 g) := by
    intro N
    induction N with
    | zero => exact ⟨fun _ _ hi hx0 _ hN => absurd hN (by omega), fun _ _ hi hx0 _ hN => absurd hN (by omega)⟩
    | succ N ih =>
      refine ⟨?_, ?_⟩
      · intro x6 g hi hx0 hf hN
        refine jGo_blk qX12_copy_107 ?_
        refine And.intro (fun c1 => ?_) (fun c1 => ?_)
        · replace c1 : a5 ≤ x6 := c1
          show jGo E l 33 229 229 _ 141 [.inr (.inr (.inl 176)), .inl a1, .inl a2, .inl a3, .inl a4, .inl a5, .inl x6] [] 229 jr0 g
          refine jGo_blk qX12_copy_141 ?_
          show jGo E l 33 229 229 _ 144 [.inr (.inr (.inl 176)), .inl a1, .inl a2, .inl a3, .inl a4, .inl a5, .inl 0] [] 229 jr0 g
          exact ih.2 0 g (by omega) (by omega) hf (by omega)
        · replace c1 : x6 < a5 := by first | exact c1 | exact Int.not_le.mp c1 | exact Int.not_lt.mp c1 | exact Decidable.not_not.mp c1
          refine st_gr jo_176 jr_176_51 ?_
          refine st_gr jo_176 jr_176_4 ?_
          have e2 : jw32 (30 * a1) = 30 * a1 := j32e (by omega) (by omega)
          have e3 : jw32 ((jw32 (30 * a1)) + a2) = (jw32 (30 * a1)) + a2 := j32e (by omega) (by omega)
          have e4 : jw32 ((jw32 ((jw32 (30 * a1)) + a2)) + x6) = (jw32 ((jw32 (30 * a1)) + a2)) + x6 := j32e (by omega) (by omega)
          refine st_ai jo_180 (show 0 ≤ jw32 ((jw32 ((jw32 (30 * a1)) + a2)) + x6) by omega) (show jw32 ((jw32 ((jw32 (30 * a1)) + a2)) + x6) < ((120 : Nat) : Int) by omega) (fun v5 ev5 b6 => ?_)
          replace ev5 : v5 = g 180 (jw32 ((jw32 ((jw32 (30 * a1)) + a2)) + x6)) := ev5
          replace b6 := (jba_180 (jw32 ((jw32 ((jw32 (30 * a1)) + a2)) + x6)) _).1 b6
          refine st_si jo_220 (show 0 ≤ x6 by omega) (show x6 < ((30 : Nat) : Int) by omega) (fun hx => (jba_220 _ _).2 (show 0 ≤ v5 ∧ v5 ≤ 400 by omega)) (fun g7 eg7 => ?_)
          replace eg7 : g7 = jup g 220 x6 v5 := eg7
          have fg7 : jfr w_X12_copy h g7 := jfr_up hf eg7 (by unfold w_X12_copy; omega)
          have e8 : g7 220 x6 = v5 := jup_s eg7
          have e9 : jw32 (x6 + 1) = x6 + 1 := j32e (by omega) (by omega)
          show jGo E l 33 229 229 _ 107 [.inr (.inr (.inl 176)), .inl a1, .inl a2, .inl a3, .inl a4, .inl a5, .inl (jw32 (x6 + 1))] [] 229 jr0 g7
          exact ih.1 (jw32 (x6 + 1)) g7 (by omega) (by omega) fg7 (by omega)
      · intro x6 g hi hx0 hf hN
        refine jGo_blk qX12_copy_144 ?_
        refine And.intro (fun c10 => ?_) (fun c10 => ?_)
        · replace c10 : a5 ≤ x6 := c10
          show jGo E l 33 229 229 _ 179 [.inr (.inr (.inl 176)), .inl a1, .inl a2, .inl a3, .inl a4, .inl a5, .inl x6] [] 229 jr0 g
          refine jGo_blk qX12_copy_179 ?_
          exact st_r0 (ls := []) ⟨rfl, rfl, hf, a5, rfl, (by omega), trivial⟩
        · replace c10 : x6 < a5 := by first | exact c10 | exact Int.not_le.mp c10 | exact Int.not_lt.mp c10 | exact Decidable.not_not.mp c10
          refine st_gr jo_176 jr_176_4 ?_
          have e11 : jw32 (30 * a3) = 30 * a3 := j32e (by omega) (by omega)
          have e12 : jw32 ((jw32 (30 * a3)) + a4) = (jw32 (30 * a3)) + a4 := j32e (by omega) (by omega)
          have e13 : jw32 ((jw32 ((jw32 (30 * a3)) + a4)) + x6) = (jw32 ((jw32 (30 * a3)) + a4)) + x6 := j32e (by omega) (by omega)
          refine st_gr jo_176 jr_176_51 ?_
          refine st_ai jo_220 (show 0 ≤ x6 by omega) (show x6 < ((30 : Nat) : Int) by omega) (fun v14 ev14 b15 => ?_)
          replace ev14 : v14 = g 220 x6 := ev14
          replace b15 := (jba_220 x6 _).1 b15
          refine st_si jo_180 (show 0 ≤ jw32 ((jw32 ((jw32 (30 * a3)) + a4)) + x6) by omega) (show jw32 ((jw32 ((jw32 (30 * a3)) + a4)) + x6) < ((120 : Nat) : Int) by omega) (fun hx => (jba_180 _ _).2 (show 0 ≤ v14 ∧ v14 ≤ 400 by omega)) (fun g16 eg16 => ?_)
          replace eg16 : g16 = jup g 180 (jw32 ((jw32 ((jw32 (30 * a3)) + a4)) + x6)) v14 := eg16
          have fg16 : jfr w_X12_copy h g16 := jfr_up hf eg16 (by unfold w_X12_copy; omega)
          have e17 : g16 180 (jw32 ((jw32 ((jw32 (30 * a3)) + a4)) + x6)) = v14 := jup_s eg16
          have e18 : jw32 (x6 + 1) = x6 + 1 := j32e (by omega) (by omega)
          show jGo E l 33 229 229 _ 144 [.inr (.inr (.inl 176)), .inl a1, .inl a2, .inl a3, .inl a4, .inl a5, .inl (jw32 (x6 + 1))] [] 229 jr0 g16
          exact ih.2 (jw32 (x6 + 1)) g16 (by omega) (by omega) fg16 (by omega)
  refine jGo_blk qX12_copy_0 ?_
  refine st_cs (na := 3) (st := [.inl 3, .inl 0, .inl a1]) rfl rfl rfl (c_X12_in a1 0 3 h) rfl ?_
  rintro _ _ _ ⟨rfl, rfl, t19, rfl, ht19, zt19⟩ kt19
  replace kt19 : -2147483648 ≤ t19 ∧ t19 ≤ 2147483647 := kt19
  replace ht19 : 0 ≤ t19 ∧ t19 ≤ 1 := ht19
  replace zt19 : (t19 = 1 ∧ (0 : Int) ≤ a1 ∧ a1 ≤ (3 : Int)) ∨ (t19 = 0 ∧ ¬ ((0 : Int) ≤ a1 ∧ a1 ≤ (3 : Int))) := zt19
  refine And.intro (fun c21 => ?_) (fun c21 => ?_)
  · replace c21 : t19 = 0 := c21
    show jGo E l 33 229 229 _ 18 [.inr (.inr (.inl 176)), .inl a1, .inl a2, .inl a3, .inl a4, .inl a5, .inr (.inr (.inr ()))] [] 229 jr0 h
    refine jGo_blk qX12_copy_18 ?_
    refine st_cv (na := 1) (st := [.inl (-1), .inr (.inr (.inl 176))]) jo_176 rfl rfl rfl (c_X12_refuse (-1) h (by omega)) rfl ?_
    rintro _ _ g23 ⟨rfl, ft22, t22, rfl, ht22, zt22⟩ kt22
    replace kt22 : -2147483648 ≤ t22 ∧ t22 ≤ 2147483647 := kt22
    replace ht22 : -7 ≤ t22 ∧ t22 ≤ -1 := ht22
    have fg23 : jfr w_X12_copy h g23 := jfr_tr f0 ft22 (fun i k q => by unfold w_X12_refuse at q; unfold w_X12_copy; omega)
    replace zt22 : t22 = (-1 : Int) := zt22
    exact st_r0 (ls := []) ⟨rfl, rfl, fg23, t22, rfl, (by omega), trivial⟩
  · replace c21 : ¬ t19 = 0 := by first | exact c21 | exact Int.not_le.mp c21 | exact Int.not_lt.mp c21 | exact Decidable.not_not.mp c21
    refine st_cs (na := 3) (st := [.inl 3, .inl 0, .inl a3]) rfl rfl rfl (c_X12_in a3 0 3 h) rfl ?_
    rintro _ _ _ ⟨rfl, rfl, t24, rfl, ht24, zt24⟩ kt24
    replace kt24 : -2147483648 ≤ t24 ∧ t24 ≤ 2147483647 := kt24
    replace ht24 : 0 ≤ t24 ∧ t24 ≤ 1 := ht24
    replace zt24 : (t24 = 1 ∧ (0 : Int) ≤ a3 ∧ a3 ≤ (3 : Int)) ∨ (t24 = 0 ∧ ¬ ((0 : Int) ≤ a3 ∧ a3 ≤ (3 : Int))) := zt24
    refine And.intro (fun c26 => ?_) (fun c26 => ?_)
    · replace c26 : ¬ t24 = 0 := c26
      show jGo E l 33 229 229 _ 24 [.inr (.inr (.inl 176)), .inl a1, .inl a2, .inl a3, .inl a4, .inl a5, .inr (.inr (.inr ()))] [] 229 jr0 h
      refine jGo_blk qX12_copy_24 ?_
      refine st_gr jo_176 jr_176_3 ?_
      refine st_ai jo_179 (show 0 ≤ a1 by omega) (show a1 < ((4 : Nat) : Int) by omega) (fun v27 ev27 b28 => ?_)
      replace ev27 : v27 = h 179 a1 := ev27
      replace b28 := (jba_179 a1 _).1 b28
      refine And.intro (fun c29 => ?_) (fun c29 => ?_)
      · replace c29 : v27 < 0 := c29
        show jGo E l 33 229 229 _ 42 [.inr (.inr (.inl 176)), .inl a1, .inl a2, .inl a3, .inl a4, .inl a5, .inr (.inr (.inr ()))] [] 229 jr0 h
        refine jGo_blk qX12_copy_42 ?_
        refine st_cv (na := 1) (st := [.inl (-5), .inr (.inr (.inl 176))]) jo_176 rfl rfl rfl (c_X12_refuse (-5) h (by omega)) rfl ?_
        rintro _ _ g31 ⟨rfl, ft30, t30, rfl, ht30, zt30⟩ kt30
        replace kt30 : -2147483648 ≤ t30 ∧ t30 ≤ 2147483647 := kt30
        replace ht30 : -7 ≤ t30 ∧ t30 ≤ -1 := ht30
        have fg31 : jfr w_X12_copy h g31 := jfr_tr f0 ft30 (fun i k q => by unfold w_X12_refuse at q; unfold w_X12_copy; omega)
        replace zt30 : t30 = (-5 : Int) := zt30
        exact st_r0 (ls := []) ⟨rfl, rfl, fg31, t30, rfl, (by omega), trivial⟩
      · replace c29 : 0 ≤ v27 := by first | exact c29 | exact Int.not_le.mp c29 | exact Int.not_lt.mp c29 | exact Decidable.not_not.mp c29
        refine st_gr jo_176 jr_176_3 ?_
        refine st_ai jo_179 (show 0 ≤ a3 by omega) (show a3 < ((4 : Nat) : Int) by omega) (fun v32 ev32 b33 => ?_)
        replace ev32 : v32 = h 179 a3 := ev32
        replace b33 := (jba_179 a3 _).1 b33
        refine And.intro (fun c34 => ?_) (fun c34 => ?_)
        · replace c34 : 0 ≤ v32 := c34
          show jGo E l 33 229 229 _ 49 [.inr (.inr (.inl 176)), .inl a1, .inl a2, .inl a3, .inl a4, .inl a5, .inr (.inr (.inr ()))] [] 229 jr0 h
          refine jGo_blk qX12_copy_49 ?_
          refine And.intro (fun c35 => ?_) (fun c35 => ?_)
          · replace c35 : a5 < 0 := c35
            show jGo E l 33 229 229 _ 97 [.inr (.inr (.inl 176)), .inl a1, .inl a2, .inl a3, .inl a4, .inl a5, .inr (.inr (.inr ()))] [] 229 jr0 h
            refine jGo_blk qX12_copy_97 ?_
            refine st_cv (na := 1) (st := [.inl (-7), .inr (.inr (.inl 176))]) jo_176 rfl rfl rfl (c_X12_refuse (-7) h (by omega)) rfl ?_
            rintro _ _ g37 ⟨rfl, ft36, t36, rfl, ht36, zt36⟩ kt36
            replace kt36 : -2147483648 ≤ t36 ∧ t36 ≤ 2147483647 := kt36
            replace ht36 : -7 ≤ t36 ∧ t36 ≤ -1 := ht36
            have fg37 : jfr w_X12_copy h g37 := jfr_tr f0 ft36 (fun i k q => by unfold w_X12_refuse at q; unfold w_X12_copy; omega)
            replace zt36 : t36 = (-7 : Int) := zt36
            exact st_r0 (ls := []) ⟨rfl, rfl, fg37, t36, rfl, (by omega), trivial⟩
          · replace c35 : 0 ≤ a5 := by first | exact c35 | exact Int.not_le.mp c35 | exact Int.not_lt.mp c35 | exact Decidable.not_not.mp c35
            refine And.intro (fun c38 => ?_) (fun c38 => ?_)
            · replace c38 : 30 < a5 := c38
              show jGo E l 33 229 229 _ 97 [.inr (.inr (.inl 176)), .inl a1, .inl a2, .inl a3, .inl a4, .inl a5, .inr (.inr (.inr ()))] [] 229 jr0 h
              refine jGo_blk qX12_copy_97 ?_
              refine st_cv (na := 1) (st := [.inl (-7), .inr (.inr (.inl 176))]) jo_176 rfl rfl rfl (c_X12_refuse (-7) h (by omega)) rfl ?_
              rintro _ _ g40 ⟨rfl, ft39, t39, rfl, ht39, zt39⟩ kt39
              replace kt39 : -2147483648 ≤ t39 ∧ t39 ≤ 2147483647 := kt39
              replace ht39 : -7 ≤ t39 ∧ t39 ≤ -1 := ht39
              have fg40 : jfr w_X12_copy h g40 := jfr_tr f0 ft39 (fun i k q => by unfold w_X12_refuse at q; unfold w_X12_copy; omega)
              replace zt39 : t39 = (-7 : Int) := zt39
              exact st_r0 (ls := []) ⟨rfl, rfl, fg40, t39, rfl, (by omega), trivial⟩
            · replace c38 : a5 ≤ 30 := by first | exact c38 | exact Int.not_le.mp c38 | exact Int.not_lt.mp c38 | exact Decidable.not_not.mp c38
              refine And.intro (fun c41 => ?_) (fun c41 => ?_)
              · replace c41 : a2 < 0 := c41
                show jGo E l 33 229 229 _ 97 [.inr (.inr (.inl 176)), .inl a1, .inl a2, .inl a3, .inl a4, .inl a5, .inr (.inr (.inr ()))] [] 229 jr0 h
                refine jGo_blk qX12_copy_97 ?_
                refine st_cv (na := 1) (st := [.inl (-7), .inr (.inr (.inl 176))]) jo_176 rfl rfl rfl (c_X12_refuse (-7) h (by omega)) rfl ?_
                rintro _ _ g43 ⟨rfl, ft42, t42, rfl, ht42, zt42⟩ kt42
                replace kt42 : -2147483648 ≤ t42 ∧ t42 ≤ 2147483647 := kt42
                replace ht42 : -7 ≤ t42 ∧ t42 ≤ -1 := ht42
                have fg43 : jfr w_X12_copy h g43 := jfr_tr f0 ft42 (fun i k q => by unfold w_X12_refuse at q; unfold w_X12_copy; omega)
                replace zt42 : t42 = (-7 : Int) := zt42
                exact st_r0 (ls := []) ⟨rfl, rfl, fg43, t42, rfl, (by omega), trivial⟩
              · replace c41 : 0 ≤ a2 := by first | exact c41 | exact Int.not_le.mp c41 | exact Int.not_lt.mp c41 | exact Decidable.not_not.mp c41
                refine And.intro (fun c44 => ?_) (fun c44 => ?_)
                · replace c44 : a4 < 0 := c44
                  show jGo E l 33 229 229 _ 97 [.inr (.inr (.inl 176)), .inl a1, .inl a2, .inl a3, .inl a4, .inl a5, .inr (.inr (.inr ()))] [] 229 jr0 h
                  refine jGo_blk qX12_copy_97 ?_
                  refine st_cv (na := 1) (st := [.inl (-7), .inr (.inr (.inl 176))]) jo_176 rfl rfl rfl (c_X12_refuse (-7) h (by omega)) rfl ?_
                  rintro _ _ g46 ⟨rfl, ft45, t45, rfl, ht45, zt45⟩ kt45
                  replace kt45 : -2147483648 ≤ t45 ∧ t45 ≤ 2147483647 := kt45
                  replace ht45 : -7 ≤ t45 ∧ t45 ≤ -1 := ht45
                  have fg46 : jfr w_X12_copy h g46 := jfr_tr f0 ft45 (fun i k q => by unfold w_X12_refuse at q; unfold w_X12_copy; omega)
                  replace zt45 : t45 = (-7 : Int) := zt45
                  exact st_r0 (ls := []) ⟨rfl, rfl, fg46, t45, rfl, (by omega), trivial⟩
                · replace c44 : 0 ≤ a4 := by first | exact c44 | exact Int.not_le.mp c44 | exact Int.not_lt.mp c44 | exact Decidable.not_not.mp c44
                  refine st_gr jo_176 jr_176_3 ?_
                  refine st_ai jo_179 (show 0 ≤ a1 by omega) (show a1 < ((4 : Nat) : Int) by omega) (fun v47 ev47 b48 => ?_)
                  replace ev47 : v47 = h 179 a1 := ev47
                  replace b48 := (jba_179 a1 _).1 b48
                  have e49 : jw32 (v47 - a5) = v47 - a5 := j32e (by omega) (by omega)
                  refine And.intro (fun c50 => ?_) (fun c50 => ?_)
                  · replace c50 : jw32 (v47 - a5) < a2 := c50
                    show jGo E l 33 229 229 _ 97 [.inr (.inr (.inl 176)), .inl a1, .inl a2, .inl a3, .inl a4, .inl a5, .inr (.inr (.inr ()))] [] 229 jr0 h
                    refine jGo_blk qX12_copy_97 ?_
                    refine st_cv (na := 1) (st := [.inl (-7), .inr (.inr (.inl 176))]) jo_176 rfl rfl rfl (c_X12_refuse (-7) h (by omega)) rfl ?_
                    rintro _ _ g52 ⟨rfl, ft51, t51, rfl, ht51, zt51⟩ kt51
                    replace kt51 : -2147483648 ≤ t51 ∧ t51 ≤ 2147483647 := kt51
                    replace ht51 : -7 ≤ t51 ∧ t51 ≤ -1 := ht51
                    have fg52 : jfr w_X12_copy h g52 := jfr_tr f0 ft51 (fun i k q => by unfold w_X12_refuse at q; unfold w_X12_copy; omega)
                    replace zt51 : t51 = (-7 : Int) := zt51
                    exact st_r0 (ls := []) ⟨rfl, rfl, fg52, t51, rfl, (by omega), trivial⟩
                  · replace c50 : a2 ≤ jw32 (v47 - a5) := by first | exact c50 | exact Int.not_le.mp c50 | exact Int.not_lt.mp c50 | exact Decidable.not_not.mp c50
                    refine st_gr jo_176 jr_176_3 ?_
                    refine st_ai jo_179 (show 0 ≤ a3 by omega) (show a3 < ((4 : Nat) : Int) by omega) (fun v53 ev53 b54 => ?_)
                    replace ev53 : v53 = h 179 a3 := ev53
                    replace b54 := (jba_179 a3 _).1 b54
                    have e55 : jw32 (v53 - a5) = v53 - a5 := j32e (by omega) (by omega)
                    refine And.intro (fun c56 => ?_) (fun c56 => ?_)
                    · replace c56 : a4 ≤ jw32 (v53 - a5) := c56
                      show jGo E l 33 229 229 _ 104 [.inr (.inr (.inl 176)), .inl a1, .inl a2, .inl a3, .inl a4, .inl a5, .inr (.inr (.inr ()))] [] 229 jr0 h
                      refine jGo_blk qX12_copy_104 ?_
                      show jGo E l 33 229 229 _ 107 [.inr (.inr (.inl 176)), .inl a1, .inl a2, .inl a3, .inl a4, .inl a5, .inl 0] [] 229 jr0 h
                      exact (key 1000000000000).1 0 h (by omega) (by omega) f0 (by omega)
                    · replace c56 : jw32 (v53 - a5) < a4 := by first | exact c56 | exact Int.not_le.mp c56 | exact Int.not_lt.mp c56 | exact Decidable.not_not.mp c56
                      show jGo E l 33 229 229 _ 97 [.inr (.inr (.inl 176)), .inl a1, .inl a2, .inl a3, .inl a4, .inl a5, .inr (.inr (.inr ()))] [] 229 jr0 h
                      refine jGo_blk qX12_copy_97 ?_
                      refine st_cv (na := 1) (st := [.inl (-7), .inr (.inr (.inl 176))]) jo_176 rfl rfl rfl (c_X12_refuse (-7) h (by omega)) rfl ?_
                      rintro _ _ g58 ⟨rfl, ft57, t57, rfl, ht57, zt57⟩ kt57
                      replace kt57 : -2147483648 ≤ t57 ∧ t57 ≤ 2147483647 := kt57
                      replace ht57 : -7 ≤ t57 ∧ t57 ≤ -1 := ht57
                      have fg58 : jfr w_X12_copy h g58 := jfr_tr f0 ft57 (fun i k q => by unfold w_X12_refuse at q; unfold w_X12_copy; omega)
                      replace zt57 : t57 = (-7 : Int) := zt57
                      exact st_r0 (ls := []) ⟨rfl, rfl, fg58, t57, rfl, (by omega), trivial⟩
        · replace c34 : v32 < 0 := by first | exact c34 | exact Int.not_le.mp c34 | exact Int.not_lt.mp c34 | exact Decidable.not_not.mp c34
          show jGo E l 33 229 229 _ 42 [.inr (.inr (.inl 176)), .inl a1, .inl a2, .inl a3, .inl a4, .inl a5, .inr (.inr (.inr ()))] [] 229 jr0 h
          refine jGo_blk qX12_copy_42 ?_
          refine st_cv (na := 1) (st := [.inl (-5), .inr (.inr (.inl 176))]) jo_176 rfl rfl rfl (c_X12_refuse (-5) h (by omega)) rfl ?_
          rintro _ _ g60 ⟨rfl, ft59, t59, rfl, ht59, zt59⟩ kt59
          replace kt59 : -2147483648 ≤ t59 ∧ t59 ≤ 2147483647 := kt59
          replace ht59 : -7 ≤ t59 ∧ t59 ≤ -1 := ht59
          have fg60 : jfr w_X12_copy h g60 := jfr_tr f0 ft59 (fun i k q => by unfold w_X12_refuse at q; unfold w_X12_copy; omega)
          replace zt59 : t59 = (-5 : Int) := zt59
          exact st_r0 (ls := []) ⟨rfl, rfl, fg60, t59, rfl, (by omega), trivial⟩
    · replace c26 : t24 = 0 := by first | exact c26 | exact Int.not_le.mp c26 | exact Int.not_lt.mp c26 | exact Decidable.not_not.mp c26
      show jGo E l 33 229 229 _ 18 [.inr (.inr (.inl 176)), .inl a1, .inl a2, .inl a3, .inl a4, .inl a5, .inr (.inr (.inr ()))] [] 229 jr0 h
      refine jGo_blk qX12_copy_18 ?_
      refine st_cv (na := 1) (st := [.inl (-1), .inr (.inr (.inl 176))]) jo_176 rfl rfl rfl (c_X12_refuse (-1) h (by omega)) rfl ?_
      rintro _ _ g62 ⟨rfl, ft61, t61, rfl, ht61, zt61⟩ kt61
      replace kt61 : -2147483648 ≤ t61 ∧ t61 ≤ 2147483647 := kt61
      replace ht61 : -7 ≤ t61 ∧ t61 ≤ -1 := ht61
      have fg62 : jfr w_X12_copy h g62 := jfr_tr f0 ft61 (fun i k q => by unfold w_X12_refuse at q; unfold w_X12_copy; omega)
      replace zt61 : t61 = (-1 : Int) := zt61
      exact st_r0 (ls := []) ⟨rfl, rfl, fg62, t61, rfl, (by omega), trivial⟩
