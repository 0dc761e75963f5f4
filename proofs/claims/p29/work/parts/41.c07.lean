def w_X11_task (i k : Int) : Prop := (i = 1) ∨ (18 ≤ i ∧ i ≤ 20) ∨ (22 ≤ i ∧ i ≤ 24) ∨ (i = 111 ∧ 9 ≤ k ∧ k ≤ 11)
theorem ws_X11_refused__X11_task (i k : Int) (q : w_X11_refused i k) : w_X11_task i k := by
  unfold w_X11_refused at q; unfold w_X11_task
  exact (Or.inl (by omega))
theorem ws_X7_forget__X11_task (i k : Int) (q : w_X7_forget i k) : w_X11_task i k := by
  unfold w_X7_forget at q; unfold w_X11_task
  exact (Or.inr (Or.inr (Or.inr (by omega))))
def k_X11_task (a1 : Int) (a2 : Int) (a3 : Int) (a4 : Int) (h : JH) (v : Option JV) (r' g : JH) : Prop := r' = jr0 ∧ jfr w_X11_task h g ∧ ∃ x : Int, v = some (.inl x) ∧ (-7 ≤ x ∧ x ≤ 2000) ∧ ((P_X11_task a1 a2 a3 a4 x h g) ∧ jFg (x < 0) h g)
set_option maxHeartbeats 4000000 in
theorem c_X11_task {E : JE} {l : Launch} (a1 : Int) (a2 : Int) (a3 : Int) (a4 : Int) (h : JH) : jMt E l 52 [.inr (.inr (.inl 0)), .inl a1, .inl a2, .inl a3, .inl a4] 229 jr0 h (k_X11_task a1 a2 a3 a4 h) := by
  refine jMt0 (nL := 7) (ls := [.inr (.inr (.inl 0)), .inl a1, .inl a2, .inl a3, .inl a4, .inr (.inr (.inr ())), .inr (.inr (.inr ()))]) (by decide +kernel) (by decide +kernel) (by decide +kernel) rfl rfl ?_
  have f0 : jfr w_X11_task h h := jfr_rf _ _
  refine jGo_blk qX11_task_0 ?_
  refine st_cs (na := 2) (st := [.inl 3, .inl a1]) rfl rfl rfl (c_X11_within a1 3 h) rfl ?_
  rintro _ _ _ ⟨rfl, rfl, t1, rfl, ht1, zt1⟩ kt1
  replace kt1 : -2147483648 ≤ t1 ∧ t1 ≤ 2147483647 := kt1
  replace ht1 : 0 ≤ t1 ∧ t1 ≤ 1 := ht1
  replace zt1 : (t1 = 1 ∧ 0 ≤ a1 ∧ a1 < (3 : Int)) ∨ (t1 = 0 ∧ ¬ (0 ≤ a1 ∧ a1 < (3 : Int))) := zt1
  refine And.intro (fun c3 => ?_) (fun c3 => ?_)
  · replace c3 : t1 = 0 := c3
    show jGo E l 52 229 229 _ 25 [.inr (.inr (.inl 0)), .inl a1, .inl a2, .inl a3, .inl a4, .inr (.inr (.inr ())), .inr (.inr (.inr ()))] [] 229 jr0 h
    refine jGo_blk qX11_task_25 ?_
    show jGo E l 52 229 229 _ 38 [.inr (.inr (.inl 0)), .inl a1, .inl a2, .inl a3, .inl a4, .inr (.inr (.inr ())), .inr (.inr (.inr ()))] [.inl (-1)] 229 jr0 h
    refine jGo_blk qX11_task_38 ?_
    refine And.intro (fun c4 => ?_) (fun c4 => ?_)
    · replace c4 : (-1 : Int) = 0 := c4
      exfalso; omega
    · replace c4 : ¬ (-1 : Int) = 0 := by first | exact c4 | exact Int.not_le.mp c4 | exact Int.not_lt.mp c4 | exact Decidable.not_not.mp c4
      refine st_cv (na := 1) (st := [.inl (-1), .inr (.inr (.inl 0))]) jo_0 rfl rfl rfl (c_X11_refused (-1) h (by omega)) rfl ?_
      rintro _ _ g6 ⟨rfl, ft5, t5, rfl, ht5, zt5⟩ kt5
      replace kt5 : -2147483648 ≤ t5 ∧ t5 ≤ 2147483647 := kt5
      replace ht5 : -7 ≤ t5 ∧ t5 ≤ -1 := ht5
      have fg6 : jfr w_X11_task h g6 := jfr_tr f0 ft5 ws_X11_refused__X11_task
      replace zt5 : t5 = (-1 : Int) := zt5
      have hs7 : ∀ i k : Int, 22 ≤ i → i ≤ 24 → g6 i k = h i k := fun i k p1 p2 => (ft5 i k (by unfold w_X11_refused; omega))
      have hs8 : ∀ i k : Int, 18 ≤ i → i ≤ 20 → g6 i k = h i k := fun i k p1 p2 => (ft5 i k (by unfold w_X11_refused; omega))
      exact st_r0 (ls := []) ⟨rfl, rfl, fg6, t5, rfl, (by omega), (by refine ⟨by unfold P_X11_task; by_cases zz : t5 = -4 <;> first | exact Or.inl ⟨by omega, hs7, hs8⟩ | exact Or.inr (Or.inl ⟨by omega, hs7, hs8⟩) | exact Or.inr (Or.inr (Or.inl ⟨by omega, hs7, hs8⟩)), Or.inr ⟨by omega, fun i k p1 => (ft5 i k (by first | exact p1 | (unfold w_X11_refused; omega)))⟩⟩)⟩
  · replace c3 : ¬ t1 = 0 := by first | exact c3 | exact Int.not_le.mp c3 | exact Int.not_lt.mp c3 | exact Decidable.not_not.mp c3
    refine st_cs (na := 2) (st := [.inl 6, .inl a2]) rfl rfl rfl (c_X11_within a2 6 h) rfl ?_
    rintro _ _ _ ⟨rfl, rfl, t9, rfl, ht9, zt9⟩ kt9
    replace kt9 : -2147483648 ≤ t9 ∧ t9 ≤ 2147483647 := kt9
    replace ht9 : 0 ≤ t9 ∧ t9 ≤ 1 := ht9
    replace zt9 : (t9 = 1 ∧ 0 ≤ a2 ∧ a2 < (6 : Int)) ∨ (t9 = 0 ∧ ¬ (0 ≤ a2 ∧ a2 < (6 : Int))) := zt9
    refine And.intro (fun c11 => ?_) (fun c11 => ?_)
    · replace c11 : t9 = 0 := c11
      show jGo E l 52 229 229 _ 25 [.inr (.inr (.inl 0)), .inl a1, .inl a2, .inl a3, .inl a4, .inr (.inr (.inr ())), .inr (.inr (.inr ()))] [] 229 jr0 h
      refine jGo_blk qX11_task_25 ?_
      show jGo E l 52 229 229 _ 38 [.inr (.inr (.inl 0)), .inl a1, .inl a2, .inl a3, .inl a4, .inr (.inr (.inr ())), .inr (.inr (.inr ()))] [.inl (-1)] 229 jr0 h
      refine jGo_blk qX11_task_38 ?_
      refine And.intro (fun c12 => ?_) (fun c12 => ?_)
      · replace c12 : (-1 : Int) = 0 := c12
        exfalso; omega
      · replace c12 : ¬ (-1 : Int) = 0 := by first | exact c12 | exact Int.not_le.mp c12 | exact Int.not_lt.mp c12 | exact Decidable.not_not.mp c12
        refine st_cv (na := 1) (st := [.inl (-1), .inr (.inr (.inl 0))]) jo_0 rfl rfl rfl (c_X11_refused (-1) h (by omega)) rfl ?_
        rintro _ _ g14 ⟨rfl, ft13, t13, rfl, ht13, zt13⟩ kt13
        replace kt13 : -2147483648 ≤ t13 ∧ t13 ≤ 2147483647 := kt13
        replace ht13 : -7 ≤ t13 ∧ t13 ≤ -1 := ht13
        have fg14 : jfr w_X11_task h g14 := jfr_tr f0 ft13 ws_X11_refused__X11_task
        replace zt13 : t13 = (-1 : Int) := zt13
        have hs15 : ∀ i k : Int, 22 ≤ i → i ≤ 24 → g14 i k = h i k := fun i k p1 p2 => (ft13 i k (by unfold w_X11_refused; omega))
        have hs16 : ∀ i k : Int, 18 ≤ i → i ≤ 20 → g14 i k = h i k := fun i k p1 p2 => (ft13 i k (by unfold w_X11_refused; omega))
        exact st_r0 (ls := []) ⟨rfl, rfl, fg14, t13, rfl, (by omega), (by refine ⟨by unfold P_X11_task; by_cases zz : t13 = -4 <;> first | exact Or.inl ⟨by omega, hs15, hs16⟩ | exact Or.inr (Or.inl ⟨by omega, hs15, hs16⟩) | exact Or.inr (Or.inr (Or.inl ⟨by omega, hs15, hs16⟩)), Or.inr ⟨by omega, fun i k p1 => (ft13 i k (by first | exact p1 | (unfold w_X11_refused; omega)))⟩⟩)⟩
    · replace c11 : ¬ t9 = 0 := by first | exact c11 | exact Int.not_le.mp c11 | exact Int.not_lt.mp c11 | exact Decidable.not_not.mp c11
      refine st_cs (na := 2) (st := [.inl 4, .inl a3]) rfl rfl rfl (c_X11_within a3 4 h) rfl ?_
      rintro _ _ _ ⟨rfl, rfl, t17, rfl, ht17, zt17⟩ kt17
      replace kt17 : -2147483648 ≤ t17 ∧ t17 ≤ 2147483647 := kt17
      replace ht17 : 0 ≤ t17 ∧ t17 ≤ 1 := ht17
      replace zt17 : (t17 = 1 ∧ 0 ≤ a3 ∧ a3 < (4 : Int)) ∨ (t17 = 0 ∧ ¬ (0 ≤ a3 ∧ a3 < (4 : Int))) := zt17
      refine And.intro (fun c19 => ?_) (fun c19 => ?_)
      · replace c19 : ¬ t17 = 0 := c19
        show jGo E l 52 229 229 _ 29 [.inr (.inr (.inl 0)), .inl a1, .inl a2, .inl a3, .inl a4, .inr (.inr (.inr ())), .inr (.inr (.inr ()))] [] 229 jr0 h
        refine jGo_blk qX11_task_29 ?_
        refine st_cs (na := 3) (st := [.inl 2000, .inl 0, .inl a4]) rfl rfl rfl (c_X11_outside a4 0 2000 h) rfl ?_
        rintro _ _ _ ⟨rfl, rfl, t20, rfl, ht20, zt20⟩ kt20
        replace kt20 : -2147483648 ≤ t20 ∧ t20 ≤ 2147483647 := kt20
        replace ht20 : -6 ≤ t20 ∧ t20 ≤ 0 := ht20
        replace zt20 : (t20 = -4 ∧ a4 < (0 : Int)) ∨ (t20 = -6 ∧ (0 : Int) ≤ a4 ∧ (2000 : Int) < a4) ∨ (t20 = 0 ∧ (0 : Int) ≤ a4 ∧ a4 ≤ (2000 : Int)) := zt20
        show jGo E l 52 229 229 _ 38 [.inr (.inr (.inl 0)), .inl a1, .inl a2, .inl a3, .inl a4, .inr (.inr (.inr ())), .inr (.inr (.inr ()))] [.inl t20] 229 jr0 h
        refine jGo_blk qX11_task_38 ?_
        refine And.intro (fun c22 => ?_) (fun c22 => ?_)
        · replace c22 : t20 = 0 := c22
          show jGo E l 52 229 229 _ 52 [.inr (.inr (.inl 0)), .inl a1, .inl a2, .inl a3, .inl a4, .inl t20, .inr (.inr (.inr ()))] [] 229 jr0 h
          refine jGo_blk qX11_task_52 ?_
          refine st_gr jo_0 jr_0_11 ?_
          refine st_cv (na := 0) (st := [.inr (.inr (.inl 111))]) jo_111 rfl rfl rfl (c_X7_forget h) rfl ?_
          rintro _ _ g24 ⟨rfl, ft23, rfl, zt23⟩ kt23
          have fg24 : jfr w_X11_task h g24 := jfr_tr f0 ft23 ws_X7_forget__X11_task
          replace zt23 : g24 111 9 = 0 ∧ g24 111 10 = 0 ∧ g24 111 11 = 0 := zt23
          refine st_gr jo_0 jr_0_4 ?_
          refine st_gr jo_16 jr_16_1 ?_
          refine st_ar jo_21 (by decide) (show 0 ≤ a1 by omega) (show a1 < ((3 : Nat) : Int) by omega) (fun u25 eu25 => ?_)
          replace eu25 : u25 = jr0 21 a1 := eu25
          have qu25 : u25 = 22 + a1 := eu25.trans (jrow_21 a1 (by omega) (by omega)).1
          have ou25 : jF 229 u25 1 6 := by rw [eu25]; exact (jrow_21 a1 (by omega) (by omega)).2.1
          have wu25 : ∀ j v : Int, jbd u25 j v ↔ (0 ≤ v ∧ v ≤ 2000) := by rw [eu25]; exact (jrow_21 a1 (by omega) (by omega)).2.2
          refine st_ai ou25 (show 0 ≤ a2 by omega) (show a2 < ((6 : Nat) : Int) by omega) (fun v26 ev26 b27 => ?_)
          replace ev26 : v26 = g24 u25 a2 := ev26
          replace b27 := (wu25 a2 _).1 b27
          refine st_gr jo_0 jr_0_4 ?_
          refine st_gr jo_16 jr_16_0 ?_
          refine st_ar jo_17 (by decide) (show 0 ≤ a1 by omega) (show a1 < ((3 : Nat) : Int) by omega) (fun u28 eu28 => ?_)
          replace eu28 : u28 = jr0 17 a1 := eu28
          have qu28 : u28 = 18 + a1 := eu28.trans (jrow_17 a1 (by omega) (by omega)).1
          have ou28 : jF 229 u28 1 6 := by rw [eu28]; exact (jrow_17 a1 (by omega) (by omega)).2.1
          have wu28 : ∀ j v : Int, jbd u28 j v ↔ (0 ≤ v ∧ v ≤ 3) := by rw [eu28]; exact (jrow_17 a1 (by omega) (by omega)).2.2
          refine st_si ou28 (show 0 ≤ a2 by omega) (show a2 < ((6 : Nat) : Int) by omega) (fun hx => (wu28 _ _).2 (show 0 ≤ a3 ∧ a3 ≤ 3 by omega)) (fun g29 eg29 => ?_)
          replace eg29 : g29 = jup g24 u28 a2 a3 := eg29
          have fg29 : jfr w_X11_task h g29 := jfr_up fg24 eg29 (by unfold w_X11_task; omega)
          have e30 : g29 u28 a2 = a3 := jup_s eg29
          refine st_gr jo_0 jr_0_4 ?_
          refine st_gr jo_16 jr_16_1 ?_
          refine st_ar jo_21 (by decide) (show 0 ≤ a1 by omega) (show a1 < ((3 : Nat) : Int) by omega) (fun u31 eu31 => ?_)
          replace eu31 : u31 = jr0 21 a1 := eu31
          have qu31 : u31 = 22 + a1 := eu31.trans (jrow_21 a1 (by omega) (by omega)).1
          have ou31 : jF 229 u31 1 6 := by rw [eu31]; exact (jrow_21 a1 (by omega) (by omega)).2.1
          have wu31 : ∀ j v : Int, jbd u31 j v ↔ (0 ≤ v ∧ v ≤ 2000) := by rw [eu31]; exact (jrow_21 a1 (by omega) (by omega)).2.2
          refine st_si ou31 (show 0 ≤ a2 by omega) (show a2 < ((6 : Nat) : Int) by omega) (fun hx => (wu31 _ _).2 (show 0 ≤ a4 ∧ a4 ≤ 2000 by omega)) (fun g32 eg32 => ?_)
          replace eg32 : g32 = jup g29 u31 a2 a4 := eg32
          have fg32 : jfr w_X11_task h g32 := jfr_up fg29 eg32 (by unfold w_X11_task; omega)
          have e33 : g32 u31 a2 = a4 := jup_s eg32
          have e34 : g24 u25 a2 = h u25 a2 := (ft23 u25 a2 (by unfold w_X7_forget; omega))
          have e35 : h u25 a2 = h (22 + a1) a2 := by rw [qu25]
          have hs36 : g32 (22 + a1) a2 = a4 := by
            rw [show 22 + a1 = u31 by omega]
            exact jup_s eg32
          have hs37 : ∀ i k : Int, 22 ≤ i → i ≤ 24 → ¬ (i = 22 + a1 ∧ k = a2) → g32 i k = h i k := fun i k p1 p2 p3 => ((jup_o eg32 (by first | exact fun q => absurd q.1 (by decide) | exact fun q => absurd q.2 (by decide) | omega)).trans ((jup_o eg29 (by first | exact fun q => absurd q.1 (by decide) | exact fun q => absurd q.2 (by decide) | omega)).trans (ft23 i k (by unfold w_X7_forget; omega))))
          have hs38 : g32 (18 + a1) a2 = a3 := by
            rw [show 18 + a1 = u28 by omega]
            exact (jup_o eg32 (by first | exact fun q => absurd q.1 (by decide) | exact fun q => absurd q.2 (by decide) | omega)).trans (jup_s eg29)
          have hs39 : ∀ i k : Int, 18 ≤ i → i ≤ 20 → ¬ (i = 18 + a1 ∧ k = a2) → g32 i k = h i k := fun i k p1 p2 p3 => ((jup_o eg32 (by first | exact fun q => absurd q.1 (by decide) | exact fun q => absurd q.2 (by decide) | omega)).trans ((jup_o eg29 (by first | exact fun q => absurd q.1 (by decide) | exact fun q => absurd q.2 (by decide) | omega)).trans (ft23 i k (by unfold w_X7_forget; omega))))
          exact st_r0 (ls := []) ⟨rfl, rfl, fg32, v26, rfl, (by omega), (by refine ⟨by unfold P_X11_task; first | exact Or.inr (Or.inr (Or.inr ⟨by omega, ⟨hs36, hs37⟩, ⟨hs38, hs39⟩⟩)), Or.inl ?_⟩; exact ⟨(((jup_o eg32 (by first | exact fun q => absurd q.1 (by decide) | exact fun q => absurd q.2 (by decide) | omega)).trans (jup_o eg29 (by first | exact fun q => absurd q.1 (by decide) | exact fun q => absurd q.2 (by decide) | omega)))).trans zt23.1, (((jup_o eg32 (by first | exact fun q => absurd q.1 (by decide) | exact fun q => absurd q.2 (by decide) | omega)).trans (jup_o eg29 (by first | exact fun q => absurd q.1 (by decide) | exact fun q => absurd q.2 (by decide) | omega)))).trans zt23.2.1, (((jup_o eg32 (by first | exact fun q => absurd q.1 (by decide) | exact fun q => absurd q.2 (by decide) | omega)).trans (jup_o eg29 (by first | exact fun q => absurd q.1 (by decide) | exact fun q => absurd q.2 (by decide) | omega)))).trans zt23.2.2⟩)⟩
        · replace c22 : ¬ t20 = 0 := by first | exact c22 | exact Int.not_le.mp c22 | exact Int.not_lt.mp c22 | exact Decidable.not_not.mp c22
          refine st_cv (na := 1) (st := [.inl t20, .inr (.inr (.inl 0))]) jo_0 rfl rfl rfl (c_X11_refused t20 h (by omega)) rfl ?_
          rintro _ _ g41 ⟨rfl, ft40, t40, rfl, ht40, zt40⟩ kt40
          replace kt40 : -2147483648 ≤ t40 ∧ t40 ≤ 2147483647 := kt40
          replace ht40 : -7 ≤ t40 ∧ t40 ≤ -1 := ht40
          have fg41 : jfr w_X11_task h g41 := jfr_tr f0 ft40 ws_X11_refused__X11_task
          replace zt40 : t40 = t20 := zt40
          have hs42 : ∀ i k : Int, 22 ≤ i → i ≤ 24 → g41 i k = h i k := fun i k p1 p2 => (ft40 i k (by unfold w_X11_refused; omega))
          have hs43 : ∀ i k : Int, 18 ≤ i → i ≤ 20 → g41 i k = h i k := fun i k p1 p2 => (ft40 i k (by unfold w_X11_refused; omega))
          exact st_r0 (ls := []) ⟨rfl, rfl, fg41, t40, rfl, (by omega), (by refine ⟨by unfold P_X11_task; by_cases zz : t40 = -4 <;> first | exact Or.inl ⟨by omega, hs42, hs43⟩ | exact Or.inr (Or.inl ⟨by omega, hs42, hs43⟩) | exact Or.inr (Or.inr (Or.inl ⟨by omega, hs42, hs43⟩)), Or.inr ⟨by omega, fun i k p1 => (ft40 i k (by first | exact p1 | (unfold w_X11_refused; omega)))⟩⟩)⟩
      · replace c19 : t17 = 0 := by first | exact c19 | exact Int.not_le.mp c19 | exact Int.not_lt.mp c19 | exact Decidable.not_not.mp c19
        show jGo E l 52 229 229 _ 25 [.inr (.inr (.inl 0)), .inl a1, .inl a2, .inl a3, .inl a4, .inr (.inr (.inr ())), .inr (.inr (.inr ()))] [] 229 jr0 h
        refine jGo_blk qX11_task_25 ?_
        show jGo E l 52 229 229 _ 38 [.inr (.inr (.inl 0)), .inl a1, .inl a2, .inl a3, .inl a4, .inr (.inr (.inr ())), .inr (.inr (.inr ()))] [.inl (-1)] 229 jr0 h
        refine jGo_blk qX11_task_38 ?_
        refine And.intro (fun c44 => ?_) (fun c44 => ?_)
        · replace c44 : (-1 : Int) = 0 := c44
          exfalso; omega
        · replace c44 : ¬ (-1 : Int) = 0 := by first | exact c44 | exact Int.not_le.mp c44 | exact Int.not_lt.mp c44 | exact Decidable.not_not.mp c44
          refine st_cv (na := 1) (st := [.inl (-1), .inr (.inr (.inl 0))]) jo_0 rfl rfl rfl (c_X11_refused (-1) h (by omega)) rfl ?_
          rintro _ _ g46 ⟨rfl, ft45, t45, rfl, ht45, zt45⟩ kt45
          replace kt45 : -2147483648 ≤ t45 ∧ t45 ≤ 2147483647 := kt45
          replace ht45 : -7 ≤ t45 ∧ t45 ≤ -1 := ht45
          have fg46 : jfr w_X11_task h g46 := jfr_tr f0 ft45 ws_X11_refused__X11_task
          replace zt45 : t45 = (-1 : Int) := zt45
          have hs47 : ∀ i k : Int, 22 ≤ i → i ≤ 24 → g46 i k = h i k := fun i k p1 p2 => (ft45 i k (by unfold w_X11_refused; omega))
          have hs48 : ∀ i k : Int, 18 ≤ i → i ≤ 20 → g46 i k = h i k := fun i k p1 p2 => (ft45 i k (by unfold w_X11_refused; omega))
          exact st_r0 (ls := []) ⟨rfl, rfl, fg46, t45, rfl, (by omega), (by refine ⟨by unfold P_X11_task; by_cases zz : t45 = -4 <;> first | exact Or.inl ⟨by omega, hs47, hs48⟩ | exact Or.inr (Or.inl ⟨by omega, hs47, hs48⟩) | exact Or.inr (Or.inr (Or.inl ⟨by omega, hs47, hs48⟩)), Or.inr ⟨by omega, fun i k p1 => (ft45 i k (by first | exact p1 | (unfold w_X11_refused; omega)))⟩⟩)⟩

def w_X12_task (i k : Int) : Prop := (186 ≤ i ∧ i ≤ 187) ∨ (i = 219)
theorem ws_X12_refuse__X12_task (i k : Int) (q : w_X12_refuse i k) : w_X12_task i k := by
  unfold w_X12_refuse at q; unfold w_X12_task
  exact (Or.inr (by omega))
def k_X12_task (a1 : Int) (a2 : Int) (a3 : Int) (a4 : Int) (h : JH) (v : Option JV) (r' g : JH) : Prop := r' = jr0 ∧ jfr w_X12_task h g ∧ ∃ x : Int, v = some (.inl x) ∧ (-7 ≤ x ∧ x ≤ 2000) ∧ ((P_X12_task a1 a2 a3 a4 x h g) ∧ jRx (x < 0) h g)
set_option maxHeartbeats 4000000 in
theorem c_X12_task {E : JE} {l : Launch} (a1 : Int) (a2 : Int) (a3 : Int) (a4 : Int) (h : JH) : jMt E l 53 [.inr (.inr (.inl 176)), .inl a1, .inl a2, .inl a3, .inl a4] 229 jr0 h (k_X12_task a1 a2 a3 a4 h) := by
  refine jMt0 (nL := 6) (ls := [.inr (.inr (.inl 176)), .inl a1, .inl a2, .inl a3, .inl a4, .inr (.inr (.inr ()))]) (by decide +kernel) (by decide +kernel) (by decide +kernel) rfl rfl ?_
  have f0 : jfr w_X12_task h h := jfr_rf _ _
  refine jGo_blk qX12_task_0 ?_
  refine st_cs (na := 3) (st := [.inl 2, .inl 0, .inl a1]) rfl rfl rfl (c_X12_in a1 0 2 h) rfl ?_
  rintro _ _ _ ⟨rfl, rfl, t1, rfl, ht1, zt1⟩ kt1
  replace kt1 : -2147483648 ≤ t1 ∧ t1 ≤ 2147483647 := kt1
  replace ht1 : 0 ≤ t1 ∧ t1 ≤ 1 := ht1
  replace zt1 : (t1 = 1 ∧ (0 : Int) ≤ a1 ∧ a1 ≤ (2 : Int)) ∨ (t1 = 0 ∧ ¬ ((0 : Int) ≤ a1 ∧ a1 ≤ (2 : Int))) := zt1
  refine And.intro (fun c3 => ?_) (fun c3 => ?_)
  · replace c3 : t1 = 0 := c3
    show jGo E l 53 229 229 _ 27 [.inr (.inr (.inl 176)), .inl a1, .inl a2, .inl a3, .inl a4, .inr (.inr (.inr ()))] [] 229 jr0 h
    refine jGo_blk qX12_task_27 ?_
    refine st_cv (na := 1) (st := [.inl (-1), .inr (.inr (.inl 176))]) jo_176 rfl rfl rfl (c_X12_refuse (-1) h (by omega)) rfl ?_
    rintro _ _ g5 ⟨rfl, ft4, t4, rfl, ht4, zt4⟩ kt4
    replace kt4 : -2147483648 ≤ t4 ∧ t4 ≤ 2147483647 := kt4
    replace ht4 : -7 ≤ t4 ∧ t4 ≤ -1 := ht4
    have fg5 : jfr w_X12_task h g5 := jfr_tr f0 ft4 ws_X12_refuse__X12_task
    replace zt4 : t4 = (-1 : Int) := zt4
    have hs6 : ∀ i k : Int, 187 ≤ i → i ≤ 187 → g5 i k = h i k := fun i k p1 p2 => (ft4 i k (by unfold w_X12_refuse; omega))
    have hs7 : ∀ i k : Int, 186 ≤ i → i ≤ 186 → g5 i k = h i k := fun i k p1 p2 => (ft4 i k (by unfold w_X12_refuse; omega))
    exact st_r0 (ls := []) ⟨rfl, rfl, fg5, t4, rfl, (by omega), (by refine ⟨by unfold P_X12_task; by_cases zz : t4 = -4 <;> first | exact Or.inl ⟨by omega, hs6, hs7⟩ | exact Or.inr (Or.inl ⟨by omega, hs6, hs7⟩) | exact Or.inr (Or.inr (Or.inl ⟨by omega, hs6, hs7⟩)), fun _ i k q9 => ?_⟩; exact (ft4 i k (jzma_w_X12_refuse q9)))⟩
  · replace c3 : ¬ t1 = 0 := by first | exact c3 | exact Int.not_le.mp c3 | exact Int.not_lt.mp c3 | exact Decidable.not_not.mp c3
    refine st_cs (na := 3) (st := [.inl 5, .inl 0, .inl a2]) rfl rfl rfl (c_X12_in a2 0 5 h) rfl ?_
    rintro _ _ _ ⟨rfl, rfl, t8, rfl, ht8, zt8⟩ kt8
    replace kt8 : -2147483648 ≤ t8 ∧ t8 ≤ 2147483647 := kt8
    replace ht8 : 0 ≤ t8 ∧ t8 ≤ 1 := ht8
    replace zt8 : (t8 = 1 ∧ (0 : Int) ≤ a2 ∧ a2 ≤ (5 : Int)) ∨ (t8 = 0 ∧ ¬ ((0 : Int) ≤ a2 ∧ a2 ≤ (5 : Int))) := zt8
    refine And.intro (fun c10 => ?_) (fun c10 => ?_)
    · replace c10 : t8 = 0 := c10
      show jGo E l 53 229 229 _ 27 [.inr (.inr (.inl 176)), .inl a1, .inl a2, .inl a3, .inl a4, .inr (.inr (.inr ()))] [] 229 jr0 h
      refine jGo_blk qX12_task_27 ?_
      refine st_cv (na := 1) (st := [.inl (-1), .inr (.inr (.inl 176))]) jo_176 rfl rfl rfl (c_X12_refuse (-1) h (by omega)) rfl ?_
      rintro _ _ g12 ⟨rfl, ft11, t11, rfl, ht11, zt11⟩ kt11
      replace kt11 : -2147483648 ≤ t11 ∧ t11 ≤ 2147483647 := kt11
      replace ht11 : -7 ≤ t11 ∧ t11 ≤ -1 := ht11
      have fg12 : jfr w_X12_task h g12 := jfr_tr f0 ft11 ws_X12_refuse__X12_task
      replace zt11 : t11 = (-1 : Int) := zt11
      have hs13 : ∀ i k : Int, 187 ≤ i → i ≤ 187 → g12 i k = h i k := fun i k p1 p2 => (ft11 i k (by unfold w_X12_refuse; omega))
      have hs14 : ∀ i k : Int, 186 ≤ i → i ≤ 186 → g12 i k = h i k := fun i k p1 p2 => (ft11 i k (by unfold w_X12_refuse; omega))
      exact st_r0 (ls := []) ⟨rfl, rfl, fg12, t11, rfl, (by omega), (by refine ⟨by unfold P_X12_task; by_cases zz : t11 = -4 <;> first | exact Or.inl ⟨by omega, hs13, hs14⟩ | exact Or.inr (Or.inl ⟨by omega, hs13, hs14⟩) | exact Or.inr (Or.inr (Or.inl ⟨by omega, hs13, hs14⟩)), fun _ i k q9 => ?_⟩; exact (ft11 i k (jzma_w_X12_refuse q9)))⟩
    · replace c10 : ¬ t8 = 0 := by first | exact c10 | exact Int.not_le.mp c10 | exact Int.not_lt.mp c10 | exact Decidable.not_not.mp c10
      refine st_cs (na := 3) (st := [.inl 3, .inl 0, .inl a3]) rfl rfl rfl (c_X12_in a3 0 3 h) rfl ?_
      rintro _ _ _ ⟨rfl, rfl, t15, rfl, ht15, zt15⟩ kt15
      replace kt15 : -2147483648 ≤ t15 ∧ t15 ≤ 2147483647 := kt15
      replace ht15 : 0 ≤ t15 ∧ t15 ≤ 1 := ht15
      replace zt15 : (t15 = 1 ∧ (0 : Int) ≤ a3 ∧ a3 ≤ (3 : Int)) ∨ (t15 = 0 ∧ ¬ ((0 : Int) ≤ a3 ∧ a3 ≤ (3 : Int))) := zt15
      refine And.intro (fun c17 => ?_) (fun c17 => ?_)
      · replace c17 : ¬ t15 = 0 := c17
        show jGo E l 53 229 229 _ 33 [.inr (.inr (.inl 176)), .inl a1, .inl a2, .inl a3, .inl a4, .inr (.inr (.inr ()))] [] 229 jr0 h
        refine jGo_blk qX12_task_33 ?_
        refine And.intro (fun c18 => ?_) (fun c18 => ?_)
        · replace c18 : 0 ≤ a4 := c18
          show jGo E l 53 229 229 _ 45 [.inr (.inr (.inl 176)), .inl a1, .inl a2, .inl a3, .inl a4, .inr (.inr (.inr ()))] [] 229 jr0 h
          refine jGo_blk qX12_task_45 ?_
          refine And.intro (fun c19 => ?_) (fun c19 => ?_)
          · replace c19 : a4 ≤ 2000 := c19
            show jGo E l 53 229 229 _ 60 [.inr (.inr (.inl 176)), .inl a1, .inl a2, .inl a3, .inl a4, .inr (.inr (.inr ()))] [] 229 jr0 h
            refine jGo_blk qX12_task_60 ?_
            refine st_gr jo_176 jr_176_12 ?_
            have e20 : jw32 (6 * a1) = 6 * a1 := jzj32 (by omega)
            have e21 : jw32 ((jw32 (6 * a1)) + a2) = (jw32 (6 * a1)) + a2 := jzj32 (by omega)
            refine st_ai jo_187 (show 0 ≤ jw32 ((jw32 (6 * a1)) + a2) by omega) (show jw32 ((jw32 (6 * a1)) + a2) < ((18 : Nat) : Int) by omega) (fun v22 ev22 b23 => ?_)
            replace ev22 : v22 = h 187 (jw32 ((jw32 (6 * a1)) + a2)) := ev22
            replace b23 := (jba_187 (jw32 ((jw32 (6 * a1)) + a2)) _).1 b23
            refine st_gr jo_176 jr_176_11 ?_
            have e24 : jw32 (6 * a1) = 6 * a1 := jzj32 (by omega)
            have e25 : jw32 ((jw32 (6 * a1)) + a2) = (jw32 (6 * a1)) + a2 := jzj32 (by omega)
            refine st_si jo_186 (show 0 ≤ jw32 ((jw32 (6 * a1)) + a2) by omega) (show jw32 ((jw32 (6 * a1)) + a2) < ((18 : Nat) : Int) by omega) (fun hx => (jba_186 _ _).2 (show 0 ≤ a3 ∧ a3 ≤ 3 by omega)) (fun g26 eg26 => ?_)
            replace eg26 : g26 = jup h 186 (jw32 ((jw32 (6 * a1)) + a2)) a3 := eg26
            have fg26 : jfr w_X12_task h g26 := jfr_up f0 eg26 (by unfold w_X12_task; omega)
            have e27 : g26 186 (jw32 ((jw32 (6 * a1)) + a2)) = a3 := jup_s eg26
            refine st_gr jo_176 jr_176_12 ?_
            have e28 : jw32 (6 * a1) = 6 * a1 := jzj32 (by omega)
            have e29 : jw32 ((jw32 (6 * a1)) + a2) = (jw32 (6 * a1)) + a2 := jzj32 (by omega)
            refine st_si jo_187 (show 0 ≤ jw32 ((jw32 (6 * a1)) + a2) by omega) (show jw32 ((jw32 (6 * a1)) + a2) < ((18 : Nat) : Int) by omega) (fun hx => (jba_187 _ _).2 (show 0 ≤ a4 ∧ a4 ≤ 2000 by omega)) (fun g30 eg30 => ?_)
            replace eg30 : g30 = jup g26 187 (jw32 ((jw32 (6 * a1)) + a2)) a4 := eg30
            have fg30 : jfr w_X12_task h g30 := jfr_up fg26 eg30 (by unfold w_X12_task; omega)
            have e31 : g30 187 (jw32 ((jw32 (6 * a1)) + a2)) = a4 := jup_s eg30
            have e32 : h 187 (jw32 ((jw32 (6 * a1)) + a2)) = h 187 (((6 * a1)) + a2) := congrArg (h 187) (show jw32 ((jw32 (6 * a1)) + a2) = (((6 * a1)) + a2) by omega)
            have hs33 : g30 187 (6 * a1 + a2) = a4 := by
              rw [show 6 * a1 + a2 = jw32 ((jw32 (6 * a1)) + a2) by omega]
              exact jup_s eg30
            have hs34 : ∀ i k : Int, 187 ≤ i → i ≤ 187 → ¬ (i = 187 ∧ k = 6 * a1 + a2) → g30 i k = h i k := fun i k p1 p2 p3 => ((jup_o eg30 (by first | exact fun q => absurd q.1 (by decide) | exact fun q => absurd q.2 (by decide) | omega)).trans (jup_o eg26 (by first | exact fun q => absurd q.1 (by decide) | exact fun q => absurd q.2 (by decide) | omega)))
            have hs35 : g30 186 (6 * a1 + a2) = a3 := by
              rw [show 6 * a1 + a2 = jw32 ((jw32 (6 * a1)) + a2) by omega]
              exact (jup_o eg30 (by first | exact fun q => absurd q.1 (by decide) | exact fun q => absurd q.2 (by decide) | omega)).trans (jup_s eg26)
            have hs36 : ∀ i k : Int, 186 ≤ i → i ≤ 186 → ¬ (i = 186 ∧ k = 6 * a1 + a2) → g30 i k = h i k := fun i k p1 p2 p3 => ((jup_o eg30 (by first | exact fun q => absurd q.1 (by decide) | exact fun q => absurd q.2 (by decide) | omega)).trans (jup_o eg26 (by first | exact fun q => absurd q.1 (by decide) | exact fun q => absurd q.2 (by decide) | omega)))
            exact st_r0 (ls := []) ⟨rfl, rfl, fg30, v22, rfl, (by omega), (by refine ⟨by unfold P_X12_task; first | exact Or.inr (Or.inr (Or.inr ⟨by omega, ⟨hs33, hs34⟩, ⟨hs35, hs36⟩⟩)), fun b9 => absurd b9 (by omega)⟩)⟩
          · replace c19 : 2000 < a4 := by first | exact c19 | exact Int.not_le.mp c19 | exact Int.not_lt.mp c19 | exact Decidable.not_not.mp c19
            refine st_cv (na := 1) (st := [.inl (-6), .inr (.inr (.inl 176))]) jo_176 rfl rfl rfl (c_X12_refuse (-6) h (by omega)) rfl ?_
            rintro _ _ g38 ⟨rfl, ft37, t37, rfl, ht37, zt37⟩ kt37
            replace kt37 : -2147483648 ≤ t37 ∧ t37 ≤ 2147483647 := kt37
            replace ht37 : -7 ≤ t37 ∧ t37 ≤ -1 := ht37
            have fg38 : jfr w_X12_task h g38 := jfr_tr f0 ft37 ws_X12_refuse__X12_task
            replace zt37 : t37 = (-6 : Int) := zt37
            have hs39 : ∀ i k : Int, 187 ≤ i → i ≤ 187 → g38 i k = h i k := fun i k p1 p2 => (ft37 i k (by unfold w_X12_refuse; omega))
            have hs40 : ∀ i k : Int, 186 ≤ i → i ≤ 186 → g38 i k = h i k := fun i k p1 p2 => (ft37 i k (by unfold w_X12_refuse; omega))
            exact st_r0 (ls := []) ⟨rfl, rfl, fg38, t37, rfl, (by omega), (by refine ⟨by unfold P_X12_task; by_cases zz : t37 = -4 <;> first | exact Or.inl ⟨by omega, hs39, hs40⟩ | exact Or.inr (Or.inl ⟨by omega, hs39, hs40⟩) | exact Or.inr (Or.inr (Or.inl ⟨by omega, hs39, hs40⟩)), fun _ i k q9 => ?_⟩; exact (ft37 i k (jzma_w_X12_refuse q9)))⟩
        · replace c18 : a4 < 0 := by first | exact c18 | exact Int.not_le.mp c18 | exact Int.not_lt.mp c18 | exact Decidable.not_not.mp c18
          refine st_cv (na := 1) (st := [.inl (-4), .inr (.inr (.inl 176))]) jo_176 rfl rfl rfl (c_X12_refuse (-4) h (by omega)) rfl ?_
          rintro _ _ g42 ⟨rfl, ft41, t41, rfl, ht41, zt41⟩ kt41
          replace kt41 : -2147483648 ≤ t41 ∧ t41 ≤ 2147483647 := kt41
          replace ht41 : -7 ≤ t41 ∧ t41 ≤ -1 := ht41
          have fg42 : jfr w_X12_task h g42 := jfr_tr f0 ft41 ws_X12_refuse__X12_task
          replace zt41 : t41 = (-4 : Int) := zt41
          have hs43 : ∀ i k : Int, 187 ≤ i → i ≤ 187 → g42 i k = h i k := fun i k p1 p2 => (ft41 i k (by unfold w_X12_refuse; omega))
          have hs44 : ∀ i k : Int, 186 ≤ i → i ≤ 186 → g42 i k = h i k := fun i k p1 p2 => (ft41 i k (by unfold w_X12_refuse; omega))
          exact st_r0 (ls := []) ⟨rfl, rfl, fg42, t41, rfl, (by omega), (by refine ⟨by unfold P_X12_task; by_cases zz : t41 = -4 <;> first | exact Or.inl ⟨by omega, hs43, hs44⟩ | exact Or.inr (Or.inl ⟨by omega, hs43, hs44⟩) | exact Or.inr (Or.inr (Or.inl ⟨by omega, hs43, hs44⟩)), fun _ i k q9 => ?_⟩; exact (ft41 i k (jzma_w_X12_refuse q9)))⟩
      · replace c17 : t15 = 0 := by first | exact c17 | exact Int.not_le.mp c17 | exact Int.not_lt.mp c17 | exact Decidable.not_not.mp c17
        show jGo E l 53 229 229 _ 27 [.inr (.inr (.inl 176)), .inl a1, .inl a2, .inl a3, .inl a4, .inr (.inr (.inr ()))] [] 229 jr0 h
        refine jGo_blk qX12_task_27 ?_
        refine st_cv (na := 1) (st := [.inl (-1), .inr (.inr (.inl 176))]) jo_176 rfl rfl rfl (c_X12_refuse (-1) h (by omega)) rfl ?_
        rintro _ _ g46 ⟨rfl, ft45, t45, rfl, ht45, zt45⟩ kt45
        replace kt45 : -2147483648 ≤ t45 ∧ t45 ≤ 2147483647 := kt45
        replace ht45 : -7 ≤ t45 ∧ t45 ≤ -1 := ht45
        have fg46 : jfr w_X12_task h g46 := jfr_tr f0 ft45 ws_X12_refuse__X12_task
        replace zt45 : t45 = (-1 : Int) := zt45
        have hs47 : ∀ i k : Int, 187 ≤ i → i ≤ 187 → g46 i k = h i k := fun i k p1 p2 => (ft45 i k (by unfold w_X12_refuse; omega))
        have hs48 : ∀ i k : Int, 186 ≤ i → i ≤ 186 → g46 i k = h i k := fun i k p1 p2 => (ft45 i k (by unfold w_X12_refuse; omega))
        exact st_r0 (ls := []) ⟨rfl, rfl, fg46, t45, rfl, (by omega), (by refine ⟨by unfold P_X12_task; by_cases zz : t45 = -4 <;> first | exact Or.inl ⟨by omega, hs47, hs48⟩ | exact Or.inr (Or.inl ⟨by omega, hs47, hs48⟩) | exact Or.inr (Or.inr (Or.inl ⟨by omega, hs47, hs48⟩)), fun _ i k q9 => ?_⟩; exact (ft45 i k (jzma_w_X12_refuse q9)))⟩

def w_X11_needs (i k : Int) : Prop := (i = 1) ∨ (26 ≤ i ∧ i ≤ 28) ∨ (i = 111 ∧ 9 ≤ k ∧ k ≤ 11)
theorem ws_X11_refused__X11_needs (i k : Int) (q : w_X11_refused i k) : w_X11_needs i k := by
  unfold w_X11_refused at q; unfold w_X11_needs
  exact (Or.inl (by omega))
theorem ws_X7_forget__X11_needs (i k : Int) (q : w_X7_forget i k) : w_X11_needs i k := by
  unfold w_X7_forget at q; unfold w_X11_needs
  exact (Or.inr (Or.inr (by omega)))
def k_X11_needs (a1 : Int) (a2 : Int) (a3 : Int) (a4 : Int) (h : JH) (v : Option JV) (r' g : JH) : Prop := r' = jr0 ∧ jfr w_X11_needs h g ∧ ∃ x : Int, v = some (.inl x) ∧ (-7 ≤ x ∧ x ≤ 500) ∧ ((P_X11_needs a1 a2 a3 a4 x h g) ∧ jFg (x < 0) h g)
set_option maxHeartbeats 4000000 in
theorem c_X11_needs {E : JE} {l : Launch} (a1 : Int) (a2 : Int) (a3 : Int) (a4 : Int) (h : JH) : jMt E l 54 [.inr (.inr (.inl 0)), .inl a1, .inl a2, .inl a3, .inl a4] 229 jr0 h (k_X11_needs a1 a2 a3 a4 h) := by
  refine jMt0 (nL := 8) (ls := [.inr (.inr (.inl 0)), .inl a1, .inl a2, .inl a3, .inl a4, .inr (.inr (.inr ())), .inr (.inr (.inr ())), .inr (.inr (.inr ()))]) (by decide +kernel) (by decide +kernel) (by decide +kernel) rfl rfl ?_
  have f0 : jfr w_X11_needs h h := jfr_rf _ _
  refine jGo_blk qX11_needs_0 ?_
  refine st_cs (na := 2) (st := [.inl 3, .inl a1]) rfl rfl rfl (c_X11_within a1 3 h) rfl ?_
  rintro _ _ _ ⟨rfl, rfl, t1, rfl, ht1, zt1⟩ kt1
  replace kt1 : -2147483648 ≤ t1 ∧ t1 ≤ 2147483647 := kt1
  replace ht1 : 0 ≤ t1 ∧ t1 ≤ 1 := ht1
  replace zt1 : (t1 = 1 ∧ 0 ≤ a1 ∧ a1 < (3 : Int)) ∨ (t1 = 0 ∧ ¬ (0 ≤ a1 ∧ a1 < (3 : Int))) := zt1
  refine And.intro (fun c3 => ?_) (fun c3 => ?_)
  · replace c3 : t1 = 0 := c3
    show jGo E l 54 229 229 _ 26 [.inr (.inr (.inl 0)), .inl a1, .inl a2, .inl a3, .inl a4, .inr (.inr (.inr ())), .inr (.inr (.inr ())), .inr (.inr (.inr ()))] [] 229 jr0 h
    refine jGo_blk qX11_needs_26 ?_
    show jGo E l 54 229 229 _ 39 [.inr (.inr (.inl 0)), .inl a1, .inl a2, .inl a3, .inl a4, .inr (.inr (.inr ())), .inr (.inr (.inr ())), .inr (.inr (.inr ()))] [.inl (-1)] 229 jr0 h
    refine jGo_blk qX11_needs_39 ?_
    refine And.intro (fun c4 => ?_) (fun c4 => ?_)
    · replace c4 : (-1 : Int) = 0 := c4
      exfalso; omega
    · replace c4 : ¬ (-1 : Int) = 0 := by first | exact c4 | exact Int.not_le.mp c4 | exact Int.not_lt.mp c4 | exact Decidable.not_not.mp c4
      refine st_cv (na := 1) (st := [.inl (-1), .inr (.inr (.inl 0))]) jo_0 rfl rfl rfl (c_X11_refused (-1) h (by omega)) rfl ?_
      rintro _ _ g6 ⟨rfl, ft5, t5, rfl, ht5, zt5⟩ kt5
      replace kt5 : -2147483648 ≤ t5 ∧ t5 ≤ 2147483647 := kt5
      replace ht5 : -7 ≤ t5 ∧ t5 ≤ -1 := ht5
      have fg6 : jfr w_X11_needs h g6 := jfr_tr f0 ft5 ws_X11_refused__X11_needs
      replace zt5 : t5 = (-1 : Int) := zt5
      have hs7 : ∀ i k : Int, 26 ≤ i → i ≤ 28 → g6 i k = h i k := fun i k p1 p2 => (ft5 i k (by unfold w_X11_refused; omega))
      exact st_r0 (ls := []) ⟨rfl, rfl, fg6, t5, rfl, (by omega), (by refine ⟨by unfold P_X11_needs; by_cases zz : t5 = -4 <;> first | exact Or.inl ⟨by omega, hs7⟩ | exact Or.inr (Or.inl ⟨by omega, hs7⟩) | exact Or.inr (Or.inr (Or.inl ⟨by omega, hs7⟩)), Or.inr ⟨by omega, fun i k p1 => (ft5 i k (by first | exact p1 | (unfold w_X11_refused; omega)))⟩⟩)⟩
  · replace c3 : ¬ t1 = 0 := by first | exact c3 | exact Int.not_le.mp c3 | exact Int.not_lt.mp c3 | exact Decidable.not_not.mp c3
    refine st_cs (na := 2) (st := [.inl 6, .inl a2]) rfl rfl rfl (c_X11_within a2 6 h) rfl ?_
    rintro _ _ _ ⟨rfl, rfl, t8, rfl, ht8, zt8⟩ kt8
    replace kt8 : -2147483648 ≤ t8 ∧ t8 ≤ 2147483647 := kt8
    replace ht8 : 0 ≤ t8 ∧ t8 ≤ 1 := ht8
    replace zt8 : (t8 = 1 ∧ 0 ≤ a2 ∧ a2 < (6 : Int)) ∨ (t8 = 0 ∧ ¬ (0 ≤ a2 ∧ a2 < (6 : Int))) := zt8
    refine And.intro (fun c10 => ?_) (fun c10 => ?_)
    · replace c10 : t8 = 0 := c10
      show jGo E l 54 229 229 _ 26 [.inr (.inr (.inl 0)), .inl a1, .inl a2, .inl a3, .inl a4, .inr (.inr (.inr ())), .inr (.inr (.inr ())), .inr (.inr (.inr ()))] [] 229 jr0 h
      refine jGo_blk qX11_needs_26 ?_
      show jGo E l 54 229 229 _ 39 [.inr (.inr (.inl 0)), .inl a1, .inl a2, .inl a3, .inl a4, .inr (.inr (.inr ())), .inr (.inr (.inr ())), .inr (.inr (.inr ()))] [.inl (-1)] 229 jr0 h
      refine jGo_blk qX11_needs_39 ?_
      refine And.intro (fun c11 => ?_) (fun c11 => ?_)
      · replace c11 : (-1 : Int) = 0 := c11
        exfalso; omega
      · replace c11 : ¬ (-1 : Int) = 0 := by first | exact c11 | exact Int.not_le.mp c11 | exact Int.not_lt.mp c11 | exact Decidable.not_not.mp c11
        refine st_cv (na := 1) (st := [.inl (-1), .inr (.inr (.inl 0))]) jo_0 rfl rfl rfl (c_X11_refused (-1) h (by omega)) rfl ?_
        rintro _ _ g13 ⟨rfl, ft12, t12, rfl, ht12, zt12⟩ kt12
        replace kt12 : -2147483648 ≤ t12 ∧ t12 ≤ 2147483647 := kt12
        replace ht12 : -7 ≤ t12 ∧ t12 ≤ -1 := ht12
        have fg13 : jfr w_X11_needs h g13 := jfr_tr f0 ft12 ws_X11_refused__X11_needs
        replace zt12 : t12 = (-1 : Int) := zt12
        have hs14 : ∀ i k : Int, 26 ≤ i → i ≤ 28 → g13 i k = h i k := fun i k p1 p2 => (ft12 i k (by unfold w_X11_refused; omega))
        exact st_r0 (ls := []) ⟨rfl, rfl, fg13, t12, rfl, (by omega), (by refine ⟨by unfold P_X11_needs; by_cases zz : t12 = -4 <;> first | exact Or.inl ⟨by omega, hs14⟩ | exact Or.inr (Or.inl ⟨by omega, hs14⟩) | exact Or.inr (Or.inr (Or.inl ⟨by omega, hs14⟩)), Or.inr ⟨by omega, fun i k p1 => (ft12 i k (by first | exact p1 | (unfold w_X11_refused; omega)))⟩⟩)⟩
    · replace c10 : ¬ t8 = 0 := by first | exact c10 | exact Int.not_le.mp c10 | exact Int.not_lt.mp c10 | exact Decidable.not_not.mp c10
      refine st_cs (na := 2) (st := [.inl 6, .inl a3]) rfl rfl rfl (c_X11_within a3 6 h) rfl ?_
      rintro _ _ _ ⟨rfl, rfl, t15, rfl, ht15, zt15⟩ kt15
      replace kt15 : -2147483648 ≤ t15 ∧ t15 ≤ 2147483647 := kt15
      replace ht15 : 0 ≤ t15 ∧ t15 ≤ 1 := ht15
      replace zt15 : (t15 = 1 ∧ 0 ≤ a3 ∧ a3 < (6 : Int)) ∨ (t15 = 0 ∧ ¬ (0 ≤ a3 ∧ a3 < (6 : Int))) := zt15
      refine And.intro (fun c17 => ?_) (fun c17 => ?_)
      · replace c17 : ¬ t15 = 0 := c17
        show jGo E l 54 229 229 _ 30 [.inr (.inr (.inl 0)), .inl a1, .inl a2, .inl a3, .inl a4, .inr (.inr (.inr ())), .inr (.inr (.inr ())), .inr (.inr (.inr ()))] [] 229 jr0 h
        refine jGo_blk qX11_needs_30 ?_
        refine st_cs (na := 3) (st := [.inl 500, .inl 0, .inl a4]) rfl rfl rfl (c_X11_outside a4 0 500 h) rfl ?_
        rintro _ _ _ ⟨rfl, rfl, t18, rfl, ht18, zt18⟩ kt18
        replace kt18 : -2147483648 ≤ t18 ∧ t18 ≤ 2147483647 := kt18
        replace ht18 : -6 ≤ t18 ∧ t18 ≤ 0 := ht18
        replace zt18 : (t18 = -4 ∧ a4 < (0 : Int)) ∨ (t18 = -6 ∧ (0 : Int) ≤ a4 ∧ (500 : Int) < a4) ∨ (t18 = 0 ∧ (0 : Int) ≤ a4 ∧ a4 ≤ (500 : Int)) := zt18
        show jGo E l 54 229 229 _ 39 [.inr (.inr (.inl 0)), .inl a1, .inl a2, .inl a3, .inl a4, .inr (.inr (.inr ())), .inr (.inr (.inr ())), .inr (.inr (.inr ()))] [.inl t18] 229 jr0 h
        refine jGo_blk qX11_needs_39 ?_
        refine And.intro (fun c20 => ?_) (fun c20 => ?_)
        · replace c20 : t18 = 0 := c20
          show jGo E l 54 229 229 _ 53 [.inr (.inr (.inl 0)), .inl a1, .inl a2, .inl a3, .inl a4, .inl t18, .inr (.inr (.inr ())), .inr (.inr (.inr ()))] [] 229 jr0 h
          refine jGo_blk qX11_needs_53 ?_
          refine st_gr jo_0 jr_0_11 ?_
          refine st_cv (na := 0) (st := [.inr (.inr (.inl 111))]) jo_111 rfl rfl rfl (c_X7_forget h) rfl ?_
          rintro _ _ g22 ⟨rfl, ft21, rfl, zt21⟩ kt21
          have fg22 : jfr w_X11_needs h g22 := jfr_tr f0 ft21 ws_X7_forget__X11_needs
          replace zt21 : g22 111 9 = 0 ∧ g22 111 10 = 0 ∧ g22 111 11 = 0 := zt21
          have e23 : jw32 (a2 * 6) = a2 * 6 := jzj32 (by omega)
          have e24 : jw32 ((jw32 (a2 * 6)) + a3) = (jw32 (a2 * 6)) + a3 := jzj32 (by omega)
          refine st_gr jo_0 jr_0_4 ?_
          refine st_gr jo_16 jr_16_2 ?_
          refine st_ar jo_25 (by decide) (show 0 ≤ a1 by omega) (show a1 < ((3 : Nat) : Int) by omega) (fun u25 eu25 => ?_)
          replace eu25 : u25 = jr0 25 a1 := eu25
          have qu25 : u25 = 26 + a1 := eu25.trans (jrow_25 a1 (by omega) (by omega)).1
          have ou25 : jF 229 u25 1 36 := by rw [eu25]; exact (jrow_25 a1 (by omega) (by omega)).2.1
          have wu25 : ∀ j v : Int, jbd u25 j v ↔ (0 ≤ v ∧ v ≤ 500) := by rw [eu25]; exact (jrow_25 a1 (by omega) (by omega)).2.2
          refine st_ai ou25 (show 0 ≤ jw32 ((jw32 (a2 * 6)) + a3) by omega) (show jw32 ((jw32 (a2 * 6)) + a3) < ((36 : Nat) : Int) by omega) (fun v26 ev26 b27 => ?_)
          replace ev26 : v26 = g22 u25 (jw32 ((jw32 (a2 * 6)) + a3)) := ev26
          replace b27 := (wu25 (jw32 ((jw32 (a2 * 6)) + a3)) _).1 b27
          refine st_gr jo_0 jr_0_4 ?_
          refine st_gr jo_16 jr_16_2 ?_
          refine st_ar jo_25 (by decide) (show 0 ≤ a1 by omega) (show a1 < ((3 : Nat) : Int) by omega) (fun u28 eu28 => ?_)
          replace eu28 : u28 = jr0 25 a1 := eu28
          have qu28 : u28 = 26 + a1 := eu28.trans (jrow_25 a1 (by omega) (by omega)).1
          have ou28 : jF 229 u28 1 36 := by rw [eu28]; exact (jrow_25 a1 (by omega) (by omega)).2.1
          have wu28 : ∀ j v : Int, jbd u28 j v ↔ (0 ≤ v ∧ v ≤ 500) := by rw [eu28]; exact (jrow_25 a1 (by omega) (by omega)).2.2
          refine st_si ou28 (show 0 ≤ jw32 ((jw32 (a2 * 6)) + a3) by omega) (show jw32 ((jw32 (a2 * 6)) + a3) < ((36 : Nat) : Int) by omega) (fun hx => (wu28 _ _).2 (show 0 ≤ a4 ∧ a4 ≤ 500 by omega)) (fun g29 eg29 => ?_)
          replace eg29 : g29 = jup g22 u28 (jw32 ((jw32 (a2 * 6)) + a3)) a4 := eg29
          have fg29 : jfr w_X11_needs h g29 := jfr_up fg22 eg29 (by unfold w_X11_needs; omega)
          have e30 : g29 u28 (jw32 ((jw32 (a2 * 6)) + a3)) = a4 := jup_s eg29
          have e31 : g22 u25 (jw32 ((jw32 (a2 * 6)) + a3)) = h u25 (jw32 ((jw32 (a2 * 6)) + a3)) := (ft21 u25 (jw32 ((jw32 (a2 * 6)) + a3)) (by unfold w_X7_forget; omega))
          have e32 : h u25 (jw32 ((jw32 (a2 * 6)) + a3)) = h (26 + a1) (jw32 ((jw32 (a2 * 6)) + a3)) := by rw [qu25]
          have e33 : h u25 (jw32 ((jw32 (a2 * 6)) + a3)) = h u25 (((a2 * 6)) + a3) := congrArg (h u25) (show jw32 ((jw32 (a2 * 6)) + a3) = (((a2 * 6)) + a3) by omega)
          have e34 : h (26 + a1) (jw32 ((jw32 (a2 * 6)) + a3)) = h (26 + a1) (((a2 * 6)) + a3) := congrArg (h (26 + a1)) (show jw32 ((jw32 (a2 * 6)) + a3) = (((a2 * 6)) + a3) by omega)
          have hs35 : g29 (26 + a1) (a2 * 6 + a3) = a4 := by
            rw [show 26 + a1 = u28 by omega]
            rw [show a2 * 6 + a3 = jw32 ((jw32 (a2 * 6)) + a3) by omega]
            exact jup_s eg29
          have hs36 : ∀ i k : Int, 26 ≤ i → i ≤ 28 → ¬ (i = 26 + a1 ∧ k = a2 * 6 + a3) → g29 i k = h i k := fun i k p1 p2 p3 => ((jup_o eg29 (by first | exact fun q => absurd q.1 (by decide) | exact fun q => absurd q.2 (by decide) | omega)).trans (ft21 i k (by unfold w_X7_forget; omega)))
          exact st_r0 (ls := []) ⟨rfl, rfl, fg29, v26, rfl, (by omega), (by refine ⟨by unfold P_X11_needs; first | exact Or.inr (Or.inr (Or.inr ⟨by omega, ⟨hs35, hs36⟩⟩)), Or.inl ?_⟩; exact ⟨((jup_o eg29 (by first | exact fun q => absurd q.1 (by decide) | exact fun q => absurd q.2 (by decide) | omega))).trans zt21.1, ((jup_o eg29 (by first | exact fun q => absurd q.1 (by decide) | exact fun q => absurd q.2 (by decide) | omega))).trans zt21.2.1, ((jup_o eg29 (by first | exact fun q => absurd q.1 (by decide) | exact fun q => absurd q.2 (by decide) | omega))).trans zt21.2.2⟩)⟩
        · replace c20 : ¬ t18 = 0 := by first | exact c20 | exact Int.not_le.mp c20 | exact Int.not_lt.mp c20 | exact Decidable.not_not.mp c20
          refine st_cv (na := 1) (st := [.inl t18, .inr (.inr (.inl 0))]) jo_0 rfl rfl rfl (c_X11_refused t18 h (by omega)) rfl ?_
          rintro _ _ g38 ⟨rfl, ft37, t37, rfl, ht37, zt37⟩ kt37
          replace kt37 : -2147483648 ≤ t37 ∧ t37 ≤ 2147483647 := kt37
          replace ht37 : -7 ≤ t37 ∧ t37 ≤ -1 := ht37
          have fg38 : jfr w_X11_needs h g38 := jfr_tr f0 ft37 ws_X11_refused__X11_needs
          replace zt37 : t37 = t18 := zt37
          have hs39 : ∀ i k : Int, 26 ≤ i → i ≤ 28 → g38 i k = h i k := fun i k p1 p2 => (ft37 i k (by unfold w_X11_refused; omega))
          exact st_r0 (ls := []) ⟨rfl, rfl, fg38, t37, rfl, (by omega), (by refine ⟨by unfold P_X11_needs; by_cases zz : t37 = -4 <;> first | exact Or.inl ⟨by omega, hs39⟩ | exact Or.inr (Or.inl ⟨by omega, hs39⟩) | exact Or.inr (Or.inr (Or.inl ⟨by omega, hs39⟩)), Or.inr ⟨by omega, fun i k p1 => (ft37 i k (by first | exact p1 | (unfold w_X11_refused; omega)))⟩⟩)⟩
      · replace c17 : t15 = 0 := by first | exact c17 | exact Int.not_le.mp c17 | exact Int.not_lt.mp c17 | exact Decidable.not_not.mp c17
        show jGo E l 54 229 229 _ 26 [.inr (.inr (.inl 0)), .inl a1, .inl a2, .inl a3, .inl a4, .inr (.inr (.inr ())), .inr (.inr (.inr ())), .inr (.inr (.inr ()))] [] 229 jr0 h
        refine jGo_blk qX11_needs_26 ?_
        show jGo E l 54 229 229 _ 39 [.inr (.inr (.inl 0)), .inl a1, .inl a2, .inl a3, .inl a4, .inr (.inr (.inr ())), .inr (.inr (.inr ())), .inr (.inr (.inr ()))] [.inl (-1)] 229 jr0 h
        refine jGo_blk qX11_needs_39 ?_
        refine And.intro (fun c40 => ?_) (fun c40 => ?_)
        · replace c40 : (-1 : Int) = 0 := c40
          exfalso; omega
        · replace c40 : ¬ (-1 : Int) = 0 := by first | exact c40 | exact Int.not_le.mp c40 | exact Int.not_lt.mp c40 | exact Decidable.not_not.mp c40
          refine st_cv (na := 1) (st := [.inl (-1), .inr (.inr (.inl 0))]) jo_0 rfl rfl rfl (c_X11_refused (-1) h (by omega)) rfl ?_
          rintro _ _ g42 ⟨rfl, ft41, t41, rfl, ht41, zt41⟩ kt41
          replace kt41 : -2147483648 ≤ t41 ∧ t41 ≤ 2147483647 := kt41
          replace ht41 : -7 ≤ t41 ∧ t41 ≤ -1 := ht41
          have fg42 : jfr w_X11_needs h g42 := jfr_tr f0 ft41 ws_X11_refused__X11_needs
          replace zt41 : t41 = (-1 : Int) := zt41
          have hs43 : ∀ i k : Int, 26 ≤ i → i ≤ 28 → g42 i k = h i k := fun i k p1 p2 => (ft41 i k (by unfold w_X11_refused; omega))
          exact st_r0 (ls := []) ⟨rfl, rfl, fg42, t41, rfl, (by omega), (by refine ⟨by unfold P_X11_needs; by_cases zz : t41 = -4 <;> first | exact Or.inl ⟨by omega, hs43⟩ | exact Or.inr (Or.inl ⟨by omega, hs43⟩) | exact Or.inr (Or.inr (Or.inl ⟨by omega, hs43⟩)), Or.inr ⟨by omega, fun i k p1 => (ft41 i k (by first | exact p1 | (unfold w_X11_refused; omega)))⟩⟩)⟩

def w_X12_needs (i k : Int) : Prop := (i = 188) ∨ (i = 219)
theorem ws_X12_refuse__X12_needs (i k : Int) (q : w_X12_refuse i k) : w_X12_needs i k := by
  unfold w_X12_refuse at q; unfold w_X12_needs
  exact (Or.inr (by omega))
def k_X12_needs (a1 : Int) (a2 : Int) (a3 : Int) (a4 : Int) (h : JH) (v : Option JV) (r' g : JH) : Prop := r' = jr0 ∧ jfr w_X12_needs h g ∧ ∃ x : Int, v = some (.inl x) ∧ (-7 ≤ x ∧ x ≤ 500) ∧ ((P_X12_needs a1 a2 a3 a4 x h g) ∧ jRx (x < 0) h g)
set_option maxHeartbeats 4000000 in
theorem c_X12_needs {E : JE} {l : Launch} (a1 : Int) (a2 : Int) (a3 : Int) (a4 : Int) (h : JH) : jMt E l 55 [.inr (.inr (.inl 176)), .inl a1, .inl a2, .inl a3, .inl a4] 229 jr0 h (k_X12_needs a1 a2 a3 a4 h) := by
  refine jMt0 (nL := 7) (ls := [.inr (.inr (.inl 176)), .inl a1, .inl a2, .inl a3, .inl a4, .inr (.inr (.inr ())), .inr (.inr (.inr ()))]) (by decide +kernel) (by decide +kernel) (by decide +kernel) rfl rfl ?_
  have f0 : jfr w_X12_needs h h := jfr_rf _ _
  refine jGo_blk qX12_needs_0 ?_
  refine st_cs (na := 3) (st := [.inl 2, .inl 0, .inl a1]) rfl rfl rfl (c_X12_in a1 0 2 h) rfl ?_
  rintro _ _ _ ⟨rfl, rfl, t1, rfl, ht1, zt1⟩ kt1
  replace kt1 : -2147483648 ≤ t1 ∧ t1 ≤ 2147483647 := kt1
  replace ht1 : 0 ≤ t1 ∧ t1 ≤ 1 := ht1
  replace zt1 : (t1 = 1 ∧ (0 : Int) ≤ a1 ∧ a1 ≤ (2 : Int)) ∨ (t1 = 0 ∧ ¬ ((0 : Int) ≤ a1 ∧ a1 ≤ (2 : Int))) := zt1
  refine And.intro (fun c3 => ?_) (fun c3 => ?_)
  · replace c3 : t1 = 0 := c3
    show jGo E l 55 229 229 _ 27 [.inr (.inr (.inl 176)), .inl a1, .inl a2, .inl a3, .inl a4, .inr (.inr (.inr ())), .inr (.inr (.inr ()))] [] 229 jr0 h
    refine jGo_blk qX12_needs_27 ?_
    refine st_cv (na := 1) (st := [.inl (-1), .inr (.inr (.inl 176))]) jo_176 rfl rfl rfl (c_X12_refuse (-1) h (by omega)) rfl ?_
    rintro _ _ g5 ⟨rfl, ft4, t4, rfl, ht4, zt4⟩ kt4
    replace kt4 : -2147483648 ≤ t4 ∧ t4 ≤ 2147483647 := kt4
    replace ht4 : -7 ≤ t4 ∧ t4 ≤ -1 := ht4
    have fg5 : jfr w_X12_needs h g5 := jfr_tr f0 ft4 ws_X12_refuse__X12_needs
    replace zt4 : t4 = (-1 : Int) := zt4
    have hs6 : ∀ i k : Int, 188 ≤ i → i ≤ 188 → g5 i k = h i k := fun i k p1 p2 => (ft4 i k (by unfold w_X12_refuse; omega))
    exact st_r0 (ls := []) ⟨rfl, rfl, fg5, t4, rfl, (by omega), (by refine ⟨by unfold P_X12_needs; by_cases zz : t4 = -4 <;> first | exact Or.inl ⟨by omega, hs6⟩ | exact Or.inr (Or.inl ⟨by omega, hs6⟩) | exact Or.inr (Or.inr (Or.inl ⟨by omega, hs6⟩)), fun _ i k q9 => ?_⟩; exact (ft4 i k (jzma_w_X12_refuse q9)))⟩
  · replace c3 : ¬ t1 = 0 := by first | exact c3 | exact Int.not_le.mp c3 | exact Int.not_lt.mp c3 | exact Decidable.not_not.mp c3
    refine st_cs (na := 3) (st := [.inl 5, .inl 0, .inl a2]) rfl rfl rfl (c_X12_in a2 0 5 h) rfl ?_
    rintro _ _ _ ⟨rfl, rfl, t7, rfl, ht7, zt7⟩ kt7
    replace kt7 : -2147483648 ≤ t7 ∧ t7 ≤ 2147483647 := kt7
    replace ht7 : 0 ≤ t7 ∧ t7 ≤ 1 := ht7
    replace zt7 : (t7 = 1 ∧ (0 : Int) ≤ a2 ∧ a2 ≤ (5 : Int)) ∨ (t7 = 0 ∧ ¬ ((0 : Int) ≤ a2 ∧ a2 ≤ (5 : Int))) := zt7
    refine And.intro (fun c9 => ?_) (fun c9 => ?_)
    · replace c9 : t7 = 0 := c9
      show jGo E l 55 229 229 _ 27 [.inr (.inr (.inl 176)), .inl a1, .inl a2, .inl a3, .inl a4, .inr (.inr (.inr ())), .inr (.inr (.inr ()))] [] 229 jr0 h
      refine jGo_blk qX12_needs_27 ?_
      refine st_cv (na := 1) (st := [.inl (-1), .inr (.inr (.inl 176))]) jo_176 rfl rfl rfl (c_X12_refuse (-1) h (by omega)) rfl ?_
      rintro _ _ g11 ⟨rfl, ft10, t10, rfl, ht10, zt10⟩ kt10
      replace kt10 : -2147483648 ≤ t10 ∧ t10 ≤ 2147483647 := kt10
      replace ht10 : -7 ≤ t10 ∧ t10 ≤ -1 := ht10
      have fg11 : jfr w_X12_needs h g11 := jfr_tr f0 ft10 ws_X12_refuse__X12_needs
      replace zt10 : t10 = (-1 : Int) := zt10
      have hs12 : ∀ i k : Int, 188 ≤ i → i ≤ 188 → g11 i k = h i k := fun i k p1 p2 => (ft10 i k (by unfold w_X12_refuse; omega))
      exact st_r0 (ls := []) ⟨rfl, rfl, fg11, t10, rfl, (by omega), (by refine ⟨by unfold P_X12_needs; by_cases zz : t10 = -4 <;> first | exact Or.inl ⟨by omega, hs12⟩ | exact Or.inr (Or.inl ⟨by omega, hs12⟩) | exact Or.inr (Or.inr (Or.inl ⟨by omega, hs12⟩)), fun _ i k q9 => ?_⟩; exact (ft10 i k (jzma_w_X12_refuse q9)))⟩
    · replace c9 : ¬ t7 = 0 := by first | exact c9 | exact Int.not_le.mp c9 | exact Int.not_lt.mp c9 | exact Decidable.not_not.mp c9
      refine st_cs (na := 3) (st := [.inl 5, .inl 0, .inl a3]) rfl rfl rfl (c_X12_in a3 0 5 h) rfl ?_
      rintro _ _ _ ⟨rfl, rfl, t13, rfl, ht13, zt13⟩ kt13
      replace kt13 : -2147483648 ≤ t13 ∧ t13 ≤ 2147483647 := kt13
      replace ht13 : 0 ≤ t13 ∧ t13 ≤ 1 := ht13
      replace zt13 : (t13 = 1 ∧ (0 : Int) ≤ a3 ∧ a3 ≤ (5 : Int)) ∨ (t13 = 0 ∧ ¬ ((0 : Int) ≤ a3 ∧ a3 ≤ (5 : Int))) := zt13
      refine And.intro (fun c15 => ?_) (fun c15 => ?_)
      · replace c15 : ¬ t13 = 0 := c15
        show jGo E l 55 229 229 _ 33 [.inr (.inr (.inl 176)), .inl a1, .inl a2, .inl a3, .inl a4, .inr (.inr (.inr ())), .inr (.inr (.inr ()))] [] 229 jr0 h
        refine jGo_blk qX12_needs_33 ?_
        refine And.intro (fun c16 => ?_) (fun c16 => ?_)
        · replace c16 : 0 ≤ a4 := c16
          show jGo E l 55 229 229 _ 45 [.inr (.inr (.inl 176)), .inl a1, .inl a2, .inl a3, .inl a4, .inr (.inr (.inr ())), .inr (.inr (.inr ()))] [] 229 jr0 h
          refine jGo_blk qX12_needs_45 ?_
          refine And.intro (fun c17 => ?_) (fun c17 => ?_)
          · replace c17 : a4 ≤ 500 := c17
            show jGo E l 55 229 229 _ 60 [.inr (.inr (.inl 176)), .inl a1, .inl a2, .inl a3, .inl a4, .inr (.inr (.inr ())), .inr (.inr (.inr ()))] [] 229 jr0 h
            refine jGo_blk qX12_needs_60 ?_
            have e18 : jw32 (6 * a1) = 6 * a1 := jzj32 (by omega)
            have e19 : jw32 ((jw32 (6 * a1)) + a2) = (jw32 (6 * a1)) + a2 := jzj32 (by omega)
            have e20 : jw32 (6 * (jw32 ((jw32 (6 * a1)) + a2))) = 6 * (jw32 ((jw32 (6 * a1)) + a2)) := jzj32 (by omega)
            have e21 : jw32 ((jw32 (6 * (jw32 ((jw32 (6 * a1)) + a2)))) + a3) = (jw32 (6 * (jw32 ((jw32 (6 * a1)) + a2)))) + a3 := jzj32 (by omega)
            refine st_gr jo_176 jr_176_13 ?_
            refine st_ai jo_188 (show 0 ≤ jw32 ((jw32 (6 * (jw32 ((jw32 (6 * a1)) + a2)))) + a3) by omega) (show jw32 ((jw32 (6 * (jw32 ((jw32 (6 * a1)) + a2)))) + a3) < ((108 : Nat) : Int) by omega) (fun v22 ev22 b23 => ?_)
            replace ev22 : v22 = h 188 (jw32 ((jw32 (6 * (jw32 ((jw32 (6 * a1)) + a2)))) + a3)) := ev22
            replace b23 := (jba_188 (jw32 ((jw32 (6 * (jw32 ((jw32 (6 * a1)) + a2)))) + a3)) _).1 b23
            refine st_gr jo_176 jr_176_13 ?_
            refine st_si jo_188 (show 0 ≤ jw32 ((jw32 (6 * (jw32 ((jw32 (6 * a1)) + a2)))) + a3) by omega) (show jw32 ((jw32 (6 * (jw32 ((jw32 (6 * a1)) + a2)))) + a3) < ((108 : Nat) : Int) by omega) (fun hx => (jba_188 _ _).2 (show 0 ≤ a4 ∧ a4 ≤ 500 by omega)) (fun g24 eg24 => ?_)
            replace eg24 : g24 = jup h 188 (jw32 ((jw32 (6 * (jw32 ((jw32 (6 * a1)) + a2)))) + a3)) a4 := eg24
            have fg24 : jfr w_X12_needs h g24 := jfr_up f0 eg24 (by unfold w_X12_needs; omega)
            have e25 : g24 188 (jw32 ((jw32 (6 * (jw32 ((jw32 (6 * a1)) + a2)))) + a3)) = a4 := jup_s eg24
            have e26 : h 188 (jw32 ((jw32 (6 * (jw32 ((jw32 (6 * a1)) + a2)))) + a3)) = h 188 (((6 * ((((6 * a1)) + a2)))) + a3) := congrArg (h 188) (show jw32 ((jw32 (6 * (jw32 ((jw32 (6 * a1)) + a2)))) + a3) = (((6 * ((((6 * a1)) + a2)))) + a3) by omega)
            have hs27 : g24 188 (6 * (6 * a1 + a2) + a3) = a4 := by
              rw [show 6 * (6 * a1 + a2) + a3 = jw32 ((jw32 (6 * (jw32 ((jw32 (6 * a1)) + a2)))) + a3) by omega]
              exact jup_s eg24
            have hs28 : ∀ i k : Int, 188 ≤ i → i ≤ 188 → ¬ (i = 188 ∧ k = 6 * (6 * a1 + a2) + a3) → g24 i k = h i k := fun i k p1 p2 p3 => (jup_o eg24 (by first | exact fun q => absurd q.1 (by decide) | exact fun q => absurd q.2 (by decide) | omega))
            exact st_r0 (ls := []) ⟨rfl, rfl, fg24, v22, rfl, (by omega), (by refine ⟨by unfold P_X12_needs; first | exact Or.inr (Or.inr (Or.inr ⟨by omega, ⟨hs27, hs28⟩⟩)), fun b9 => absurd b9 (by omega)⟩)⟩
          · replace c17 : 500 < a4 := by first | exact c17 | exact Int.not_le.mp c17 | exact Int.not_lt.mp c17 | exact Decidable.not_not.mp c17
            refine st_cv (na := 1) (st := [.inl (-6), .inr (.inr (.inl 176))]) jo_176 rfl rfl rfl (c_X12_refuse (-6) h (by omega)) rfl ?_
            rintro _ _ g30 ⟨rfl, ft29, t29, rfl, ht29, zt29⟩ kt29
            replace kt29 : -2147483648 ≤ t29 ∧ t29 ≤ 2147483647 := kt29
            replace ht29 : -7 ≤ t29 ∧ t29 ≤ -1 := ht29
            have fg30 : jfr w_X12_needs h g30 := jfr_tr f0 ft29 ws_X12_refuse__X12_needs
            replace zt29 : t29 = (-6 : Int) := zt29
            have hs31 : ∀ i k : Int, 188 ≤ i → i ≤ 188 → g30 i k = h i k := fun i k p1 p2 => (ft29 i k (by unfold w_X12_refuse; omega))
            exact st_r0 (ls := []) ⟨rfl, rfl, fg30, t29, rfl, (by omega), (by refine ⟨by unfold P_X12_needs; by_cases zz : t29 = -4 <;> first | exact Or.inl ⟨by omega, hs31⟩ | exact Or.inr (Or.inl ⟨by omega, hs31⟩) | exact Or.inr (Or.inr (Or.inl ⟨by omega, hs31⟩)), fun _ i k q9 => ?_⟩; exact (ft29 i k (jzma_w_X12_refuse q9)))⟩
        · replace c16 : a4 < 0 := by first | exact c16 | exact Int.not_le.mp c16 | exact Int.not_lt.mp c16 | exact Decidable.not_not.mp c16
          refine st_cv (na := 1) (st := [.inl (-4), .inr (.inr (.inl 176))]) jo_176 rfl rfl rfl (c_X12_refuse (-4) h (by omega)) rfl ?_
          rintro _ _ g33 ⟨rfl, ft32, t32, rfl, ht32, zt32⟩ kt32
          replace kt32 : -2147483648 ≤ t32 ∧ t32 ≤ 2147483647 := kt32
          replace ht32 : -7 ≤ t32 ∧ t32 ≤ -1 := ht32
          have fg33 : jfr w_X12_needs h g33 := jfr_tr f0 ft32 ws_X12_refuse__X12_needs
          replace zt32 : t32 = (-4 : Int) := zt32
          have hs34 : ∀ i k : Int, 188 ≤ i → i ≤ 188 → g33 i k = h i k := fun i k p1 p2 => (ft32 i k (by unfold w_X12_refuse; omega))
          exact st_r0 (ls := []) ⟨rfl, rfl, fg33, t32, rfl, (by omega), (by refine ⟨by unfold P_X12_needs; by_cases zz : t32 = -4 <;> first | exact Or.inl ⟨by omega, hs34⟩ | exact Or.inr (Or.inl ⟨by omega, hs34⟩) | exact Or.inr (Or.inr (Or.inl ⟨by omega, hs34⟩)), fun _ i k q9 => ?_⟩; exact (ft32 i k (jzma_w_X12_refuse q9)))⟩
      · replace c15 : t13 = 0 := by first | exact c15 | exact Int.not_le.mp c15 | exact Int.not_lt.mp c15 | exact Decidable.not_not.mp c15
        show jGo E l 55 229 229 _ 27 [.inr (.inr (.inl 176)), .inl a1, .inl a2, .inl a3, .inl a4, .inr (.inr (.inr ())), .inr (.inr (.inr ()))] [] 229 jr0 h
        refine jGo_blk qX12_needs_27 ?_
        refine st_cv (na := 1) (st := [.inl (-1), .inr (.inr (.inl 176))]) jo_176 rfl rfl rfl (c_X12_refuse (-1) h (by omega)) rfl ?_
        rintro _ _ g36 ⟨rfl, ft35, t35, rfl, ht35, zt35⟩ kt35
        replace kt35 : -2147483648 ≤ t35 ∧ t35 ≤ 2147483647 := kt35
        replace ht35 : -7 ≤ t35 ∧ t35 ≤ -1 := ht35
        have fg36 : jfr w_X12_needs h g36 := jfr_tr f0 ft35 ws_X12_refuse__X12_needs
        replace zt35 : t35 = (-1 : Int) := zt35
        have hs37 : ∀ i k : Int, 188 ≤ i → i ≤ 188 → g36 i k = h i k := fun i k p1 p2 => (ft35 i k (by unfold w_X12_refuse; omega))
        exact st_r0 (ls := []) ⟨rfl, rfl, fg36, t35, rfl, (by omega), (by refine ⟨by unfold P_X12_needs; by_cases zz : t35 = -4 <;> first | exact Or.inl ⟨by omega, hs37⟩ | exact Or.inr (Or.inl ⟨by omega, hs37⟩) | exact Or.inr (Or.inr (Or.inl ⟨by omega, hs37⟩)), fun _ i k q9 => ?_⟩; exact (ft35 i k (jzma_w_X12_refuse q9)))⟩
