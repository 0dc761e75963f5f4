def w_X12_task (i k : Int) : Prop := (186 ≤ i ∧ i ≤ 187) ∨ (i = 219)
def k_X12_task (a1 : Int) (a2 : Int) (a3 : Int) (a4 : Int) (h : JH) (v : Option JV) (r' g : JH) : Prop := r' = jr0 ∧ jfr w_X12_task h g ∧ ∃ x : Int, v = some (.inl x) ∧ (-7 ≤ x ∧ x ≤ 2000) ∧ (True)
set_option maxHeartbeats 4000000 in
theorem c_X12_task {E : JE} {l : Launch} (a1 : Int) (a2 : Int) (a3 : Int) (a4 : Int) (h : JH) : jMt E l 53 [.inr (.inr (.inl 176)), .inl a1, .inl a2, .inl a3, .inl a4] 229 jr0 h (k_X12_task a1 a2 a3 a4 h) := by
  refine jMt0 (nL := 6) (ls := [.inr (.inr (.inl 176)), .inl a1, .inl a2, .inl a3, .inl a4, .inr (.inr (.inr ()))]) (by decide +kernel) (by decide +kernel) (by decide +kernel) rfl rfl ?_
  have f0 : jfr w_X12_task h h := jfr_rf _ _
  refine jGo_blk qX12_task_0 ?_
  refine st_cs (na := 3) (st := [.inl 2, .inl 0, .inl a1]) rfl rfl rfl (c_X12_in a1 0 2 h) rfl ?_
  rintro _ _ _ ⟨rfl, rfl, t1, rfl, ht1, zt1⟩ kt1
  replace kt1 : -2147483648 ≤ t1 ∧ t1 ≤ 2147483647 := kt1
  replace ht1 : 0 ≤ t1 ∧ t1 ≤ 1 := ht1
  replace zt1 : (t1 = 1 ∧ (0 : Int) ≤ a1 ∧ a1 ≤ (2 : Int)) ∨ (t1 = 0 ∧ ¬ ((0 : Int) ≤ a1 ∧ a1 ≤ (2 : Int))) := zt1
  refine And.intro (fun c3 => ?_) (fun c3 => ?_)
  · replace c3 : t1 = 0 := c3
    show jGo E l 53 229 229 _ 27 [.inr (.inr (.inl 176)), .inl a1, .inl a2, .inl a3, .inl a4, .inr (.inr (.inr ()))] [] 229 jr0 h
    refine jGo_blk qX12_task_27 ?_
    refine st_cv (na := 1) (st := [.inl (-1), .inr (.inr (.inl 176))]) jo_176 rfl rfl rfl (c_X12_refuse (-1) h (by omega)) rfl ?_
    rintro _ _ g5 ⟨rfl, ft4, t4, rfl, ht4, zt4⟩ kt4
    replace kt4 : -2147483648 ≤ t4 ∧ t4 ≤ 2147483647 := kt4
    replace ht4 : -7 ≤ t4 ∧ t4 ≤ -1 := ht4
    have fg5 : jfr w_X12_task h g5 := jfr_tr f0 ft4 (fun i k q => by unfold w_X12_refuse at q; unfold w_X12_task; omega)
    replace zt4 : t4 = (-1 : Int) := zt4
    exact st_r0 (ls := []) ⟨rfl, rfl, fg5, t4, rfl, (by omega), trivial⟩
  · replace c3 : ¬ t1 = 0 := by first | exact c3 | exact Int.not_le.mp c3 | exact Int.not_lt.mp c3 | exact Decidable.not_not.mp c3
    refine st_cs (na := 3) (st := [.inl 5, .inl 0, .inl a2]) rfl rfl rfl (c_X12_in a2 0 5 h) rfl ?_
    rintro _ _ _ ⟨rfl, rfl, t6, rfl, ht6, zt6⟩ kt6
    replace kt6 : -2147483648 ≤ t6 ∧ t6 ≤ 2147483647 := kt6
    replace ht6 : 0 ≤ t6 ∧ t6 ≤ 1 := ht6
    replace zt6 : (t6 = 1 ∧ (0 : Int) ≤ a2 ∧ a2 ≤ (5 : Int)) ∨ (t6 = 0 ∧ ¬ ((0 : Int) ≤ a2 ∧ a2 ≤ (5 : Int))) := zt6
    refine And.intro (fun c8 => ?_) (fun c8 => ?_)
    · replace c8 : t6 = 0 := c8
      show jGo E l 53 229 229 _ 27 [.inr (.inr (.inl 176)), .inl a1, .inl a2, .inl a3, .inl a4, .inr (.inr (.inr ()))] [] 229 jr0 h
      refine jGo_blk qX12_task_27 ?_
      refine st_cv (na := 1) (st := [.inl (-1), .inr (.inr (.inl 176))]) jo_176 rfl rfl rfl (c_X12_refuse (-1) h (by omega)) rfl ?_
      rintro _ _ g10 ⟨rfl, ft9, t9, rfl, ht9, zt9⟩ kt9
      replace kt9 : -2147483648 ≤ t9 ∧ t9 ≤ 2147483647 := kt9
      replace ht9 : -7 ≤ t9 ∧ t9 ≤ -1 := ht9
      have fg10 : jfr w_X12_task h g10 := jfr_tr f0 ft9 (fun i k q => by unfold w_X12_refuse at q; unfold w_X12_task; omega)
      replace zt9 : t9 = (-1 : Int) := zt9
      exact st_r0 (ls := []) ⟨rfl, rfl, fg10, t9, rfl, (by omega), trivial⟩
    · replace c8 : ¬ t6 = 0 := by first | exact c8 | exact Int.not_le.mp c8 | exact Int.not_lt.mp c8 | exact Decidable.not_not.mp c8
      refine st_cs (na := 3) (st := [.inl 3, .inl 0, .inl a3]) rfl rfl rfl (c_X12_in a3 0 3 h) rfl ?_
      rintro _ _ _ ⟨rfl, rfl, t11, rfl, ht11, zt11⟩ kt11
      replace kt11 : -2147483648 ≤ t11 ∧ t11 ≤ 2147483647 := kt11
      replace ht11 : 0 ≤ t11 ∧ t11 ≤ 1 := ht11
      replace zt11 : (t11 = 1 ∧ (0 : Int) ≤ a3 ∧ a3 ≤ (3 : Int)) ∨ (t11 = 0 ∧ ¬ ((0 : Int) ≤ a3 ∧ a3 ≤ (3 : Int))) := zt11
      refine And.intro (fun c13 => ?_) (fun c13 => ?_)
      · replace c13 : ¬ t11 = 0 := c13
        show jGo E l 53 229 229 _ 33 [.inr (.inr (.inl 176)), .inl a1, .inl a2, .inl a3, .inl a4, .inr (.inr (.inr ()))] [] 229 jr0 h
        refine jGo_blk qX12_task_33 ?_
        refine And.intro (fun c14 => ?_) (fun c14 => ?_)
        · replace c14 : 0 ≤ a4 := c14
          show jGo E l 53 229 229 _ 45 [.inr (.inr (.inl 176)), .inl a1, .inl a2, .inl a3, .inl a4, .inr (.inr (.inr ()))] [] 229 jr0 h
          refine jGo_blk qX12_task_45 ?_
          refine And.intro (fun c15 => ?_) (fun c15 => ?_)
          · replace c15 : a4 ≤ 2000 := c15
            show jGo E l 53 229 229 _ 60 [.inr (.inr (.inl 176)), .inl a1, .inl a2, .inl a3, .inl a4, .inr (.inr (.inr ()))] [] 229 jr0 h
            refine jGo_blk qX12_task_60 ?_
            refine st_gr jo_176 jr_176_12 ?_
            have e16 : jw32 (6 * a1) = 6 * a1 := j32e (by omega) (by omega)
            have e17 : jw32 ((jw32 (6 * a1)) + a2) = (jw32 (6 * a1)) + a2 := j32e (by omega) (by omega)
            refine st_ai jo_187 (show 0 ≤ jw32 ((jw32 (6 * a1)) + a2) by omega) (show jw32 ((jw32 (6 * a1)) + a2) < ((18 : Nat) : Int) by omega) (fun v18 ev18 b19 => ?_)
            replace ev18 : v18 = h 187 (jw32 ((jw32 (6 * a1)) + a2)) := ev18
            replace b19 := (jba_187 (jw32 ((jw32 (6 * a1)) + a2)) _).1 b19
            refine st_gr jo_176 jr_176_11 ?_
            have e20 : jw32 (6 * a1) = 6 * a1 := j32e (by omega) (by omega)
            have e21 : jw32 ((jw32 (6 * a1)) + a2) = (jw32 (6 * a1)) + a2 := j32e (by omega) (by omega)
            refine st_si jo_186 (show 0 ≤ jw32 ((jw32 (6 * a1)) + a2) by omega) (show jw32 ((jw32 (6 * a1)) + a2) < ((18 : Nat) : Int) by omega) (fun hx => (jba_186 _ _).2 (show 0 ≤ a3 ∧ a3 ≤ 3 by omega)) (fun g22 eg22 => ?_)
            replace eg22 : g22 = jup h 186 (jw32 ((jw32 (6 * a1)) + a2)) a3 := eg22
            have fg22 : jfr w_X12_task h g22 := jfr_up f0 eg22 (by unfold w_X12_task; omega)
            have e23 : g22 186 (jw32 ((jw32 (6 * a1)) + a2)) = a3 := jup_s eg22
            refine st_gr jo_176 jr_176_12 ?_
            have e24 : jw32 (6 * a1) = 6 * a1 := j32e (by omega) (by omega)
            have e25 : jw32 ((jw32 (6 * a1)) + a2) = (jw32 (6 * a1)) + a2 := j32e (by omega) (by omega)
            refine st_si jo_187 (show 0 ≤ jw32 ((jw32 (6 * a1)) + a2) by omega) (show jw32 ((jw32 (6 * a1)) + a2) < ((18 : Nat) : Int) by omega) (fun hx => (jba_187 _ _).2 (show 0 ≤ a4 ∧ a4 ≤ 2000 by omega)) (fun g26 eg26 => ?_)
            replace eg26 : g26 = jup g22 187 (jw32 ((jw32 (6 * a1)) + a2)) a4 := eg26
            have fg26 : jfr w_X12_task h g26 := jfr_up fg22 eg26 (by unfold w_X12_task; omega)
            have e27 : g26 187 (jw32 ((jw32 (6 * a1)) + a2)) = a4 := jup_s eg26
            exact st_r0 (ls := []) ⟨rfl, rfl, fg26, v18, rfl, (by omega), trivial⟩
          · replace c15 : 2000 < a4 := by first | exact c15 | exact Int.not_le.mp c15 | exact Int.not_lt.mp c15 | exact Decidable.not_not.mp c15
            refine st_cv (na := 1) (st := [.inl (-6), .inr (.inr (.inl 176))]) jo_176 rfl rfl rfl (c_X12_refuse (-6) h (by omega)) rfl ?_
            rintro _ _ g29 ⟨rfl, ft28, t28, rfl, ht28, zt28⟩ kt28
            replace kt28 : -2147483648 ≤ t28 ∧ t28 ≤ 2147483647 := kt28
            replace ht28 : -7 ≤ t28 ∧ t28 ≤ -1 := ht28
            have fg29 : jfr w_X12_task h g29 := jfr_tr f0 ft28 (fun i k q => by unfold w_X12_refuse at q; unfold w_X12_task; omega)
            replace zt28 : t28 = (-6 : Int) := zt28
            exact st_r0 (ls := []) ⟨rfl, rfl, fg29, t28, rfl, (by omega), trivial⟩
        · replace c14 : a4 < 0 := by first | exact c14 | exact Int.not_le.mp c14 | exact Int.not_lt.mp c14 | exact Decidable.not_not.mp c14
          refine st_cv (na := 1) (st := [.inl (-4), .inr (.inr (.inl 176))]) jo_176 rfl rfl rfl (c_X12_refuse (-4) h (by omega)) rfl ?_
          rintro _ _ g31 ⟨rfl, ft30, t30, rfl, ht30, zt30⟩ kt30
          replace kt30 : -2147483648 ≤ t30 ∧ t30 ≤ 2147483647 := kt30
          replace ht30 : -7 ≤ t30 ∧ t30 ≤ -1 := ht30
          have fg31 : jfr w_X12_task h g31 := jfr_tr f0 ft30 (fun i k q => by unfold w_X12_refuse at q; unfold w_X12_task; omega)
          replace zt30 : t30 = (-4 : Int) := zt30
          exact st_r0 (ls := []) ⟨rfl, rfl, fg31, t30, rfl, (by omega), trivial⟩
      · replace c13 : t11 = 0 := by first | exact c13 | exact Int.not_le.mp c13 | exact Int.not_lt.mp c13 | exact Decidable.not_not.mp c13
        show jGo E l 53 229 229 _ 27 [.inr (.inr (.inl 176)), .inl a1, .inl a2, .inl a3, .inl a4, .inr (.inr (.inr ()))] [] 229 jr0 h
        refine jGo_blk qX12_task_27 ?_
        refine st_cv (na := 1) (st := [.inl (-1), .inr (.inr (.inl 176))]) jo_176 rfl rfl rfl (c_X12_refuse (-1) h (by omega)) rfl ?_
        rintro _ _ g33 ⟨rfl, ft32, t32, rfl, ht32, zt32⟩ kt32
        replace kt32 : -2147483648 ≤ t32 ∧ t32 ≤ 2147483647 := kt32
        replace ht32 : -7 ≤ t32 ∧ t32 ≤ -1 := ht32
        have fg33 : jfr w_X12_task h g33 := jfr_tr f0 ft32 (fun i k q => by unfold w_X12_refuse at q; unfold w_X12_task; omega)
        replace zt32 : t32 = (-1 : Int) := zt32
        exact st_r0 (ls := []) ⟨rfl, rfl, fg33, t32, rfl, (by omega), trivial⟩

def w_X11_needs (i k : Int) : Prop := (i = 1) ∨ (26 ≤ i ∧ i ≤ 28) ∨ (i = 111 ∧ 9 ≤ k ∧ k ≤ 11)
def k_X11_needs (a1 : Int) (a2 : Int) (a3 : Int) (a4 : Int) (h : JH) (v : Option JV) (r' g : JH) : Prop := r' = jr0 ∧ jfr w_X11_needs h g ∧ ∃ x : Int, v = some (.inl x) ∧ (-7 ≤ x ∧ x ≤ 500) ∧ (True)
set_option maxHeartbeats 4000000 in
theorem c_X11_needs {E : JE} {l : Launch} (a1 : Int) (a2 : Int) (a3 : Int) (a4 : Int) (h : JH) : jMt E l 54 [.inr (.inr (.inl 0)), .inl a1, .inl a2, .inl a3, .inl a4] 229 jr0 h (k_X11_needs a1 a2 a3 a4 h) := by
  refine jMt0 (nL := 8) (ls := [.inr (.inr (.inl 0)), .inl a1, .inl a2, .inl a3, .inl a4, .inr (.inr (.inr ())), .inr (.inr (.inr ())), .inr (.inr (.inr ()))]) (by decide +kernel) (by decide +kernel) (by decide +kernel) rfl rfl ?_
  have f0 : jfr w_X11_needs h h := jfr_rf _ _
  refine jGo_blk qX11_needs_0 ?_
  refine st_cs (na := 2) (st := [.inl 3, .inl a1]) rfl rfl rfl (c_X11_within a1 3 h) rfl ?_
  rintro _ _ _ ⟨rfl, rfl, t1, rfl, ht1, zt1⟩ kt1
  replace kt1 : -2147483648 ≤ t1 ∧ t1 ≤ 2147483647 := kt1
  replace ht1 : 0 ≤ t1 ∧ t1 ≤ 1 := ht1
  replace zt1 : (t1 = 1 ∧ 0 ≤ a1 ∧ a1 < (3 : Int)) ∨ (t1 = 0 ∧ ¬ (0 ≤ a1 ∧ a1 < (3 : Int))) := zt1
  refine And.intro (fun c3 => ?_) (fun c3 => ?_)
  · replace c3 : t1 = 0 := c3
    show jGo E l 54 229 229 _ 26 [.inr (.inr (.inl 0)), .inl a1, .inl a2, .inl a3, .inl a4, .inr (.inr (.inr ())), .inr (.inr (.inr ())), .inr (.inr (.inr ()))] [] 229 jr0 h
    refine jGo_blk qX11_needs_26 ?_
    show jGo E l 54 229 229 _ 39 [.inr (.inr (.inl 0)), .inl a1, .inl a2, .inl a3, .inl a4, .inr (.inr (.inr ())), .inr (.inr (.inr ())), .inr (.inr (.inr ()))] [.inl (-1)] 229 jr0 h
    refine jGo_blk qX11_needs_39 ?_
    refine And.intro (fun c4 => ?_) (fun c4 => ?_)
    · replace c4 : (-1 : Int) = 0 := c4
      exfalso; omega
    · replace c4 : ¬ (-1 : Int) = 0 := by first | exact c4 | exact Int.not_le.mp c4 | exact Int.not_lt.mp c4 | exact Decidable.not_not.mp c4
      refine st_cv (na := 1) (st := [.inl (-1), .inr (.inr (.inl 0))]) jo_0 rfl rfl rfl (c_X11_refused (-1) h (by omega)) rfl ?_
      rintro _ _ g6 ⟨rfl, ft5, t5, rfl, ht5, zt5⟩ kt5
      replace kt5 : -2147483648 ≤ t5 ∧ t5 ≤ 2147483647 := kt5
      replace ht5 : -7 ≤ t5 ∧ t5 ≤ -1 := ht5
      have fg6 : jfr w_X11_needs h g6 := jfr_tr f0 ft5 (fun i k q => by unfold w_X11_refused at q; unfold w_X11_needs; omega)
      replace zt5 : t5 = (-1 : Int) := zt5
      exact st_r0 (ls := []) ⟨rfl, rfl, fg6, t5, rfl, (by omega), trivial⟩
  · replace c3 : ¬ t1 = 0 := by first | exact c3 | exact Int.not_le.mp c3 | exact Int.not_lt.mp c3 | exact Decidable.not_not.mp c3
    refine st_cs (na := 2) (st := [.inl 6, .inl a2]) rfl rfl rfl (c_X11_within a2 6 h) rfl ?_
    rintro _ _ _ ⟨rfl, rfl, t7, rfl, ht7, zt7⟩ kt7
    replace kt7 : -2147483648 ≤ t7 ∧ t7 ≤ 2147483647 := kt7
    replace ht7 : 0 ≤ t7 ∧ t7 ≤ 1 := ht7
    replace zt7 : (t7 = 1 ∧ 0 ≤ a2 ∧ a2 < (6 : Int)) ∨ (t7 = 0 ∧ ¬ (0 ≤ a2 ∧ a2 < (6 : Int))) := zt7
    refine And.intro (fun c9 => ?_) (fun c9 => ?_)
    · replace c9 : t7 = 0 := c9
      show jGo E l 54 229 229 _ 26 [.inr (.inr (.inl 0)), .inl a1, .inl a2, .inl a3, .inl a4, .inr (.inr (.inr ())), .inr (.inr (.inr ())), .inr (.inr (.inr ()))] [] 229 jr0 h
      refine jGo_blk qX11_needs_26 ?_
      show jGo E l 54 229 229 _ 39 [.inr (.inr (.inl 0)), .inl a1, .inl a2, .inl a3, .inl a4, .inr (.inr (.inr ())), .inr (.inr (.inr ())), .inr (.inr (.inr ()))] [.inl (-1)] 229 jr0 h
      refine jGo_blk qX11_needs_39 ?_
      refine And.intro (fun c10 => ?_) (fun c10 => ?_)
      · replace c10 : (-1 : Int) = 0 := c10
        exfalso; omega
      · replace c10 : ¬ (-1 : Int) = 0 := by first | exact c10 | exact Int.not_le.mp c10 | exact Int.not_lt.mp c10 | exact Decidable.not_not.mp c10
        refine st_cv (na := 1) (st := [.inl (-1), .inr (.inr (.inl 0))]) jo_0 rfl rfl rfl (c_X11_refused (-1) h (by omega)) rfl ?_
        rintro _ _ g12 ⟨rfl, ft11, t11, rfl, ht11, zt11⟩ kt11
        replace kt11 : -2147483648 ≤ t11 ∧ t11 ≤ 2147483647 := kt11
        replace ht11 : -7 ≤ t11 ∧ t11 ≤ -1 := ht11
        have fg12 : jfr w_X11_needs h g12 := jfr_tr f0 ft11 (fun i k q => by unfold w_X11_refused at q; unfold w_X11_needs; omega)
        replace zt11 : t11 = (-1 : Int) := zt11
        exact st_r0 (ls := []) ⟨rfl, rfl, fg12, t11, rfl, (by omega), trivial⟩
    · replace c9 : ¬ t7 = 0 := by first | exact c9 | exact Int.not_le.mp c9 | exact Int.not_lt.mp c9 | exact Decidable.not_not.mp c9
      refine st_cs (na := 2) (st := [.inl 6, .inl a3]) rfl rfl rfl (c_X11_within a3 6 h) rfl ?_
      rintro _ _ _ ⟨rfl, rfl, t13, rfl, ht13, zt13⟩ kt13
      replace kt13 : -2147483648 ≤ t13 ∧ t13 ≤ 2147483647 := kt13
      replace ht13 : 0 ≤ t13 ∧ t13 ≤ 1 := ht13
      replace zt13 : (t13 = 1 ∧ 0 ≤ a3 ∧ a3 < (6 : Int)) ∨ (t13 = 0 ∧ ¬ (0 ≤ a3 ∧ a3 < (6 : Int))) := zt13
      refine And.intro (fun c15 => ?_) (fun c15 => ?_)
      · replace c15 : ¬ t13 = 0 := c15
        show jGo E l 54 229 229 _ 30 [.inr (.inr (.inl 0)), .inl a1, .inl a2, .inl a3, .inl a4, .inr (.inr (.inr ())), .inr (.inr (.inr ())), .inr (.inr (.inr ()))] [] 229 jr0 h
        refine jGo_blk qX11_needs_30 ?_
        refine st_cs (na := 3) (st := [.inl 500, .inl 0, .inl a4]) rfl rfl rfl (c_X11_outside a4 0 500 h) rfl ?_
        rintro _ _ _ ⟨rfl, rfl, t16, rfl, ht16, zt16⟩ kt16
        replace kt16 : -2147483648 ≤ t16 ∧ t16 ≤ 2147483647 := kt16
        replace ht16 : -6 ≤ t16 ∧ t16 ≤ 0 := ht16
        replace zt16 : (t16 = -4 ∧ a4 < (0 : Int)) ∨ (t16 = -6 ∧ (0 : Int) ≤ a4 ∧ (500 : Int) < a4) ∨ (t16 = 0 ∧ (0 : Int) ≤ a4 ∧ a4 ≤ (500 : Int)) := zt16
        show jGo E l 54 229 229 _ 39 [.inr (.inr (.inl 0)), .inl a1, .inl a2, .inl a3, .inl a4, .inr (.inr (.inr ())), .inr (.inr (.inr ())), .inr (.inr (.inr ()))] [.inl t16] 229 jr0 h
        refine jGo_blk qX11_needs_39 ?_
        refine And.intro (fun c18 => ?_) (fun c18 => ?_)
        · replace c18 : t16 = 0 := c18
          show jGo E l 54 229 229 _ 53 [.inr (.inr (.inl 0)), .inl a1, .inl a2, .inl a3, .inl a4, .inl t16, .inr (.inr (.inr ())), .inr (.inr (.inr ()))] [] 229 jr0 h
          refine jGo_blk qX11_needs_53 ?_
          refine st_gr jo_0 jr_0_11 ?_
          refine st_cv (na := 0) (st := [.inr (.inr (.inl 111))]) jo_111 rfl rfl rfl (c_X7_forget h) rfl ?_
          rintro _ _ g20 ⟨rfl, ft19, rfl, zt19⟩ kt19
          have fg20 : jfr w_X11_needs h g20 := jfr_tr f0 ft19 (fun i k q => by unfold w_X7_forget at q; unfold w_X11_needs; omega)
          have e21 : jw32 (a2 * 6) = a2 * 6 := j32e (by omega) (by omega)
          have e22 : jw32 ((jw32 (a2 * 6)) + a3) = (jw32 (a2 * 6)) + a3 := j32e (by omega) (by omega)
          refine st_gr jo_0 jr_0_4 ?_
          refine st_gr jo_16 jr_16_2 ?_
          refine st_ar jo_25 (by decide) (show 0 ≤ a1 by omega) (show a1 < ((3 : Nat) : Int) by omega) (fun u23 eu23 => ?_)
          replace eu23 : u23 = jr0 25 a1 := eu23
          have qu23 : u23 = 26 + a1 := eu23.trans (jrow_25 a1 (by omega) (by omega)).1
          have ou23 : jF 229 u23 1 36 := by rw [eu23]; exact (jrow_25 a1 (by omega) (by omega)).2.1
          have wu23 : ∀ j v : Int, jbd u23 j v ↔ (0 ≤ v ∧ v ≤ 500) := by rw [eu23]; exact (jrow_25 a1 (by omega) (by omega)).2.2
          refine st_ai ou23 (show 0 ≤ jw32 ((jw32 (a2 * 6)) + a3) by omega) (show jw32 ((jw32 (a2 * 6)) + a3) < ((36 : Nat) : Int) by omega) (fun v24 ev24 b25 => ?_)
          replace ev24 : v24 = g20 u23 (jw32 ((jw32 (a2 * 6)) + a3)) := ev24
          replace b25 := (wu23 (jw32 ((jw32 (a2 * 6)) + a3)) _).1 b25
          refine st_gr jo_0 jr_0_4 ?_
          refine st_gr jo_16 jr_16_2 ?_
          refine st_ar jo_25 (by decide) (show 0 ≤ a1 by omega) (show a1 < ((3 : Nat) : Int) by omega) (fun u26 eu26 => ?_)
          replace eu26 : u26 = jr0 25 a1 := eu26
          have qu26 : u26 = 26 + a1 := eu26.trans (jrow_25 a1 (by omega) (by omega)).1
          have ou26 : jF 229 u26 1 36 := by rw [eu26]; exact (jrow_25 a1 (by omega) (by omega)).2.1
          have wu26 : ∀ j v : Int, jbd u26 j v ↔ (0 ≤ v ∧ v ≤ 500) := by rw [eu26]; exact (jrow_25 a1 (by omega) (by omega)).2.2
          refine st_si ou26 (show 0 ≤ jw32 ((jw32 (a2 * 6)) + a3) by omega) (show jw32 ((jw32 (a2 * 6)) + a3) < ((36 : Nat) : Int) by omega) (fun hx => (wu26 _ _).2 (show 0 ≤ a4 ∧ a4 ≤ 500 by omega)) (fun g27 eg27 => ?_)
          replace eg27 : g27 = jup g20 u26 (jw32 ((jw32 (a2 * 6)) + a3)) a4 := eg27
          have fg27 : jfr w_X11_needs h g27 := jfr_up fg20 eg27 (by unfold w_X11_needs; omega)
          have e28 : g27 u26 (jw32 ((jw32 (a2 * 6)) + a3)) = a4 := jup_s eg27
          exact st_r0 (ls := []) ⟨rfl, rfl, fg27, v24, rfl, (by omega), trivial⟩
        · replace c18 : ¬ t16 = 0 := by first | exact c18 | exact Int.not_le.mp c18 | exact Int.not_lt.mp c18 | exact Decidable.not_not.mp c18
          refine st_cv (na := 1) (st := [.inl t16, .inr (.inr (.inl 0))]) jo_0 rfl rfl rfl (c_X11_refused t16 h (by omega)) rfl ?_
          rintro _ _ g30 ⟨rfl, ft29, t29, rfl, ht29, zt29⟩ kt29
          replace kt29 : -2147483648 ≤ t29 ∧ t29 ≤ 2147483647 := kt29
          replace ht29 : -7 ≤ t29 ∧ t29 ≤ -1 := ht29
          have fg30 : jfr w_X11_needs h g30 := jfr_tr f0 ft29 (fun i k q => by unfold w_X11_refused at q; unfold w_X11_needs; omega)
          replace zt29 : t29 = t16 := zt29
          exact st_r0 (ls := []) ⟨rfl, rfl, fg30, t29, rfl, (by omega), trivial⟩
      · replace c15 : t13 = 0 := by first | exact c15 | exact Int.not_le.mp c15 | exact Int.not_lt.mp c15 | exact Decidable.not_not.mp c15
        show jGo E l 54 229 229 _ 26 [.inr (.inr (.inl 0)), .inl a1, .inl a2, .inl a3, .inl a4, .inr (.inr (.inr ())), .inr (.inr (.inr ())), .inr (.inr (.inr ()))] [] 229 jr0 h
        refine jGo_blk qX11_needs_26 ?_
        show jGo E l 54 229 229 _ 39 [.inr (.inr (.inl 0)), .inl a1, .inl a2, .inl a3, .inl a4, .inr (.inr (.inr ())), .inr (.inr (.inr ())), .inr (.inr (.inr ()))] [.inl (-1)] 229 jr0 h
        refine jGo_blk qX11_needs_39 ?_
        refine And.intro (fun c31 => ?_) (fun c31 => ?_)
        · replace c31 : (-1 : Int) = 0 := c31
          exfalso; omega
        · replace c31 : ¬ (-1 : Int) = 0 := by first | exact c31 | exact Int.not_le.mp c31 | exact Int.not_lt.mp c31 | exact Decidable.not_not.mp c31
          refine st_cv (na := 1) (st := [.inl (-1), .inr (.inr (.inl 0))]) jo_0 rfl rfl rfl (c_X11_refused (-1) h (by omega)) rfl ?_
          rintro _ _ g33 ⟨rfl, ft32, t32, rfl, ht32, zt32⟩ kt32
          replace kt32 : -2147483648 ≤ t32 ∧ t32 ≤ 2147483647 := kt32
          replace ht32 : -7 ≤ t32 ∧ t32 ≤ -1 := ht32
          have fg33 : jfr w_X11_needs h g33 := jfr_tr f0 ft32 (fun i k q => by unfold w_X11_refused at q; unfold w_X11_needs; omega)
          replace zt32 : t32 = (-1 : Int) := zt32
          exact st_r0 (ls := []) ⟨rfl, rfl, fg33, t32, rfl, (by omega), trivial⟩

def w_X12_needs (i k : Int) : Prop := (i = 188) ∨ (i = 219)
def k_X12_needs (a1 : Int) (a2 : Int) (a3 : Int) (a4 : Int) (h : JH) (v : Option JV) (r' g : JH) : Prop := r' = jr0 ∧ jfr w_X12_needs h g ∧ ∃ x : Int, v = some (.inl x) ∧ (-7 ≤ x ∧ x ≤ 500) ∧ (True)
set_option maxHeartbeats 4000000 in
theorem c_X12_needs {E : JE} {l : Launch} (a1 : Int) (a2 : Int) (a3 : Int) (a4 : Int) (h : JH) : jMt E l 55 [.inr (.inr (.inl 176)), .inl a1, .inl a2, .inl a3, .inl a4] 229 jr0 h (k_X12_needs a1 a2 a3 a4 h) := by
  refine jMt0 (nL := 7) (ls := [.inr (.inr (.inl 176)), .inl a1, .inl a2, .inl a3, .inl a4, .inr (.inr (.inr ())), .inr (.inr (.inr ()))]) (by decide +kernel) (by decide +kernel) (by decide +kernel) rfl rfl ?_
  have f0 : jfr w_X12_needs h h := jfr_rf _ _
  refine jGo_blk qX12_needs_0 ?_
  refine st_cs (na := 3) (st := [.inl 2, .inl 0, .inl a1]) rfl rfl rfl (c_X12_in a1 0 2 h) rfl ?_
  rintro _ _ _ ⟨rfl, rfl, t1, rfl, ht1, zt1⟩ kt1
  replace kt1 : -2147483648 ≤ t1 ∧ t1 ≤ 2147483647 := kt1
  replace ht1 : 0 ≤ t1 ∧ t1 ≤ 1 := ht1
  replace zt1 : (t1 = 1 ∧ (0 : Int) ≤ a1 ∧ a1 ≤ (2 : Int)) ∨ (t1 = 0 ∧ ¬ ((0 : Int) ≤ a1 ∧ a1 ≤ (2 : Int))) := zt1
  refine And.intro (fun c3 => ?_) (fun c3 => ?_)
  · replace c3 : t1 = 0 := c3
    show jGo E l 55 229 229 _ 27 [.inr (.inr (.inl 176)), .inl a1, .inl a2, .inl a3, .inl a4, .inr (.inr (.inr ())), .inr (.inr (.inr ()))] [] 229 jr0 h
    refine jGo_blk qX12_needs_27 ?_
    refine st_cv (na := 1) (st := [.inl (-1), .inr (.inr (.inl 176))]) jo_176 rfl rfl rfl (c_X12_refuse (-1) h (by omega)) rfl ?_
    rintro _ _ g5 ⟨rfl, ft4, t4, rfl, ht4, zt4⟩ kt4
    replace kt4 : -2147483648 ≤ t4 ∧ t4 ≤ 2147483647 := kt4
    replace ht4 : -7 ≤ t4 ∧ t4 ≤ -1 := ht4
    have fg5 : jfr w_X12_needs h g5 := jfr_tr f0 ft4 (fun i k q => by unfold w_X12_refuse at q; unfold w_X12_needs; omega)
    replace zt4 : t4 = (-1 : Int) := zt4
    exact st_r0 (ls := []) ⟨rfl, rfl, fg5, t4, rfl, (by omega), trivial⟩
  · replace c3 : ¬ t1 = 0 := by first | exact c3 | exact Int.not_le.mp c3 | exact Int.not_lt.mp c3 | exact Decidable.not_not.mp c3
    refine st_cs (na := 3) (st := [.inl 5, .inl 0, .inl a2]) rfl rfl rfl (c_X12_in a2 0 5 h) rfl ?_
    rintro _ _ _ ⟨rfl, rfl, t6, rfl, ht6, zt6⟩ kt6
    replace kt6 : -2147483648 ≤ t6 ∧ t6 ≤ 2147483647 := kt6
    replace ht6 : 0 ≤ t6 ∧ t6 ≤ 1 := ht6
    replace zt6 : (t6 = 1 ∧ (0 : Int) ≤ a2 ∧ a2 ≤ (5 : Int)) ∨ (t6 = 0 ∧ ¬ ((0 : Int) ≤ a2 ∧ a2 ≤ (5 : Int))) := zt6
    refine And.intro (fun c8 => ?_) (fun c8 => ?_)
    · replace c8 : t6 = 0 := c8
      show jGo E l 55 229 229 _ 27 [.inr (.inr (.inl 176)), .inl a1, .inl a2, .inl a3, .inl a4, .inr (.inr (.inr ())), .inr (.inr (.inr ()))] [] 229 jr0 h
      refine jGo_blk qX12_needs_27 ?_
      refine st_cv (na := 1) (st := [.inl (-1), .inr (.inr (.inl 176))]) jo_176 rfl rfl rfl (c_X12_refuse (-1) h (by omega)) rfl ?_
      rintro _ _ g10 ⟨rfl, ft9, t9, rfl, ht9, zt9⟩ kt9
      replace kt9 : -2147483648 ≤ t9 ∧ t9 ≤ 2147483647 := kt9
      replace ht9 : -7 ≤ t9 ∧ t9 ≤ -1 := ht9
      have fg10 : jfr w_X12_needs h g10 := jfr_tr f0 ft9 (fun i k q => by unfold w_X12_refuse at q; unfold w_X12_needs; omega)
      replace zt9 : t9 = (-1 : Int) := zt9
      exact st_r0 (ls := []) ⟨rfl, rfl, fg10, t9, rfl, (by omega), trivial⟩
    · replace c8 : ¬ t6 = 0 := by first | exact c8 | exact Int.not_le.mp c8 | exact Int.not_lt.mp c8 | exact Decidable.not_not.mp c8
      refine st_cs (na := 3) (st := [.inl 5, .inl 0, .inl a3]) rfl rfl rfl (c_X12_in a3 0 5 h) rfl ?_
      rintro _ _ _ ⟨rfl, rfl, t11, rfl, ht11, zt11⟩ kt11
      replace kt11 : -2147483648 ≤ t11 ∧ t11 ≤ 2147483647 := kt11
      replace ht11 : 0 ≤ t11 ∧ t11 ≤ 1 := ht11
      replace zt11 : (t11 = 1 ∧ (0 : Int) ≤ a3 ∧ a3 ≤ (5 : Int)) ∨ (t11 = 0 ∧ ¬ ((0 : Int) ≤ a3 ∧ a3 ≤ (5 : Int))) := zt11
      refine And.intro (fun c13 => ?_) (fun c13 => ?_)
      · replace c13 : ¬ t11 = 0 := c13
        show jGo E l 55 229 229 _ 33 [.inr (.inr (.inl 176)), .inl a1, .inl a2, .inl a3, .inl a4, .inr (.inr (.inr ())), .inr (.inr (.inr ()))] [] 229 jr0 h
        refine jGo_blk qX12_needs_33 ?_
        refine And.intro (fun c14 => ?_) (fun c14 => ?_)
        · replace c14 : 0 ≤ a4 := c14
          show jGo E l 55 229 229 _ 45 [.inr (.inr (.inl 176)), .inl a1, .inl a2, .inl a3, .inl a4, .inr (.inr (.inr ())), .inr (.inr (.inr ()))] [] 229 jr0 h
          refine jGo_blk qX12_needs_45 ?_
          refine And.intro (fun c15 => ?_) (fun c15 => ?_)
          · replace c15 : a4 ≤ 500 := c15
            show jGo E l 55 229 229 _ 60 [.inr (.inr (.inl 176)), .inl a1, .inl a2, .inl a3, .inl a4, .inr (.inr (.inr ())), .inr (.inr (.inr ()))] [] 229 jr0 h
            refine jGo_blk qX12_needs_60 ?_
            have e16 : jw32 (6 * a1) = 6 * a1 := j32e (by omega) (by omega)
            have e17 : jw32 ((jw32 (6 * a1)) + a2) = (jw32 (6 * a1)) + a2 := j32e (by omega) (by omega)
            have e18 : jw32 (6 * (jw32 ((jw32 (6 * a1)) + a2))) = 6 * (jw32 ((jw32 (6 * a1)) + a2)) := j32e (by omega) (by omega)
            have e19 : jw32 ((jw32 (6 * (jw32 ((jw32 (6 * a1)) + a2)))) + a3) = (jw32 (6 * (jw32 ((jw32 (6 * a1)) + a2)))) + a3 := j32e (by omega) (by omega)
            refine st_gr jo_176 jr_176_13 ?_
            refine st_ai jo_188 (show 0 ≤ jw32 ((jw32 (6 * (jw32 ((jw32 (6 * a1)) + a2)))) + a3) by omega) (show jw32 ((jw32 (6 * (jw32 ((jw32 (6 * a1)) + a2)))) + a3) < ((108 : Nat) : Int) by omega) (fun v20 ev20 b21 => ?_)
            replace ev20 : v20 = h 188 (jw32 ((jw32 (6 * (jw32 ((jw32 (6 * a1)) + a2)))) + a3)) := ev20
            replace b21 := (jba_188 (jw32 ((jw32 (6 * (jw32 ((jw32 (6 * a1)) + a2)))) + a3)) _).1 b21
            refine st_gr jo_176 jr_176_13 ?_
            refine st_si jo_188 (show 0 ≤ jw32 ((jw32 (6 * (jw32 ((jw32 (6 * a1)) + a2)))) + a3) by omega) (show jw32 ((jw32 (6 * (jw32 ((jw32 (6 * a1)) + a2)))) + a3) < ((108 : Nat) : Int) by omega) (fun hx => (jba_188 _ _).2 (show 0 ≤ a4 ∧ a4 ≤ 500 by omega)) (fun g22 eg22 => ?_)
            replace eg22 : g22 = jup h 188 (jw32 ((jw32 (6 * (jw32 ((jw32 (6 * a1)) + a2)))) + a3)) a4 := eg22
            have fg22 : jfr w_X12_needs h g22 := jfr_up f0 eg22 (by unfold w_X12_needs; omega)
            have e23 : g22 188 (jw32 ((jw32 (6 * (jw32 ((jw32 (6 * a1)) + a2)))) + a3)) = a4 := jup_s eg22
            exact st_r0 (ls := []) ⟨rfl, rfl, fg22, v20, rfl, (by omega), trivial⟩
          · replace c15 : 500 < a4 := by first | exact c15 | exact Int.not_le.mp c15 | exact Int.not_lt.mp c15 | exact Decidable.not_not.mp c15
            refine st_cv (na := 1) (st := [.inl (-6), .inr (.inr (.inl 176))]) jo_176 rfl rfl rfl (c_X12_refuse (-6) h (by omega)) rfl ?_
            rintro _ _ g25 ⟨rfl, ft24, t24, rfl, ht24, zt24⟩ kt24
            replace kt24 : -2147483648 ≤ t24 ∧ t24 ≤ 2147483647 := kt24
            replace ht24 : -7 ≤ t24 ∧ t24 ≤ -1 := ht24
            have fg25 : jfr w_X12_needs h g25 := jfr_tr f0 ft24 (fun i k q => by unfold w_X12_refuse at q; unfold w_X12_needs; omega)
            replace zt24 : t24 = (-6 : Int) := zt24
            exact st_r0 (ls := []) ⟨rfl, rfl, fg25, t24, rfl, (by omega), trivial⟩
        · replace c14 : a4 < 0 := by first | exact c14 | exact Int.not_le.mp c14 | exact Int.not_lt.mp c14 | exact Decidable.not_not.mp c14
          refine st_cv (na := 1) (st := [.inl (-4), .inr (.inr (.inl 176))]) jo_176 rfl rfl rfl (c_X12_refuse (-4) h (by omega)) rfl ?_
          rintro _ _ g27 ⟨rfl, ft26, t26, rfl, ht26, zt26⟩ kt26
          replace kt26 : -2147483648 ≤ t26 ∧ t26 ≤ 2147483647 := kt26
          replace ht26 : -7 ≤ t26 ∧ t26 ≤ -1 := ht26
          have fg27 : jfr w_X12_needs h g27 := jfr_tr f0 ft26 (fun i k q => by unfold w_X12_refuse at q; unfold w_X12_needs; omega)
          replace zt26 : t26 = (-4 : Int) := zt26
          exact st_r0 (ls := []) ⟨rfl, rfl, fg27, t26, rfl, (by omega), trivial⟩
      · replace c13 : t11 = 0 := by first | exact c13 | exact Int.not_le.mp c13 | exact Int.not_lt.mp c13 | exact Decidable.not_not.mp c13
        show jGo E l 55 229 229 _ 27 [.inr (.inr (.inl 176)), .inl a1, .inl a2, .inl a3, .inl a4, .inr (.inr (.inr ())), .inr (.inr (.inr ()))] [] 229 jr0 h
        refine jGo_blk qX12_needs_27 ?_
        refine st_cv (na := 1) (st := [.inl (-1), .inr (.inr (.inl 176))]) jo_176 rfl rfl rfl (c_X12_refuse (-1) h (by omega)) rfl ?_
        rintro _ _ g29 ⟨rfl, ft28, t28, rfl, ht28, zt28⟩ kt28
        replace kt28 : -2147483648 ≤ t28 ∧ t28 ≤ 2147483647 := kt28
        replace ht28 : -7 ≤ t28 ∧ t28 ≤ -1 := ht28
        have fg29 : jfr w_X12_needs h g29 := jfr_tr f0 ft28 (fun i k q => by unfold w_X12_refuse at q; unfold w_X12_needs; omega)
        replace zt28 : t28 = (-1 : Int) := zt28
        exact st_r0 (ls := []) ⟨rfl, rfl, fg29, t28, rfl, (by omega), trivial⟩

def w_X4_begin (a0 : Int) (i k : Int) : Prop := (a0 + 0 ≤ i ∧ i ≤ a0 + 0)
def k_X4_begin (a0 : Int) (a1 : Int) (a2 : Int) (a3 : Int) (h : JH) (v : Option JV) (r' g : JH) : Prop := r' = jr0 ∧ jfr (w_X4_begin a0) h g ∧ v = none ∧ (True)
set_option maxHeartbeats 4000000 in
theorem c_X4_begin {E : JE} {l : Launch} (a0 : Int) (a1 : Int) (a2 : Int) (a3 : Int) (h : JH) (ha0 : jHl a0) (p1 : 0 ≤ a1 ∧ a1 ≤ 2) (p2 : 0 ≤ a2 ∧ a2 ≤ 99) (p3 : 0 ≤ a3 ∧ a3 ≤ 2000) : jMt E l 56 [.inr (.inr (.inl a0)), .inl a1, .inl a2, .inl a3] 229 jr0 h (k_X4_begin a0 a1 a2 a3 h) := by
  refine jMt0 (nL := 4) (ls := [.inr (.inr (.inl a0)), .inl a1, .inl a2, .inl a3]) (by decide +kernel) (by decide +kernel) (by decide +kernel) rfl rfl ?_
  have f0 : jfr (w_X4_begin a0) h h := jfr_rf _ _
  refine jGo_blk qX4_begin_0 ?_
  refine st_pi ha0.1 (fun hx => (jbf_4_0 ha0.1 _).2 (show 0 ≤ a1 ∧ a1 ≤ 2 by omega)) (fun g1 eg1 => ?_)
  replace eg1 : g1 = jup h a0 0 a1 := eg1
  have fg1 : jfr (w_X4_begin a0) h g1 := jfr_up f0 eg1 (by unfold w_X4_begin; omega)
  have e2 : g1 a0 0 = a1 := jup_s eg1
  refine st_pi ha0.1 (fun hx => (jbf_4_1 ha0.1 _).2 (show 0 ≤ a2 ∧ a2 ≤ 99 by omega)) (fun g3 eg3 => ?_)
  replace eg3 : g3 = jup g1 a0 1 a2 := eg3
  have fg3 : jfr (w_X4_begin a0) h g3 := jfr_up fg1 eg3 (by unfold w_X4_begin; omega)
  have e4 : g3 a0 1 = a2 := jup_s eg3
  refine st_pi ha0.1 (fun hx => (jbf_4_2 ha0.1 _).2 (show 0 ≤ a3 ∧ a3 ≤ 2000 by omega)) (fun g5 eg5 => ?_)
  replace eg5 : g5 = jup g3 a0 2 a3 := eg5
  have fg5 : jfr (w_X4_begin a0) h g5 := jfr_up fg3 eg5 (by unfold w_X4_begin; omega)
  have e6 : g5 a0 2 = a3 := jup_s eg5
  refine st_pi ha0.1 (fun hx => (jbf_4_3 ha0.1 _).2 (show 0 ≤ 0 ∧ 0 ≤ 3 by omega)) (fun g7 eg7 => ?_)
  replace eg7 : g7 = jup g5 a0 3 0 := eg7
  have fg7 : jfr (w_X4_begin a0) h g7 := jfr_up fg5 eg7 (by unfold w_X4_begin; omega)
  have e8 : g7 a0 3 = 0 := jup_s eg7
  refine st_pi ha0.1 (fun hx => (jbf_4_4 ha0.1 _).2 (show -9 ≤ (-9) ∧ (-9) ≤ 5 by omega)) (fun g9 eg9 => ?_)
  replace eg9 : g9 = jup g7 a0 4 (-9) := eg9
  have fg9 : jfr (w_X4_begin a0) h g9 := jfr_up fg7 eg9 (by unfold w_X4_begin; omega)
  have e10 : g9 a0 4 = (-9) := jup_s eg9
  refine st_pi ha0.1 (fun hx => (jbf_4_9 ha0.1 _).2 hx) (fun g11 eg11 => ?_)
  replace eg11 : g11 = jup g9 a0 9 (-9) := eg11
  have fg11 : jfr (w_X4_begin a0) h g11 := jfr_up fg9 eg11 (by unfold w_X4_begin; omega)
  have e12 : g11 a0 9 = (-9) := jup_s eg11
  exact ⟨rfl, rfl, fg11, rfl, trivial⟩

def w_X10_addHull_29 (i k : Int) : Prop := (36 ≤ i ∧ i ≤ 83) ∨ (i = 29 ∧ k = 4)
def k_X10_addHull_29 (a1 : Int) (a2 : Int) (a3 : Int) (h : JH) (v : Option JV) (r' g : JH) : Prop := r' = jr0 ∧ jfr w_X10_addHull_29 h g ∧ ∃ x : Int, v = some (.inl x) ∧ (0 ≤ x ∧ x ≤ 15) ∧ (True)
set_option maxHeartbeats 4000000 in
theorem c_X10_addHull_29 {E : JE} {l : Launch} (a1 : Int) (a2 : Int) (a3 : Int) (h : JH) (p1 : 0 ≤ a1 ∧ a1 ≤ 2) (p2 : 0 ≤ a2 ∧ a2 ≤ 99) (p3 : 0 ≤ a3 ∧ a3 ≤ 2000) (q0 : h 29 4 ≤ 15) : jMt E l 57 [.inr (.inr (.inl 29)), .inl a1, .inl a2, .inl a3] 229 jr0 h (k_X10_addHull_29 a1 a2 a3 h) := by
  refine jMt0 (nL := 4) (ls := [.inr (.inr (.inl 29)), .inl a1, .inl a2, .inl a3]) (by decide +kernel) (by decide +kernel) (by decide +kernel) rfl rfl ?_
  have f0 : jfr w_X10_addHull_29 h h := jfr_rf _ _
  refine jGo_blk qX10_addHull_0 ?_
  refine st_gr jo_29 jr_29_3 ?_
  refine st_gi jo_29 (fun v1 ev1 b2 => ?_)
  replace ev1 : v1 = h 29 4 := ev1
  replace b2 := (jbf_10_4 jo_29 _).1 b2
  refine st_ar jo_33 (by decide) (show 0 ≤ v1 by omega) (show v1 < ((16 : Nat) : Int) by omega) (fun u3 eu3 => ?_)
  replace eu3 : u3 = jr0 33 v1 := eu3
  have qu3 : u3 = 36 + 3 * v1 := eu3.trans (jhul_33 v1 (by omega) (by omega)).1
  have hu3 : jHl u3 := by rw [eu3]; exact (jhul_33 v1 (by omega) (by omega)).2
  refine st_cv (na := 3) (st := [.inl a3, .inl a2, .inl a1, .inr (.inr (.inl u3))]) hu3.1 rfl rfl rfl (c_X4_begin u3 a1 a2 a3 h hu3 (by omega) (by omega) (by omega)) rfl ?_
  rintro _ _ g5 ⟨rfl, ft4, rfl, zt4⟩ kt4
  have fg5 : jfr w_X10_addHull_29 h g5 := jfr_tr f0 ft4 (fun i k q => by unfold w_X4_begin at q; unfold w_X10_addHull_29; omega)
  refine st_gi jo_29 (fun v6 ev6 b7 => ?_)
  replace ev6 : v6 = g5 29 4 := ev6
  replace b7 := (jbf_10_4 jo_29 _).1 b7
  have e8 : g5 29 4 = h 29 4 := ft4 29 4 (by unfold w_X4_begin; omega)
  have e9 : jw32 (v6 + 1) = v6 + 1 := j32e (by omega) (by omega)
  refine st_pi jo_29 (fun hx => (jbf_10_4 jo_29 _).2 (show 0 ≤ jw32 (v6 + 1) ∧ jw32 (v6 + 1) ≤ 16 by omega)) (fun g10 eg10 => ?_)
  replace eg10 : g10 = jup g5 29 4 (jw32 (v6 + 1)) := eg10
  have fg10 : jfr w_X10_addHull_29 h g10 := jfr_up fg5 eg10 (by unfold w_X10_addHull_29; omega)
  have e11 : g10 29 4 = jw32 (v6 + 1) := jup_s eg10
  refine st_gi jo_29 (fun v12 ev12 b13 => ?_)
  replace ev12 : v12 = g10 29 4 := ev12
  replace b13 := (jbf_10_4 jo_29 _).1 b13
  have e14 : jw32 (v12 - 1) = v12 - 1 := j32e (by omega) (by omega)
  exact st_r0 (ls := []) ⟨rfl, rfl, fg10, jw32 (v12 - 1), rfl, (by omega), trivial⟩

def w_X11_hull (i k : Int) : Prop := (i = 1) ∨ (36 ≤ i ∧ i ≤ 83) ∨ (i = 29 ∧ k = 4) ∨ (i = 111 ∧ 9 ≤ k ∧ k ≤ 11)
def k_X11_hull (a1 : Int) (a2 : Int) (a3 : Int) (h : JH) (v : Option JV) (r' g : JH) : Prop := r' = jr0 ∧ jfr w_X11_hull h g ∧ ∃ x : Int, v = some (.inl x) ∧ (-7 ≤ x ∧ x ≤ 15) ∧ (True)
set_option maxHeartbeats 4000000 in
theorem c_X11_hull {E : JE} {l : Launch} (a1 : Int) (a2 : Int) (a3 : Int) (h : JH) : jMt E l 58 [.inr (.inr (.inl 0)), .inl a1, .inl a2, .inl a3] 229 jr0 h (k_X11_hull a1 a2 a3 h) := by
  refine jMt0 (nL := 4) (ls := [.inr (.inr (.inl 0)), .inl a1, .inl a2, .inl a3]) (by decide +kernel) (by decide +kernel) (by decide +kernel) rfl rfl ?_
  have f0 : jfr w_X11_hull h h := jfr_rf _ _
  refine jGo_blk qX11_hull_0 ?_
  refine st_cs (na := 2) (st := [.inl 3, .inl a1]) rfl rfl rfl (c_X11_within a1 3 h) rfl ?_
  rintro _ _ _ ⟨rfl, rfl, t1, rfl, ht1, zt1⟩ kt1
  replace kt1 : -2147483648 ≤ t1 ∧ t1 ≤ 2147483647 := kt1
  replace ht1 : 0 ≤ t1 ∧ t1 ≤ 1 := ht1
  replace zt1 : (t1 = 1 ∧ 0 ≤ a1 ∧ a1 < (3 : Int)) ∨ (t1 = 0 ∧ ¬ (0 ≤ a1 ∧ a1 < (3 : Int))) := zt1
  refine And.intro (fun c3 => ?_) (fun c3 => ?_)
  · replace c3 : ¬ t1 = 0 := c3
    show jGo E l 58 229 229 _ 14 [.inr (.inr (.inl 0)), .inl a1, .inl a2, .inl a3] [] 229 jr0 h
    refine jGo_blk qX11_hull_14 ?_
    refine And.intro (fun c4 => ?_) (fun c4 => ?_)
    · replace c4 : a2 < 0 := c4
      show jGo E l 58 229 229 _ 22 [.inr (.inr (.inl 0)), .inl a1, .inl a2, .inl a3] [] 229 jr0 h
      refine jGo_blk qX11_hull_22 ?_
      refine st_cv (na := 1) (st := [.inl (-4), .inr (.inr (.inl 0))]) jo_0 rfl rfl rfl (c_X11_refused (-4) h (by omega)) rfl ?_
      rintro _ _ g6 ⟨rfl, ft5, t5, rfl, ht5, zt5⟩ kt5
      replace kt5 : -2147483648 ≤ t5 ∧ t5 ≤ 2147483647 := kt5
      replace ht5 : -7 ≤ t5 ∧ t5 ≤ -1 := ht5
      have fg6 : jfr w_X11_hull h g6 := jfr_tr f0 ft5 (fun i k q => by unfold w_X11_refused at q; unfold w_X11_hull; omega)
      replace zt5 : t5 = (-4 : Int) := zt5
      exact st_r0 (ls := []) ⟨rfl, rfl, fg6, t5, rfl, (by omega), trivial⟩
    · replace c4 : 0 ≤ a2 := by first | exact c4 | exact Int.not_le.mp c4 | exact Int.not_lt.mp c4 | exact Decidable.not_not.mp c4
      refine And.intro (fun c7 => ?_) (fun c7 => ?_)
      · replace c7 : 0 ≤ a3 := c7
        show jGo E l 58 229 229 _ 29 [.inr (.inr (.inl 0)), .inl a1, .inl a2, .inl a3] [] 229 jr0 h
        refine jGo_blk qX11_hull_29 ?_
        refine And.intro (fun c8 => ?_) (fun c8 => ?_)
        · replace c8 : 99 < a2 := c8
          show jGo E l 58 229 229 _ 54 [.inr (.inr (.inl 0)), .inl a1, .inl a2, .inl a3] [] 229 jr0 h
          refine jGo_blk qX11_hull_54 ?_
          refine st_cv (na := 1) (st := [.inl (-6), .inr (.inr (.inl 0))]) jo_0 rfl rfl rfl (c_X11_refused (-6) h (by omega)) rfl ?_
          rintro _ _ g10 ⟨rfl, ft9, t9, rfl, ht9, zt9⟩ kt9
          replace kt9 : -2147483648 ≤ t9 ∧ t9 ≤ 2147483647 := kt9
          replace ht9 : -7 ≤ t9 ∧ t9 ≤ -1 := ht9
          have fg10 : jfr w_X11_hull h g10 := jfr_tr f0 ft9 (fun i k q => by unfold w_X11_refused at q; unfold w_X11_hull; omega)
          replace zt9 : t9 = (-6 : Int) := zt9
          exact st_r0 (ls := []) ⟨rfl, rfl, fg10, t9, rfl, (by omega), trivial⟩
        · replace c8 : a2 ≤ 99 := by first | exact c8 | exact Int.not_le.mp c8 | exact Int.not_lt.mp c8 | exact Decidable.not_not.mp c8
          refine And.intro (fun c11 => ?_) (fun c11 => ?_)
          · replace c11 : 2000 < a3 := c11
            show jGo E l 58 229 229 _ 54 [.inr (.inr (.inl 0)), .inl a1, .inl a2, .inl a3] [] 229 jr0 h
            refine jGo_blk qX11_hull_54 ?_
            refine st_cv (na := 1) (st := [.inl (-6), .inr (.inr (.inl 0))]) jo_0 rfl rfl rfl (c_X11_refused (-6) h (by omega)) rfl ?_
            rintro _ _ g13 ⟨rfl, ft12, t12, rfl, ht12, zt12⟩ kt12
            replace kt12 : -2147483648 ≤ t12 ∧ t12 ≤ 2147483647 := kt12
            replace ht12 : -7 ≤ t12 ∧ t12 ≤ -1 := ht12
            have fg13 : jfr w_X11_hull h g13 := jfr_tr f0 ft12 (fun i k q => by unfold w_X11_refused at q; unfold w_X11_hull; omega)
            replace zt12 : t12 = (-6 : Int) := zt12
            exact st_r0 (ls := []) ⟨rfl, rfl, fg13, t12, rfl, (by omega), trivial⟩
          · replace c11 : a3 ≤ 2000 := by first | exact c11 | exact Int.not_le.mp c11 | exact Int.not_lt.mp c11 | exact Decidable.not_not.mp c11
            refine st_gr jo_0 jr_0_5 ?_
            refine st_gi jo_29 (fun v14 ev14 b15 => ?_)
            replace ev14 : v14 = h 29 4 := ev14
            replace b15 := (jbf_10_4 jo_29 _).1 b15
            refine And.intro (fun c16 => ?_) (fun c16 => ?_)
            · replace c16 : v14 < 16 := c16
              show jGo E l 58 229 229 _ 61 [.inr (.inr (.inl 0)), .inl a1, .inl a2, .inl a3] [] 229 jr0 h
              refine jGo_blk qX11_hull_61 ?_
              refine st_gr jo_0 jr_0_11 ?_
              refine st_cv (na := 0) (st := [.inr (.inr (.inl 111))]) jo_111 rfl rfl rfl (c_X7_forget h) rfl ?_
              rintro _ _ g18 ⟨rfl, ft17, rfl, zt17⟩ kt17
              have fg18 : jfr w_X11_hull h g18 := jfr_tr f0 ft17 (fun i k q => by unfold w_X7_forget at q; unfold w_X11_hull; omega)
              refine st_gr jo_0 jr_0_5 ?_
              have e19 : g18 29 4 = h 29 4 := ft17 29 4 (by unfold w_X7_forget; omega)
              refine st_cv (na := 3) (st := [.inl a3, .inl a2, .inl a1, .inr (.inr (.inl 29))]) jo_29 rfl rfl rfl (c_X10_addHull_29 a1 a2 a3 g18 (by omega) (by omega) (by omega) (by omega)) rfl ?_
              rintro _ _ g21 ⟨rfl, ft20, t20, rfl, ht20, zt20⟩ kt20
              replace kt20 : -2147483648 ≤ t20 ∧ t20 ≤ 2147483647 := kt20
              replace ht20 : 0 ≤ t20 ∧ t20 ≤ 15 := ht20
              have fg21 : jfr w_X11_hull h g21 := jfr_tr fg18 ft20 (fun i k q => by unfold w_X10_addHull_29 at q; unfold w_X11_hull; omega)
              exact st_r0 (ls := []) ⟨rfl, rfl, fg21, t20, rfl, (by omega), trivial⟩
            · replace c16 : 16 ≤ v14 := by first | exact c16 | exact Int.not_le.mp c16 | exact Int.not_lt.mp c16 | exact Decidable.not_not.mp c16
              show jGo E l 58 229 229 _ 54 [.inr (.inr (.inl 0)), .inl a1, .inl a2, .inl a3] [] 229 jr0 h
              refine jGo_blk qX11_hull_54 ?_
              refine st_cv (na := 1) (st := [.inl (-6), .inr (.inr (.inl 0))]) jo_0 rfl rfl rfl (c_X11_refused (-6) h (by omega)) rfl ?_
              rintro _ _ g23 ⟨rfl, ft22, t22, rfl, ht22, zt22⟩ kt22
              replace kt22 : -2147483648 ≤ t22 ∧ t22 ≤ 2147483647 := kt22
              replace ht22 : -7 ≤ t22 ∧ t22 ≤ -1 := ht22
              have fg23 : jfr w_X11_hull h g23 := jfr_tr f0 ft22 (fun i k q => by unfold w_X11_refused at q; unfold w_X11_hull; omega)
              replace zt22 : t22 = (-6 : Int) := zt22
              exact st_r0 (ls := []) ⟨rfl, rfl, fg23, t22, rfl, (by omega), trivial⟩
      · replace c7 : a3 < 0 := by first | exact c7 | exact Int.not_le.mp c7 | exact Int.not_lt.mp c7 | exact Decidable.not_not.mp c7
        show jGo E l 58 229 229 _ 22 [.inr (.inr (.inl 0)), .inl a1, .inl a2, .inl a3] [] 229 jr0 h
        refine jGo_blk qX11_hull_22 ?_
        refine st_cv (na := 1) (st := [.inl (-4), .inr (.inr (.inl 0))]) jo_0 rfl rfl rfl (c_X11_refused (-4) h (by omega)) rfl ?_
        rintro _ _ g25 ⟨rfl, ft24, t24, rfl, ht24, zt24⟩ kt24
        replace kt24 : -2147483648 ≤ t24 ∧ t24 ≤ 2147483647 := kt24
        replace ht24 : -7 ≤ t24 ∧ t24 ≤ -1 := ht24
        have fg25 : jfr w_X11_hull h g25 := jfr_tr f0 ft24 (fun i k q => by unfold w_X11_refused at q; unfold w_X11_hull; omega)
        replace zt24 : t24 = (-4 : Int) := zt24
        exact st_r0 (ls := []) ⟨rfl, rfl, fg25, t24, rfl, (by omega), trivial⟩
  · replace c3 : t1 = 0 := by first | exact c3 | exact Int.not_le.mp c3 | exact Int.not_lt.mp c3 | exact Decidable.not_not.mp c3
    refine st_cv (na := 1) (st := [.inl (-1), .inr (.inr (.inl 0))]) jo_0 rfl rfl rfl (c_X11_refused (-1) h (by omega)) rfl ?_
    rintro _ _ g27 ⟨rfl, ft26, t26, rfl, ht26, zt26⟩ kt26
    replace kt26 : -2147483648 ≤ t26 ∧ t26 ≤ 2147483647 := kt26
    replace ht26 : -7 ≤ t26 ∧ t26 ≤ -1 := ht26
    have fg27 : jfr w_X11_hull h g27 := jfr_tr f0 ft26 (fun i k q => by unfold w_X11_refused at q; unfold w_X11_hull; omega)
    replace zt26 : t26 = (-1 : Int) := zt26
    exact st_r0 (ls := []) ⟨rfl, rfl, fg27, t26, rfl, (by omega), trivial⟩

def w_X12_hull (i k : Int) : Prop := (189 ≤ i ∧ i ≤ 193) ∨ (i = 198) ∨ (i = 219) ∨ (i = 176 ∧ k = 14)
def k_X12_hull (a1 : Int) (a2 : Int) (a3 : Int) (h : JH) (v : Option JV) (r' g : JH) : Prop := r' = jr0 ∧ jfr w_X12_hull h g ∧ ∃ x : Int, v = some (.inl x) ∧ (-7 ≤ x ∧ x ≤ 15) ∧ (True)
set_option maxHeartbeats 4000000 in
theorem c_X12_hull {E : JE} {l : Launch} (a1 : Int) (a2 : Int) (a3 : Int) (h : JH) : jMt E l 59 [.inr (.inr (.inl 176)), .inl a1, .inl a2, .inl a3] 229 jr0 h (k_X12_hull a1 a2 a3 h) := by
  refine jMt0 (nL := 4) (ls := [.inr (.inr (.inl 176)), .inl a1, .inl a2, .inl a3]) (by decide +kernel) (by decide +kernel) (by decide +kernel) rfl rfl ?_
  have f0 : jfr w_X12_hull h h := jfr_rf _ _
  refine jGo_blk qX12_hull_0 ?_
  refine st_cs (na := 3) (st := [.inl 2, .inl 0, .inl a1]) rfl rfl rfl (c_X12_in a1 0 2 h) rfl ?_
  rintro _ _ _ ⟨rfl, rfl, t1, rfl, ht1, zt1⟩ kt1
  replace kt1 : -2147483648 ≤ t1 ∧ t1 ≤ 2147483647 := kt1
  replace ht1 : 0 ≤ t1 ∧ t1 ≤ 1 := ht1
  replace zt1 : (t1 = 1 ∧ (0 : Int) ≤ a1 ∧ a1 ≤ (2 : Int)) ∨ (t1 = 0 ∧ ¬ ((0 : Int) ≤ a1 ∧ a1 ≤ (2 : Int))) := zt1
  refine And.intro (fun c3 => ?_) (fun c3 => ?_)
  · replace c3 : ¬ t1 = 0 := c3
    show jGo E l 59 229 229 _ 15 [.inr (.inr (.inl 176)), .inl a1, .inl a2, .inl a3] [] 229 jr0 h
    refine jGo_blk qX12_hull_15 ?_
    refine And.intro (fun c4 => ?_) (fun c4 => ?_)
    · replace c4 : a2 < 0 := c4
      show jGo E l 59 229 229 _ 23 [.inr (.inr (.inl 176)), .inl a1, .inl a2, .inl a3] [] 229 jr0 h
      refine jGo_blk qX12_hull_23 ?_
      refine st_cv (na := 1) (st := [.inl (-4), .inr (.inr (.inl 176))]) jo_176 rfl rfl rfl (c_X12_refuse (-4) h (by omega)) rfl ?_
      rintro _ _ g6 ⟨rfl, ft5, t5, rfl, ht5, zt5⟩ kt5
      replace kt5 : -2147483648 ≤ t5 ∧ t5 ≤ 2147483647 := kt5
      replace ht5 : -7 ≤ t5 ∧ t5 ≤ -1 := ht5
      have fg6 : jfr w_X12_hull h g6 := jfr_tr f0 ft5 (fun i k q => by unfold w_X12_refuse at q; unfold w_X12_hull; omega)
      replace zt5 : t5 = (-4 : Int) := zt5
      exact st_r0 (ls := []) ⟨rfl, rfl, fg6, t5, rfl, (by omega), trivial⟩
    · replace c4 : 0 ≤ a2 := by first | exact c4 | exact Int.not_le.mp c4 | exact Int.not_lt.mp c4 | exact Decidable.not_not.mp c4
      refine And.intro (fun c7 => ?_) (fun c7 => ?_)
      · replace c7 : 0 ≤ a3 := c7
        show jGo E l 59 229 229 _ 30 [.inr (.inr (.inl 176)), .inl a1, .inl a2, .inl a3] [] 229 jr0 h
        refine jGo_blk qX12_hull_30 ?_
        refine And.intro (fun c8 => ?_) (fun c8 => ?_)
        · replace c8 : 99 < a2 := c8
          show jGo E l 59 229 229 _ 52 [.inr (.inr (.inl 176)), .inl a1, .inl a2, .inl a3] [] 229 jr0 h
          refine jGo_blk qX12_hull_52 ?_
          refine st_cv (na := 1) (st := [.inl (-6), .inr (.inr (.inl 176))]) jo_176 rfl rfl rfl (c_X12_refuse (-6) h (by omega)) rfl ?_
          rintro _ _ g10 ⟨rfl, ft9, t9, rfl, ht9, zt9⟩ kt9
          replace kt9 : -2147483648 ≤ t9 ∧ t9 ≤ 2147483647 := kt9
          replace ht9 : -7 ≤ t9 ∧ t9 ≤ -1 := ht9
          have fg10 : jfr w_X12_hull h g10 := jfr_tr f0 ft9 (fun i k q => by unfold w_X12_refuse at q; unfold w_X12_hull; omega)
          replace zt9 : t9 = (-6 : Int) := zt9
          exact st_r0 (ls := []) ⟨rfl, rfl, fg10, t9, rfl, (by omega), trivial⟩
        · replace c8 : a2 ≤ 99 := by first | exact c8 | exact Int.not_le.mp c8 | exact Int.not_lt.mp c8 | exact Decidable.not_not.mp c8
          refine And.intro (fun c11 => ?_) (fun c11 => ?_)
          · replace c11 : 2000 < a3 := c11
            show jGo E l 59 229 229 _ 52 [.inr (.inr (.inl 176)), .inl a1, .inl a2, .inl a3] [] 229 jr0 h
            refine jGo_blk qX12_hull_52 ?_
            refine st_cv (na := 1) (st := [.inl (-6), .inr (.inr (.inl 176))]) jo_176 rfl rfl rfl (c_X12_refuse (-6) h (by omega)) rfl ?_
            rintro _ _ g13 ⟨rfl, ft12, t12, rfl, ht12, zt12⟩ kt12
            replace kt12 : -2147483648 ≤ t12 ∧ t12 ≤ 2147483647 := kt12
            replace ht12 : -7 ≤ t12 ∧ t12 ≤ -1 := ht12
            have fg13 : jfr w_X12_hull h g13 := jfr_tr f0 ft12 (fun i k q => by unfold w_X12_refuse at q; unfold w_X12_hull; omega)
            replace zt12 : t12 = (-6 : Int) := zt12
            exact st_r0 (ls := []) ⟨rfl, rfl, fg13, t12, rfl, (by omega), trivial⟩
          · replace c11 : a3 ≤ 2000 := by first | exact c11 | exact Int.not_le.mp c11 | exact Int.not_lt.mp c11 | exact Decidable.not_not.mp c11
            refine st_gi jo_176 (fun v14 ev14 b15 => ?_)
            replace ev14 : v14 = h 176 14 := ev14
            replace b15 := (jbf_12_14 jo_176 _).1 b15
            refine And.intro (fun c16 => ?_) (fun c16 => ?_)
            · replace c16 : ¬ v14 = 16 := c16
              show jGo E l 59 229 229 _ 59 [.inr (.inr (.inl 176)), .inl a1, .inl a2, .inl a3] [] 229 jr0 h
              refine jGo_blk qX12_hull_59 ?_
              refine st_gr jo_176 jr_176_15 ?_
              refine st_gi jo_176 (fun v17 ev17 b18 => ?_)
              replace ev17 : v17 = h 176 14 := ev17
              replace b18 := (jbf_12_14 jo_176 _).1 b18
              refine st_si jo_189 (show 0 ≤ v17 by omega) (show v17 < ((16 : Nat) : Int) by omega) (fun hx => (jba_189 _ _).2 (show 0 ≤ a1 ∧ a1 ≤ 2 by omega)) (fun g19 eg19 => ?_)
              replace eg19 : g19 = jup h 189 v17 a1 := eg19
              have fg19 : jfr w_X12_hull h g19 := jfr_up f0 eg19 (by unfold w_X12_hull; omega)
              have e20 : g19 189 v17 = a1 := jup_s eg19
              refine st_gr jo_176 jr_176_16 ?_
              refine st_gi jo_176 (fun v21 ev21 b22 => ?_)
              replace ev21 : v21 = g19 176 14 := ev21
              replace b22 := (jbf_12_14 jo_176 _).1 b22
              have e23 : g19 176 14 = h 176 14 := jup_o eg19 (by omega)
              refine st_si jo_190 (show 0 ≤ v21 by omega) (show v21 < ((16 : Nat) : Int) by omega) (fun hx => (jba_190 _ _).2 (show 0 ≤ a2 ∧ a2 ≤ 99 by omega)) (fun g24 eg24 => ?_)
              replace eg24 : g24 = jup g19 190 v21 a2 := eg24
              have fg24 : jfr w_X12_hull h g24 := jfr_up fg19 eg24 (by unfold w_X12_hull; omega)
              have e25 : g24 190 v21 = a2 := jup_s eg24
              refine st_gr jo_176 jr_176_17 ?_
              refine st_gi jo_176 (fun v26 ev26 b27 => ?_)
              replace ev26 : v26 = g24 176 14 := ev26
              replace b27 := (jbf_12_14 jo_176 _).1 b27
              have e28 : g24 176 14 = g19 176 14 := jup_o eg24 (by omega)
              refine st_si jo_191 (show 0 ≤ v26 by omega) (show v26 < ((16 : Nat) : Int) by omega) (fun hx => (jba_191 _ _).2 (show 0 ≤ a3 ∧ a3 ≤ 2000 by omega)) (fun g29 eg29 => ?_)
              replace eg29 : g29 = jup g24 191 v26 a3 := eg29
              have fg29 : jfr w_X12_hull h g29 := jfr_up fg24 eg29 (by unfold w_X12_hull; omega)
              have e30 : g29 191 v26 = a3 := jup_s eg29
              refine st_gr jo_176 jr_176_18 ?_
              refine st_gi jo_176 (fun v31 ev31 b32 => ?_)
              replace ev31 : v31 = g29 176 14 := ev31
              replace b32 := (jbf_12_14 jo_176 _).1 b32
              have e33 : g29 176 14 = g24 176 14 := jup_o eg29 (by omega)
              refine st_si jo_192 (show 0 ≤ v31 by omega) (show v31 < ((16 : Nat) : Int) by omega) (fun hx => (jba_192 _ _).2 (show 0 ≤ 0 ∧ 0 ≤ 3 by omega)) (fun g34 eg34 => ?_)
              replace eg34 : g34 = jup g29 192 v31 0 := eg34
              have fg34 : jfr w_X12_hull h g34 := jfr_up fg29 eg34 (by unfold w_X12_hull; omega)
              have e35 : g34 192 v31 = 0 := jup_s eg34
              refine st_gr jo_176 jr_176_19 ?_
              refine st_gi jo_176 (fun v36 ev36 b37 => ?_)
              replace ev36 : v36 = g34 176 14 := ev36
              replace b37 := (jbf_12_14 jo_176 _).1 b37
              have e38 : g34 176 14 = g29 176 14 := jup_o eg34 (by omega)
              refine st_si jo_193 (show 0 ≤ v36 by omega) (show v36 < ((16 : Nat) : Int) by omega) (fun hx => (jba_193 _ _).2 (show -9 ≤ (-9) ∧ (-9) ≤ 5 by omega)) (fun g39 eg39 => ?_)
              replace eg39 : g39 = jup g34 193 v36 (-9) := eg39
              have fg39 : jfr w_X12_hull h g39 := jfr_up fg34 eg39 (by unfold w_X12_hull; omega)
              have e40 : g39 193 v36 = (-9) := jup_s eg39
              refine st_gr jo_176 jr_176_24 ?_
              refine st_gi jo_176 (fun v41 ev41 b42 => ?_)
              replace ev41 : v41 = g39 176 14 := ev41
              replace b42 := (jbf_12_14 jo_176 _).1 b42
              have e43 : g39 176 14 = g34 176 14 := jup_o eg39 (by omega)
              refine st_si jo_198 (show 0 ≤ v41 by omega) (show v41 < ((16 : Nat) : Int) by omega) (fun hx => (jba_198 _ _).2 hx) (fun g44 eg44 => ?_)
              replace eg44 : g44 = jup g39 198 v41 (-9) := eg44
              have fg44 : jfr w_X12_hull h g44 := jfr_up fg39 eg44 (by unfold w_X12_hull; omega)
              have e45 : g44 198 v41 = (-9) := jup_s eg44
              refine st_gi jo_176 (fun v46 ev46 b47 => ?_)
              replace ev46 : v46 = g44 176 14 := ev46
              replace b47 := (jbf_12_14 jo_176 _).1 b47
              have e48 : g44 176 14 = g39 176 14 := jup_o eg44 (by omega)
              have e49 : jw32 (v46 + 1) = v46 + 1 := j32e (by omega) (by omega)
              refine st_pi jo_176 (fun hx => (jbf_12_14 jo_176 _).2 (show 0 ≤ jw32 (v46 + 1) ∧ jw32 (v46 + 1) ≤ 16 by omega)) (fun g50 eg50 => ?_)
              replace eg50 : g50 = jup g44 176 14 (jw32 (v46 + 1)) := eg50
              have fg50 : jfr w_X12_hull h g50 := jfr_up fg44 eg50 (by unfold w_X12_hull; omega)
              have e51 : g50 176 14 = jw32 (v46 + 1) := jup_s eg50
              refine st_gi jo_176 (fun v52 ev52 b53 => ?_)
              replace ev52 : v52 = g50 176 14 := ev52
              replace b53 := (jbf_12_14 jo_176 _).1 b53
              have e54 : jw32 (v52 - 1) = v52 - 1 := j32e (by omega) (by omega)
              exact st_r0 (ls := []) ⟨rfl, rfl, fg50, jw32 (v52 - 1), rfl, (by omega), trivial⟩
            · replace c16 : v14 = 16 := by first | exact c16 | exact Int.not_le.mp c16 | exact Int.not_lt.mp c16 | exact Decidable.not_not.mp c16
              show jGo E l 59 229 229 _ 52 [.inr (.inr (.inl 176)), .inl a1, .inl a2, .inl a3] [] 229 jr0 h
              refine jGo_blk qX12_hull_52 ?_
              refine st_cv (na := 1) (st := [.inl (-6), .inr (.inr (.inl 176))]) jo_176 rfl rfl rfl (c_X12_refuse (-6) h (by omega)) rfl ?_
              rintro _ _ g56 ⟨rfl, ft55, t55, rfl, ht55, zt55⟩ kt55
              replace kt55 : -2147483648 ≤ t55 ∧ t55 ≤ 2147483647 := kt55
              replace ht55 : -7 ≤ t55 ∧ t55 ≤ -1 := ht55
              have fg56 : jfr w_X12_hull h g56 := jfr_tr f0 ft55 (fun i k q => by unfold w_X12_refuse at q; unfold w_X12_hull; omega)
              replace zt55 : t55 = (-6 : Int) := zt55
              exact st_r0 (ls := []) ⟨rfl, rfl, fg56, t55, rfl, (by omega), trivial⟩
      · replace c7 : a3 < 0 := by first | exact c7 | exact Int.not_le.mp c7 | exact Int.not_lt.mp c7 | exact Decidable.not_not.mp c7
        show jGo E l 59 229 229 _ 23 [.inr (.inr (.inl 176)), .inl a1, .inl a2, .inl a3] [] 229 jr0 h
        refine jGo_blk qX12_hull_23 ?_
        refine st_cv (na := 1) (st := [.inl (-4), .inr (.inr (.inl 176))]) jo_176 rfl rfl rfl (c_X12_refuse (-4) h (by omega)) rfl ?_
        rintro _ _ g58 ⟨rfl, ft57, t57, rfl, ht57, zt57⟩ kt57
        replace kt57 : -2147483648 ≤ t57 ∧ t57 ≤ 2147483647 := kt57
        replace ht57 : -7 ≤ t57 ∧ t57 ≤ -1 := ht57
        have fg58 : jfr w_X12_hull h g58 := jfr_tr f0 ft57 (fun i k q => by unfold w_X12_refuse at q; unfold w_X12_hull; omega)
        replace zt57 : t57 = (-4 : Int) := zt57
        exact st_r0 (ls := []) ⟨rfl, rfl, fg58, t57, rfl, (by omega), trivial⟩
  · replace c3 : t1 = 0 := by first | exact c3 | exact Int.not_le.mp c3 | exact Int.not_lt.mp c3 | exact Decidable.not_not.mp c3
    refine st_cv (na := 1) (st := [.inl (-1), .inr (.inr (.inl 176))]) jo_176 rfl rfl rfl (c_X12_refuse (-1) h (by omega)) rfl ?_
    rintro _ _ g60 ⟨rfl, ft59, t59, rfl, ht59, zt59⟩ kt59
    replace kt59 : -2147483648 ≤ t59 ∧ t59 ≤ 2147483647 := kt59
    replace ht59 : -7 ≤ t59 ∧ t59 ≤ -1 := ht59
    have fg60 : jfr w_X12_hull h g60 := jfr_tr f0 ft59 (fun i k q => by unfold w_X12_refuse at q; unfold w_X12_hull; omega)
    replace zt59 : t59 = (-1 : Int) := zt59
    exact st_r0 (ls := []) ⟨rfl, rfl, fg60, t59, rfl, (by omega), trivial⟩
