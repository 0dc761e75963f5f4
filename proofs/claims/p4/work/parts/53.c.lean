def w_X11_part (i k : Int) : Prop := (i = 1) ∨ (92 ≤ i ∧ i ≤ 96)
def k_X11_part (a1 : Int) (a2 : Int) (a3 : Int) (a4 : Int) (a5 : Int) (h : JH) (v : Option JV) (r' g : JH) : Prop := r' = jr0 ∧ jfr w_X11_part h g ∧ ∃ x : Int, v = some (.inl x) ∧ (-7 ≤ x ∧ x ≤ 5) ∧ (True)
set_option maxHeartbeats 4000000 in
theorem c_X11_part {E : JE} {l : Launch} (a1 : Int) (a2 : Int) (a3 : Int) (a4 : Int) (a5 : Int) (h : JH) : jMt E l 104 [.inr (.inr (.inl 0)), .inl a1, .inl a2, .inl a3, .inl a4, .inl a5] 229 jr0 h (k_X11_part a1 a2 a3 a4 a5 h) := by
  refine jMt0 (nL := 6) (ls := [.inr (.inr (.inl 0)), .inl a1, .inl a2, .inl a3, .inl a4, .inl a5]) (by decide +kernel) (by decide +kernel) (by decide +kernel) rfl rfl ?_
  have f0 : jfr w_X11_part h h := jfr_rf _ _
  refine jGo_blk qX11_part_0 ?_
  refine st_cs (na := 2) (st := [.inl 3, .inl a1]) rfl rfl rfl (c_X11_within a1 3 h) rfl ?_
  rintro _ _ _ ⟨rfl, rfl, t1, rfl, ht1, zt1⟩ kt1
  have kt1 : -2147483648 ≤ t1 ∧ t1 ≤ 2147483647 := kt1
  have ht1 : 0 ≤ t1 ∧ t1 ≤ 1 := ht1
  have zt1 : (t1 = 1 ∧ 0 ≤ a1 ∧ a1 < (3 : Int)) ∨ (t1 = 0 ∧ ¬ (0 ≤ a1 ∧ a1 < (3 : Int))) := zt1
  refine And.intro (fun c3 => ?_) (fun c3 => ?_)
  · have c3 : t1 = 0 := c3
    show jGo E l 104 229 229 _ 16 [.inr (.inr (.inl 0)), .inl a1, .inl a2, .inl a3, .inl a4, .inl a5] [] 229 jr0 h
    refine jGo_blk qX11_part_16 ?_
    refine st_cv (na := 1) (st := [.inl (-1), .inr (.inr (.inl 0))]) jo_0 rfl rfl rfl (c_X11_refused (-1) h (by omega)) rfl ?_
    rintro _ _ g5 ⟨rfl, ft4, t4, rfl, ht4, zt4⟩ kt4
    have kt4 : -2147483648 ≤ t4 ∧ t4 ≤ 2147483647 := kt4
    have ht4 : -7 ≤ t4 ∧ t4 ≤ -1 := ht4
    have fg5 : jfr w_X11_part h g5 := jfr_tr f0 ft4 (fun i k q => by unfold w_X11_refused at q; unfold w_X11_part; omega)
    have zt4 : t4 = (-1 : Int) := zt4
    exact st_r0 (ls := []) ⟨rfl, rfl, fg5, t4, rfl, (by omega), trivial⟩
  · have c3 : ¬ t1 = 0 := by first | exact c3 | exact Int.not_le.mp c3 | exact Int.not_lt.mp c3 | exact Decidable.not_not.mp c3
    refine st_cs (na := 2) (st := [.inl 3, .inl a2]) rfl rfl rfl (c_X11_within a2 3 h) rfl ?_
    rintro _ _ _ ⟨rfl, rfl, t6, rfl, ht6, zt6⟩ kt6
    have kt6 : -2147483648 ≤ t6 ∧ t6 ≤ 2147483647 := kt6
    have ht6 : 0 ≤ t6 ∧ t6 ≤ 1 := ht6
    have zt6 : (t6 = 1 ∧ 0 ≤ a2 ∧ a2 < (3 : Int)) ∨ (t6 = 0 ∧ ¬ (0 ≤ a2 ∧ a2 < (3 : Int))) := zt6
    refine And.intro (fun c8 => ?_) (fun c8 => ?_)
    · have c8 : ¬ t6 = 0 := c8
      show jGo E l 104 229 229 _ 22 [.inr (.inr (.inl 0)), .inl a1, .inl a2, .inl a3, .inl a4, .inl a5] [] 229 jr0 h
      refine jGo_blk qX11_part_22 ?_
      refine And.intro (fun c9 => ?_) (fun c9 => ?_)
      · have c9 : a3 < (-9) := c9
        show jGo E l 104 229 229 _ 39 [.inr (.inr (.inl 0)), .inl a1, .inl a2, .inl a3, .inl a4, .inl a5] [] 229 jr0 h
        refine jGo_blk qX11_part_39 ?_
        refine st_cv (na := 1) (st := [.inl (-4), .inr (.inr (.inl 0))]) jo_0 rfl rfl rfl (c_X11_refused (-4) h (by omega)) rfl ?_
        rintro _ _ g11 ⟨rfl, ft10, t10, rfl, ht10, zt10⟩ kt10
        have kt10 : -2147483648 ≤ t10 ∧ t10 ≤ 2147483647 := kt10
        have ht10 : -7 ≤ t10 ∧ t10 ≤ -1 := ht10
        have fg11 : jfr w_X11_part h g11 := jfr_tr f0 ft10 (fun i k q => by unfold w_X11_refused at q; unfold w_X11_part; omega)
        have zt10 : t10 = (-4 : Int) := zt10
        exact st_r0 (ls := []) ⟨rfl, rfl, fg11, t10, rfl, (by omega), trivial⟩
      · have c9 : (-9) ≤ a3 := by first | exact c9 | exact Int.not_le.mp c9 | exact Int.not_lt.mp c9 | exact Decidable.not_not.mp c9
        refine And.intro (fun c12 => ?_) (fun c12 => ?_)
        · have c12 : a4 < 0 := c12
          show jGo E l 104 229 229 _ 39 [.inr (.inr (.inl 0)), .inl a1, .inl a2, .inl a3, .inl a4, .inl a5] [] 229 jr0 h
          refine jGo_blk qX11_part_39 ?_
          refine st_cv (na := 1) (st := [.inl (-4), .inr (.inr (.inl 0))]) jo_0 rfl rfl rfl (c_X11_refused (-4) h (by omega)) rfl ?_
          rintro _ _ g14 ⟨rfl, ft13, t13, rfl, ht13, zt13⟩ kt13
          have kt13 : -2147483648 ≤ t13 ∧ t13 ≤ 2147483647 := kt13
          have ht13 : -7 ≤ t13 ∧ t13 ≤ -1 := ht13
          have fg14 : jfr w_X11_part h g14 := jfr_tr f0 ft13 (fun i k q => by unfold w_X11_refused at q; unfold w_X11_part; omega)
          have zt13 : t13 = (-4 : Int) := zt13
          exact st_r0 (ls := []) ⟨rfl, rfl, fg14, t13, rfl, (by omega), trivial⟩
        · have c12 : 0 ≤ a4 := by first | exact c12 | exact Int.not_le.mp c12 | exact Int.not_lt.mp c12 | exact Decidable.not_not.mp c12
          refine And.intro (fun c15 => ?_) (fun c15 => ?_)
          · have c15 : 1 ≤ a5 := c15
            show jGo E l 104 229 229 _ 46 [.inr (.inr (.inl 0)), .inl a1, .inl a2, .inl a3, .inl a4, .inl a5] [] 229 jr0 h
            refine jGo_blk qX11_part_46 ?_
            refine And.intro (fun c16 => ?_) (fun c16 => ?_)
            · have c16 : 9 < a3 := c16
              show jGo E l 104 229 229 _ 81 [.inr (.inr (.inl 0)), .inl a1, .inl a2, .inl a3, .inl a4, .inl a5] [] 229 jr0 h
              refine jGo_blk qX11_part_81 ?_
              refine st_cv (na := 1) (st := [.inl (-6), .inr (.inr (.inl 0))]) jo_0 rfl rfl rfl (c_X11_refused (-6) h (by omega)) rfl ?_
              rintro _ _ g18 ⟨rfl, ft17, t17, rfl, ht17, zt17⟩ kt17
              have kt17 : -2147483648 ≤ t17 ∧ t17 ≤ 2147483647 := kt17
              have ht17 : -7 ≤ t17 ∧ t17 ≤ -1 := ht17
              have fg18 : jfr w_X11_part h g18 := jfr_tr f0 ft17 (fun i k q => by unfold w_X11_refused at q; unfold w_X11_part; omega)
              have zt17 : t17 = (-6 : Int) := zt17
              exact st_r0 (ls := []) ⟨rfl, rfl, fg18, t17, rfl, (by omega), trivial⟩
            · have c16 : a3 ≤ 9 := by first | exact c16 | exact Int.not_le.mp c16 | exact Int.not_lt.mp c16 | exact Decidable.not_not.mp c16
              refine And.intro (fun c19 => ?_) (fun c19 => ?_)
              · have c19 : 9 < a4 := c19
                show jGo E l 104 229 229 _ 81 [.inr (.inr (.inl 0)), .inl a1, .inl a2, .inl a3, .inl a4, .inl a5] [] 229 jr0 h
                refine jGo_blk qX11_part_81 ?_
                refine st_cv (na := 1) (st := [.inl (-6), .inr (.inr (.inl 0))]) jo_0 rfl rfl rfl (c_X11_refused (-6) h (by omega)) rfl ?_
                rintro _ _ g21 ⟨rfl, ft20, t20, rfl, ht20, zt20⟩ kt20
                have kt20 : -2147483648 ≤ t20 ∧ t20 ≤ 2147483647 := kt20
                have ht20 : -7 ≤ t20 ∧ t20 ≤ -1 := ht20
                have fg21 : jfr w_X11_part h g21 := jfr_tr f0 ft20 (fun i k q => by unfold w_X11_refused at q; unfold w_X11_part; omega)
                have zt20 : t20 = (-6 : Int) := zt20
                exact st_r0 (ls := []) ⟨rfl, rfl, fg21, t20, rfl, (by omega), trivial⟩
              · have c19 : a4 ≤ 9 := by first | exact c19 | exact Int.not_le.mp c19 | exact Int.not_lt.mp c19 | exact Decidable.not_not.mp c19
                refine And.intro (fun c22 => ?_) (fun c22 => ?_)
                · have c22 : 500 < a5 := c22
                  show jGo E l 104 229 229 _ 81 [.inr (.inr (.inl 0)), .inl a1, .inl a2, .inl a3, .inl a4, .inl a5] [] 229 jr0 h
                  refine jGo_blk qX11_part_81 ?_
                  refine st_cv (na := 1) (st := [.inl (-6), .inr (.inr (.inl 0))]) jo_0 rfl rfl rfl (c_X11_refused (-6) h (by omega)) rfl ?_
                  rintro _ _ g24 ⟨rfl, ft23, t23, rfl, ht23, zt23⟩ kt23
                  have kt23 : -2147483648 ≤ t23 ∧ t23 ≤ 2147483647 := kt23
                  have ht23 : -7 ≤ t23 ∧ t23 ≤ -1 := ht23
                  have fg24 : jfr w_X11_part h g24 := jfr_tr f0 ft23 (fun i k q => by unfold w_X11_refused at q; unfold w_X11_part; omega)
                  have zt23 : t23 = (-6 : Int) := zt23
                  exact st_r0 (ls := []) ⟨rfl, rfl, fg24, t23, rfl, (by omega), trivial⟩
                · have c22 : a5 ≤ 500 := by first | exact c22 | exact Int.not_le.mp c22 | exact Int.not_lt.mp c22 | exact Decidable.not_not.mp c22
                  refine st_gr jo_0 jr_0_7 ?_
                  refine st_gr jo_91 jr_91_0 ?_
                  refine st_ai jo_92 (show 0 ≤ a1 by omega) (show a1 < ((3 : Nat) : Int) by omega) (fun v25 ev25 b26 => ?_)
                  have ev25 : v25 = h 92 a1 := ev25
                  have b26 := (jba_92 a1 _).1 b26
                  refine And.intro (fun c27 => ?_) (fun c27 => ?_)
                  · have c27 : v25 < 6 := c27
                    show jGo E l 104 229 229 _ 88 [.inr (.inr (.inl 0)), .inl a1, .inl a2, .inl a3, .inl a4, .inl a5] [] 229 jr0 h
                    refine jGo_blk qX11_part_88 ?_
                    refine st_gr jo_0 jr_0_7 ?_
                    refine st_cv (na := 5) (st := [.inl a5, .inl a4, .inl a3, .inl a2, .inl a1, .inr (.inr (.inl 91))]) jo_91 rfl rfl rfl (c_X8_add a1 a2 a3 a4 a5 h (by omega) (by omega) (by omega) (by omega) (by omega) (by omega)) rfl ?_
                    rintro _ _ g29 ⟨rfl, ft28, t28, rfl, ht28, zt28⟩ kt28
                    have kt28 : -2147483648 ≤ t28 ∧ t28 ≤ 2147483647 := kt28
                    have ht28 : 0 ≤ t28 ∧ t28 ≤ 5 := ht28
                    have fg29 : jfr w_X11_part h g29 := jfr_tr f0 ft28 (fun i k q => by unfold w_X8_add at q; unfold w_X11_part; omega)
                    exact st_r0 (ls := []) ⟨rfl, rfl, fg29, t28, rfl, (by omega), trivial⟩
                  · have c27 : 6 ≤ v25 := by first | exact c27 | exact Int.not_le.mp c27 | exact Int.not_lt.mp c27 | exact Decidable.not_not.mp c27
                    show jGo E l 104 229 229 _ 81 [.inr (.inr (.inl 0)), .inl a1, .inl a2, .inl a3, .inl a4, .inl a5] [] 229 jr0 h
                    refine jGo_blk qX11_part_81 ?_
                    refine st_cv (na := 1) (st := [.inl (-6), .inr (.inr (.inl 0))]) jo_0 rfl rfl rfl (c_X11_refused (-6) h (by omega)) rfl ?_
                    rintro _ _ g31 ⟨rfl, ft30, t30, rfl, ht30, zt30⟩ kt30
                    have kt30 : -2147483648 ≤ t30 ∧ t30 ≤ 2147483647 := kt30
                    have ht30 : -7 ≤ t30 ∧ t30 ≤ -1 := ht30
                    have fg31 : jfr w_X11_part h g31 := jfr_tr f0 ft30 (fun i k q => by unfold w_X11_refused at q; unfold w_X11_part; omega)
                    have zt30 : t30 = (-6 : Int) := zt30
                    exact st_r0 (ls := []) ⟨rfl, rfl, fg31, t30, rfl, (by omega), trivial⟩
          · have c15 : a5 < 1 := by first | exact c15 | exact Int.not_le.mp c15 | exact Int.not_lt.mp c15 | exact Decidable.not_not.mp c15
            show jGo E l 104 229 229 _ 39 [.inr (.inr (.inl 0)), .inl a1, .inl a2, .inl a3, .inl a4, .inl a5] [] 229 jr0 h
            refine jGo_blk qX11_part_39 ?_
            refine st_cv (na := 1) (st := [.inl (-4), .inr (.inr (.inl 0))]) jo_0 rfl rfl rfl (c_X11_refused (-4) h (by omega)) rfl ?_
            rintro _ _ g33 ⟨rfl, ft32, t32, rfl, ht32, zt32⟩ kt32
            have kt32 : -2147483648 ≤ t32 ∧ t32 ≤ 2147483647 := kt32
            have ht32 : -7 ≤ t32 ∧ t32 ≤ -1 := ht32
            have fg33 : jfr w_X11_part h g33 := jfr_tr f0 ft32 (fun i k q => by unfold w_X11_refused at q; unfold w_X11_part; omega)
            have zt32 : t32 = (-4 : Int) := zt32
            exact st_r0 (ls := []) ⟨rfl, rfl, fg33, t32, rfl, (by omega), trivial⟩
    · have c8 : t6 = 0 := by first | exact c8 | exact Int.not_le.mp c8 | exact Int.not_lt.mp c8 | exact Decidable.not_not.mp c8
      show jGo E l 104 229 229 _ 16 [.inr (.inr (.inl 0)), .inl a1, .inl a2, .inl a3, .inl a4, .inl a5] [] 229 jr0 h
      refine jGo_blk qX11_part_16 ?_
      refine st_cv (na := 1) (st := [.inl (-1), .inr (.inr (.inl 0))]) jo_0 rfl rfl rfl (c_X11_refused (-1) h (by omega)) rfl ?_
      rintro _ _ g35 ⟨rfl, ft34, t34, rfl, ht34, zt34⟩ kt34
      have kt34 : -2147483648 ≤ t34 ∧ t34 ≤ 2147483647 := kt34
      have ht34 : -7 ≤ t34 ∧ t34 ≤ -1 := ht34
      have fg35 : jfr w_X11_part h g35 := jfr_tr f0 ft34 (fun i k q => by unfold w_X11_refused at q; unfold w_X11_part; omega)
      have zt34 : t34 = (-1 : Int) := zt34
      exact st_r0 (ls := []) ⟨rfl, rfl, fg35, t34, rfl, (by omega), trivial⟩

def w_X12_part (i k : Int) : Prop := (210 ≤ i ∧ i ≤ 214) ∨ (i = 219)
def k_X12_part (a1 : Int) (a2 : Int) (a3 : Int) (a4 : Int) (a5 : Int) (h : JH) (v : Option JV) (r' g : JH) : Prop := r' = jr0 ∧ jfr w_X12_part h g ∧ ∃ x : Int, v = some (.inl x) ∧ (-7 ≤ x ∧ x ≤ 5) ∧ (True)
set_option maxHeartbeats 4000000 in
theorem c_X12_part {E : JE} {l : Launch} (a1 : Int) (a2 : Int) (a3 : Int) (a4 : Int) (a5 : Int) (h : JH) : jMt E l 105 [.inr (.inr (.inl 176)), .inl a1, .inl a2, .inl a3, .inl a4, .inl a5] 229 jr0 h (k_X12_part a1 a2 a3 a4 a5 h) := by
  refine jMt0 (nL := 7) (ls := [.inr (.inr (.inl 176)), .inl a1, .inl a2, .inl a3, .inl a4, .inl a5, .inr (.inr (.inr ()))]) (by decide +kernel) (by decide +kernel) (by decide +kernel) rfl rfl ?_
  have f0 : jfr w_X12_part h h := jfr_rf _ _
  refine jGo_blk qX12_part_0 ?_
  refine st_cs (na := 3) (st := [.inl 2, .inl 0, .inl a1]) rfl rfl rfl (c_X12_in a1 0 2 h) rfl ?_
  rintro _ _ _ ⟨rfl, rfl, t1, rfl, ht1, zt1⟩ kt1
  have kt1 : -2147483648 ≤ t1 ∧ t1 ≤ 2147483647 := kt1
  have ht1 : 0 ≤ t1 ∧ t1 ≤ 1 := ht1
  have zt1 : (t1 = 1 ∧ (0 : Int) ≤ a1 ∧ a1 ≤ (2 : Int)) ∨ (t1 = 0 ∧ ¬ ((0 : Int) ≤ a1 ∧ a1 ≤ (2 : Int))) := zt1
  refine And.intro (fun c3 => ?_) (fun c3 => ?_)
  · have c3 : t1 = 0 := c3
    show jGo E l 105 229 229 _ 18 [.inr (.inr (.inl 176)), .inl a1, .inl a2, .inl a3, .inl a4, .inl a5, .inr (.inr (.inr ()))] [] 229 jr0 h
    refine jGo_blk qX12_part_18 ?_
    refine st_cv (na := 1) (st := [.inl (-1), .inr (.inr (.inl 176))]) jo_176 rfl rfl rfl (c_X12_refuse (-1) h (by omega)) rfl ?_
    rintro _ _ g5 ⟨rfl, ft4, t4, rfl, ht4, zt4⟩ kt4
    have kt4 : -2147483648 ≤ t4 ∧ t4 ≤ 2147483647 := kt4
    have ht4 : -7 ≤ t4 ∧ t4 ≤ -1 := ht4
    have fg5 : jfr w_X12_part h g5 := jfr_tr f0 ft4 (fun i k q => by unfold w_X12_refuse at q; unfold w_X12_part; omega)
    have zt4 : t4 = (-1 : Int) := zt4
    exact st_r0 (ls := []) ⟨rfl, rfl, fg5, t4, rfl, (by omega), trivial⟩
  · have c3 : ¬ t1 = 0 := by first | exact c3 | exact Int.not_le.mp c3 | exact Int.not_lt.mp c3 | exact Decidable.not_not.mp c3
    refine st_cs (na := 3) (st := [.inl 2, .inl 0, .inl a2]) rfl rfl rfl (c_X12_in a2 0 2 h) rfl ?_
    rintro _ _ _ ⟨rfl, rfl, t6, rfl, ht6, zt6⟩ kt6
    have kt6 : -2147483648 ≤ t6 ∧ t6 ≤ 2147483647 := kt6
    have ht6 : 0 ≤ t6 ∧ t6 ≤ 1 := ht6
    have zt6 : (t6 = 1 ∧ (0 : Int) ≤ a2 ∧ a2 ≤ (2 : Int)) ∨ (t6 = 0 ∧ ¬ ((0 : Int) ≤ a2 ∧ a2 ≤ (2 : Int))) := zt6
    refine And.intro (fun c8 => ?_) (fun c8 => ?_)
    · have c8 : ¬ t6 = 0 := c8
      show jGo E l 105 229 229 _ 24 [.inr (.inr (.inl 176)), .inl a1, .inl a2, .inl a3, .inl a4, .inl a5, .inr (.inr (.inr ()))] [] 229 jr0 h
      refine jGo_blk qX12_part_24 ?_
      refine And.intro (fun c9 => ?_) (fun c9 => ?_)
      · have c9 : a3 < (-9) := c9
        show jGo E l 105 229 229 _ 41 [.inr (.inr (.inl 176)), .inl a1, .inl a2, .inl a3, .inl a4, .inl a5, .inr (.inr (.inr ()))] [] 229 jr0 h
        refine jGo_blk qX12_part_41 ?_
        refine st_cv (na := 1) (st := [.inl (-4), .inr (.inr (.inl 176))]) jo_176 rfl rfl rfl (c_X12_refuse (-4) h (by omega)) rfl ?_
        rintro _ _ g11 ⟨rfl, ft10, t10, rfl, ht10, zt10⟩ kt10
        have kt10 : -2147483648 ≤ t10 ∧ t10 ≤ 2147483647 := kt10
        have ht10 : -7 ≤ t10 ∧ t10 ≤ -1 := ht10
        have fg11 : jfr w_X12_part h g11 := jfr_tr f0 ft10 (fun i k q => by unfold w_X12_refuse at q; unfold w_X12_part; omega)
        have zt10 : t10 = (-4 : Int) := zt10
        exact st_r0 (ls := []) ⟨rfl, rfl, fg11, t10, rfl, (by omega), trivial⟩
      · have c9 : (-9) ≤ a3 := by first | exact c9 | exact Int.not_le.mp c9 | exact Int.not_lt.mp c9 | exact Decidable.not_not.mp c9
        refine And.intro (fun c12 => ?_) (fun c12 => ?_)
        · have c12 : a4 < 0 := c12
          show jGo E l 105 229 229 _ 41 [.inr (.inr (.inl 176)), .inl a1, .inl a2, .inl a3, .inl a4, .inl a5, .inr (.inr (.inr ()))] [] 229 jr0 h
          refine jGo_blk qX12_part_41 ?_
          refine st_cv (na := 1) (st := [.inl (-4), .inr (.inr (.inl 176))]) jo_176 rfl rfl rfl (c_X12_refuse (-4) h (by omega)) rfl ?_
          rintro _ _ g14 ⟨rfl, ft13, t13, rfl, ht13, zt13⟩ kt13
          have kt13 : -2147483648 ≤ t13 ∧ t13 ≤ 2147483647 := kt13
          have ht13 : -7 ≤ t13 ∧ t13 ≤ -1 := ht13
          have fg14 : jfr w_X12_part h g14 := jfr_tr f0 ft13 (fun i k q => by unfold w_X12_refuse at q; unfold w_X12_part; omega)
          have zt13 : t13 = (-4 : Int) := zt13
          exact st_r0 (ls := []) ⟨rfl, rfl, fg14, t13, rfl, (by omega), trivial⟩
        · have c12 : 0 ≤ a4 := by first | exact c12 | exact Int.not_le.mp c12 | exact Int.not_lt.mp c12 | exact Decidable.not_not.mp c12
          refine And.intro (fun c15 => ?_) (fun c15 => ?_)
          · have c15 : 1 ≤ a5 := c15
            show jGo E l 105 229 229 _ 48 [.inr (.inr (.inl 176)), .inl a1, .inl a2, .inl a3, .inl a4, .inl a5, .inr (.inr (.inr ()))] [] 229 jr0 h
            refine jGo_blk qX12_part_48 ?_
            refine And.intro (fun c16 => ?_) (fun c16 => ?_)
            · have c16 : 9 < a3 := c16
              show jGo E l 105 229 229 _ 80 [.inr (.inr (.inl 176)), .inl a1, .inl a2, .inl a3, .inl a4, .inl a5, .inr (.inr (.inr ()))] [] 229 jr0 h
              refine jGo_blk qX12_part_80 ?_
              refine st_cv (na := 1) (st := [.inl (-6), .inr (.inr (.inl 176))]) jo_176 rfl rfl rfl (c_X12_refuse (-6) h (by omega)) rfl ?_
              rintro _ _ g18 ⟨rfl, ft17, t17, rfl, ht17, zt17⟩ kt17
              have kt17 : -2147483648 ≤ t17 ∧ t17 ≤ 2147483647 := kt17
              have ht17 : -7 ≤ t17 ∧ t17 ≤ -1 := ht17
              have fg18 : jfr w_X12_part h g18 := jfr_tr f0 ft17 (fun i k q => by unfold w_X12_refuse at q; unfold w_X12_part; omega)
              have zt17 : t17 = (-6 : Int) := zt17
              exact st_r0 (ls := []) ⟨rfl, rfl, fg18, t17, rfl, (by omega), trivial⟩
            · have c16 : a3 ≤ 9 := by first | exact c16 | exact Int.not_le.mp c16 | exact Int.not_lt.mp c16 | exact Decidable.not_not.mp c16
              refine And.intro (fun c19 => ?_) (fun c19 => ?_)
              · have c19 : 9 < a4 := c19
                show jGo E l 105 229 229 _ 80 [.inr (.inr (.inl 176)), .inl a1, .inl a2, .inl a3, .inl a4, .inl a5, .inr (.inr (.inr ()))] [] 229 jr0 h
                refine jGo_blk qX12_part_80 ?_
                refine st_cv (na := 1) (st := [.inl (-6), .inr (.inr (.inl 176))]) jo_176 rfl rfl rfl (c_X12_refuse (-6) h (by omega)) rfl ?_
                rintro _ _ g21 ⟨rfl, ft20, t20, rfl, ht20, zt20⟩ kt20
                have kt20 : -2147483648 ≤ t20 ∧ t20 ≤ 2147483647 := kt20
                have ht20 : -7 ≤ t20 ∧ t20 ≤ -1 := ht20
                have fg21 : jfr w_X12_part h g21 := jfr_tr f0 ft20 (fun i k q => by unfold w_X12_refuse at q; unfold w_X12_part; omega)
                have zt20 : t20 = (-6 : Int) := zt20
                exact st_r0 (ls := []) ⟨rfl, rfl, fg21, t20, rfl, (by omega), trivial⟩
              · have c19 : a4 ≤ 9 := by first | exact c19 | exact Int.not_le.mp c19 | exact Int.not_lt.mp c19 | exact Decidable.not_not.mp c19
                refine And.intro (fun c22 => ?_) (fun c22 => ?_)
                · have c22 : 500 < a5 := c22
                  show jGo E l 105 229 229 _ 80 [.inr (.inr (.inl 176)), .inl a1, .inl a2, .inl a3, .inl a4, .inl a5, .inr (.inr (.inr ()))] [] 229 jr0 h
                  refine jGo_blk qX12_part_80 ?_
                  refine st_cv (na := 1) (st := [.inl (-6), .inr (.inr (.inl 176))]) jo_176 rfl rfl rfl (c_X12_refuse (-6) h (by omega)) rfl ?_
                  rintro _ _ g24 ⟨rfl, ft23, t23, rfl, ht23, zt23⟩ kt23
                  have kt23 : -2147483648 ≤ t23 ∧ t23 ≤ 2147483647 := kt23
                  have ht23 : -7 ≤ t23 ∧ t23 ≤ -1 := ht23
                  have fg24 : jfr w_X12_part h g24 := jfr_tr f0 ft23 (fun i k q => by unfold w_X12_refuse at q; unfold w_X12_part; omega)
                  have zt23 : t23 = (-6 : Int) := zt23
                  exact st_r0 (ls := []) ⟨rfl, rfl, fg24, t23, rfl, (by omega), trivial⟩
                · have c22 : a5 ≤ 500 := by first | exact c22 | exact Int.not_le.mp c22 | exact Int.not_lt.mp c22 | exact Decidable.not_not.mp c22
                  refine st_gr jo_176 jr_176_40 ?_
                  refine st_ai jo_210 (show 0 ≤ a1 by omega) (show a1 < ((3 : Nat) : Int) by omega) (fun v25 ev25 b26 => ?_)
                  have ev25 : v25 = h 210 a1 := ev25
                  have b26 := (jba_210 a1 _).1 b26
                  refine And.intro (fun c27 => ?_) (fun c27 => ?_)
                  · have c27 : ¬ v25 = 6 := c27
                    show jGo E l 105 229 229 _ 87 [.inr (.inr (.inl 176)), .inl a1, .inl a2, .inl a3, .inl a4, .inl a5, .inr (.inr (.inr ()))] [] 229 jr0 h
                    refine jGo_blk qX12_part_87 ?_
                    have e28 : jw32 (6 * a1) = 6 * a1 := j32e (by omega) (by omega)
                    refine st_gr jo_176 jr_176_40 ?_
                    refine st_ai jo_210 (show 0 ≤ a1 by omega) (show a1 < ((3 : Nat) : Int) by omega) (fun v29 ev29 b30 => ?_)
                    have ev29 : v29 = h 210 a1 := ev29
                    have b30 := (jba_210 a1 _).1 b30
                    have e31 : jw32 ((jw32 (6 * a1)) + v29) = (jw32 (6 * a1)) + v29 := j32e (by omega) (by omega)
                    refine st_gr jo_176 jr_176_41 ?_
                    refine st_si jo_211 (show 0 ≤ jw32 ((jw32 (6 * a1)) + v29) by omega) (show jw32 ((jw32 (6 * a1)) + v29) < ((18 : Nat) : Int) by omega) (fun hx => (jba_211 _ _).2 (show 0 ≤ a2 ∧ a2 ≤ 2 by omega)) (fun g32 eg32 => ?_)
                    have eg32 : g32 = jup h 211 (jw32 ((jw32 (6 * a1)) + v29)) a2 := eg32
                    have fg32 : jfr w_X12_part h g32 := jfr_up f0 eg32 (by unfold w_X12_part; omega)
                    have e33 : g32 211 (jw32 ((jw32 (6 * a1)) + v29)) = a2 := jup_s eg32
                    refine st_gr jo_176 jr_176_42 ?_
                    refine st_si jo_212 (show 0 ≤ jw32 ((jw32 (6 * a1)) + v29) by omega) (show jw32 ((jw32 (6 * a1)) + v29) < ((18 : Nat) : Int) by omega) (fun hx => (jba_212 _ _).2 (show -9 ≤ a3 ∧ a3 ≤ 9 by omega)) (fun g34 eg34 => ?_)
                    have eg34 : g34 = jup g32 212 (jw32 ((jw32 (6 * a1)) + v29)) a3 := eg34
                    have fg34 : jfr w_X12_part h g34 := jfr_up fg32 eg34 (by unfold w_X12_part; omega)
                    have e35 : g34 212 (jw32 ((jw32 (6 * a1)) + v29)) = a3 := jup_s eg34
                    refine st_gr jo_176 jr_176_43 ?_
                    refine st_si jo_213 (show 0 ≤ jw32 ((jw32 (6 * a1)) + v29) by omega) (show jw32 ((jw32 (6 * a1)) + v29) < ((18 : Nat) : Int) by omega) (fun hx => (jba_213 _ _).2 (show 0 ≤ a4 ∧ a4 ≤ 9 by omega)) (fun g36 eg36 => ?_)
                    have eg36 : g36 = jup g34 213 (jw32 ((jw32 (6 * a1)) + v29)) a4 := eg36
                    have fg36 : jfr w_X12_part h g36 := jfr_up fg34 eg36 (by unfold w_X12_part; omega)
                    have e37 : g36 213 (jw32 ((jw32 (6 * a1)) + v29)) = a4 := jup_s eg36
                    refine st_gr jo_176 jr_176_44 ?_
                    refine st_si jo_214 (show 0 ≤ jw32 ((jw32 (6 * a1)) + v29) by omega) (show jw32 ((jw32 (6 * a1)) + v29) < ((18 : Nat) : Int) by omega) (fun hx => (jba_214 _ _).2 (show 0 ≤ a5 ∧ a5 ≤ 500 by omega)) (fun g38 eg38 => ?_)
                    have eg38 : g38 = jup g36 214 (jw32 ((jw32 (6 * a1)) + v29)) a5 := eg38
                    have fg38 : jfr w_X12_part h g38 := jfr_up fg36 eg38 (by unfold w_X12_part; omega)
                    have e39 : g38 214 (jw32 ((jw32 (6 * a1)) + v29)) = a5 := jup_s eg38
                    refine st_gr jo_176 jr_176_40 ?_
                    refine st_ai jo_210 (show 0 ≤ a1 by omega) (show a1 < ((3 : Nat) : Int) by omega) (fun v40 ev40 b41 => ?_)
                    have ev40 : v40 = g38 210 a1 := ev40
                    have b41 := (jba_210 a1 _).1 b41
                    have e42 : g38 210 a1 = g36 210 a1 := jup_o eg38 (by omega)
                    have e43 : g36 210 a1 = g34 210 a1 := jup_o eg36 (by omega)
                    have e44 : g34 210 a1 = g32 210 a1 := jup_o eg34 (by omega)
                    have e45 : g32 210 a1 = h 210 a1 := jup_o eg32 (by omega)
                    have e46 : jw32 (v40 + 1) = v40 + 1 := j32e (by omega) (by omega)
                    refine st_si jo_210 (show 0 ≤ a1 by omega) (show a1 < ((3 : Nat) : Int) by omega) (fun hx => (jba_210 _ _).2 (show 0 ≤ jw32 (v40 + 1) ∧ jw32 (v40 + 1) ≤ 6 by omega)) (fun g47 eg47 => ?_)
                    have eg47 : g47 = jup g38 210 a1 (jw32 (v40 + 1)) := eg47
                    have fg47 : jfr w_X12_part h g47 := jfr_up fg38 eg47 (by unfold w_X12_part; omega)
                    have e48 : g47 210 a1 = jw32 (v40 + 1) := jup_s eg47
                    refine st_gr jo_176 jr_176_40 ?_
                    refine st_ai jo_210 (show 0 ≤ a1 by omega) (show a1 < ((3 : Nat) : Int) by omega) (fun v49 ev49 b50 => ?_)
                    have ev49 : v49 = g47 210 a1 := ev49
                    have b50 := (jba_210 a1 _).1 b50
                    have e51 : jw32 (v49 - 1) = v49 - 1 := j32e (by omega) (by omega)
                    exact st_r0 (ls := []) ⟨rfl, rfl, fg47, jw32 (v49 - 1), rfl, (by omega), trivial⟩
                  · have c27 : v25 = 6 := by first | exact c27 | exact Int.not_le.mp c27 | exact Int.not_lt.mp c27 | exact Decidable.not_not.mp c27
                    show jGo E l 105 229 229 _ 80 [.inr (.inr (.inl 176)), .inl a1, .inl a2, .inl a3, .inl a4, .inl a5, .inr (.inr (.inr ()))] [] 229 jr0 h
                    refine jGo_blk qX12_part_80 ?_
                    refine st_cv (na := 1) (st := [.inl (-6), .inr (.inr (.inl 176))]) jo_176 rfl rfl rfl (c_X12_refuse (-6) h (by omega)) rfl ?_
                    rintro _ _ g53 ⟨rfl, ft52, t52, rfl, ht52, zt52⟩ kt52
                    have kt52 : -2147483648 ≤ t52 ∧ t52 ≤ 2147483647 := kt52
                    have ht52 : -7 ≤ t52 ∧ t52 ≤ -1 := ht52
                    have fg53 : jfr w_X12_part h g53 := jfr_tr f0 ft52 (fun i k q => by unfold w_X12_refuse at q; unfold w_X12_part; omega)
                    have zt52 : t52 = (-6 : Int) := zt52
                    exact st_r0 (ls := []) ⟨rfl, rfl, fg53, t52, rfl, (by omega), trivial⟩
          · have c15 : a5 < 1 := by first | exact c15 | exact Int.not_le.mp c15 | exact Int.not_lt.mp c15 | exact Decidable.not_not.mp c15
            show jGo E l 105 229 229 _ 41 [.inr (.inr (.inl 176)), .inl a1, .inl a2, .inl a3, .inl a4, .inl a5, .inr (.inr (.inr ()))] [] 229 jr0 h
            refine jGo_blk qX12_part_41 ?_
            refine st_cv (na := 1) (st := [.inl (-4), .inr (.inr (.inl 176))]) jo_176 rfl rfl rfl (c_X12_refuse (-4) h (by omega)) rfl ?_
            rintro _ _ g55 ⟨rfl, ft54, t54, rfl, ht54, zt54⟩ kt54
            have kt54 : -2147483648 ≤ t54 ∧ t54 ≤ 2147483647 := kt54
            have ht54 : -7 ≤ t54 ∧ t54 ≤ -1 := ht54
            have fg55 : jfr w_X12_part h g55 := jfr_tr f0 ft54 (fun i k q => by unfold w_X12_refuse at q; unfold w_X12_part; omega)
            have zt54 : t54 = (-4 : Int) := zt54
            exact st_r0 (ls := []) ⟨rfl, rfl, fg55, t54, rfl, (by omega), trivial⟩
    · have c8 : t6 = 0 := by first | exact c8 | exact Int.not_le.mp c8 | exact Int.not_lt.mp c8 | exact Decidable.not_not.mp c8
      show jGo E l 105 229 229 _ 18 [.inr (.inr (.inl 176)), .inl a1, .inl a2, .inl a3, .inl a4, .inl a5, .inr (.inr (.inr ()))] [] 229 jr0 h
      refine jGo_blk qX12_part_18 ?_
      refine st_cv (na := 1) (st := [.inl (-1), .inr (.inr (.inl 176))]) jo_176 rfl rfl rfl (c_X12_refuse (-1) h (by omega)) rfl ?_
      rintro _ _ g57 ⟨rfl, ft56, t56, rfl, ht56, zt56⟩ kt56
      have kt56 : -2147483648 ≤ t56 ∧ t56 ≤ 2147483647 := kt56
      have ht56 : -7 ≤ t56 ∧ t56 ≤ -1 := ht56
      have fg57 : jfr w_X12_part h g57 := jfr_tr f0 ft56 (fun i k q => by unfold w_X12_refuse at q; unfold w_X12_part; omega)
      have zt56 : t56 = (-1 : Int) := zt56
      exact st_r0 (ls := []) ⟨rfl, rfl, fg57, t56, rfl, (by omega), trivial⟩

def k_X6_lackingNumber (a0 : Int) (h : JH) (v : Option JV) (r' g : JH) : Prop := r' = jr0 ∧ h = g ∧ ∃ x : Int, v = some (.inr (.inl x)) ∧ (19456426971176 ≤ x ∧ x ≤ 19461061219176) ∧ (True)
set_option maxHeartbeats 4000000 in
theorem c_X6_lackingNumber {E : JE} {l : Launch} (a0 : Int) (h : JH) (p0 : 0 ≤ a0 ∧ a0 ≤ 5) : jMt E l 107 [.inl a0] 229 jr0 h (k_X6_lackingNumber a0 h) := by
  refine jMt0 (nL := 1) (ls := [.inl a0]) (by decide +kernel) (by decide +kernel) (by decide +kernel) rfl rfl ?_
  refine jGo_blk qX6_lackingNumber_0 ?_
  refine st_xl (by decide) jx_k6 (jx_l6 E) (show 0 ≤ a0 by omega) (show a0 < ((6 : Nat) : Int) by omega) (fun v1 ev1 => ?_)
  have bv1 : 1 ≤ v1 ∧ v1 ≤ 115856201 := by rw [ev1]; exact jx_w6 E a0 (by omega) (by omega)
  have ev1 : v1 = jxv E (-6) a0 := ev1
  have e2 : jw64 (40 * v1) = 40 * v1 := j64e (by omega) (by omega)
  have e3 : jw64 (19456426971136 + (jw64 (40 * v1))) = 19456426971136 + (jw64 (40 * v1)) := j64e (by omega) (by omega)
  exact ⟨rfl, rfl, rfl, jw64 (19456426971136 + (jw64 (40 * v1))), rfl, (by omega), trivial⟩

def w_X6_fitting (i k : Int) : Prop := (i = 100)
def k_X6_fitting (a2 : Int) (a4 : Int) (h : JH) (v : Option JV) (r' g : JH) : Prop := r' = jr0 ∧ jfr w_X6_fitting h g ∧ ∃ x : Int, v = some (.inl x) ∧ (0 ≤ x ∧ x ≤ 63) ∧ (True)
set_option maxHeartbeats 4000000 in
theorem c_X6_fitting {E : JE} {l : Launch} (a2 : Int) (a4 : Int) (h : JH) (p2 : 0 ≤ a2 ∧ a2 ≤ 39) (p4 : 0 ≤ a4 ∧ a4 ≤ 2) : jMt E l 109 [.inr (.inr (.inl 97)), .inr (.inr (.inl 84)), .inl a2, .inr (.inr (.inl 91)), .inl a4] 229 jr0 h (k_X6_fitting a2 a4 h) := by
  refine jMt0 (nL := 9) (ls := [.inr (.inr (.inl 97)), .inr (.inr (.inl 84)), .inl a2, .inr (.inr (.inl 91)), .inl a4, .inr (.inr (.inr ())), .inr (.inr (.inr ())), .inr (.inr (.inr ())), .inr (.inr (.inr ()))]) (by decide +kernel) (by decide +kernel) (by decide +kernel) rfl rfl ?_
  have f0 : jfr w_X6_fitting h h := jfr_rf _ _
  have key : ∀ N : Nat, (∀ (x5 : Int) (x6 : Int) (x7 : JV) (x8 : JV) (g : JH), (0 ≤ x5 ∧ x5 ≤ 63 ∧ 0 ≤ x6 ∧ x6 ≤ 6) → jfr w_X6_fitting h g → (6 - x6) < (N : Int) → jGo E l 109 229 229 (jRK (k_X6_fitting a2 a4 h)) 6 [.inr (.inr (.inl 97)), .inr (.inr (.inl 84)), .inl a2, .inr (.inr (.inl 91)), .inl a4, .inl x5, .inl x6, x7, x8] [] 229 jr0 g) := by
    intro N
    induction N with
    | zero => exact fun _ _ _ _ _ hi _ hN => absurd hN (by omega)
    | succ N ih =>
      intro x5 x6 x7 x8 g hi hf hN
      refine jGo_blk qX6_fitting_6 ?_
      refine st_gr jo_91 jr_91_0 ?_
      refine st_ai jo_92 (show 0 ≤ a4 by omega) (show a4 < ((3 : Nat) : Int) by omega) (fun v1 ev1 b2 => ?_)
      have ev1 : v1 = g 92 a4 := ev1
      have b2 := (jba_92 a4 _).1 b2
      refine And.intro (fun c3 => ?_) (fun c3 => ?_)
      · have c3 : v1 ≤ x6 := c3
        show jGo E l 109 229 229 _ 137 [.inr (.inr (.inl 97)), .inr (.inr (.inl 84)), .inl a2, .inr (.inr (.inl 91)), .inl a4, .inl x5, .inl x6, x7, x8] [] 229 jr0 g
        refine jGo_blk qX6_fitting_137 ?_
        exact st_r0 (ls := []) ⟨rfl, rfl, hf, x5, rfl, (by omega), trivial⟩
      · have c3 : x6 < v1 := by first | exact c3 | exact Int.not_le.mp c3 | exact Int.not_lt.mp c3 | exact Decidable.not_not.mp c3
        have e4 : jw32 (a4 * 6) = a4 * 6 := j32e (by omega) (by omega)
        have e5 : jw32 ((jw32 (a4 * 6)) + x6) = (jw32 (a4 * 6)) + x6 := j32e (by omega) (by omega)
        refine st_gr jo_84 jr_84_3 ?_
        refine st_ai jo_87 (show 0 ≤ a2 by omega) (show a2 < ((40 : Nat) : Int) by omega) (fun v6 ev6 b7 => ?_)
        have ev6 : v6 = g 87 a2 := ev6
        have b7 := (jba_87 a2 _).1 b7
        refine st_gr jo_91 jr_91_4 ?_
        refine st_ai jo_96 (show 0 ≤ jw32 ((jw32 (a4 * 6)) + x6) by omega) (show jw32 ((jw32 (a4 * 6)) + x6) < ((18 : Nat) : Int) by omega) (fun v8 ev8 b9 => ?_)
        have ev8 : v8 = g 96 (jw32 ((jw32 (a4 * 6)) + x6)) := ev8
        have b9 := (jba_96 (jw32 ((jw32 (a4 * 6)) + x6)) _).1 b9
        refine st_gr jo_84 jr_84_1 ?_
        refine st_ai jo_85 (show 0 ≤ a2 by omega) (show a2 < ((40 : Nat) : Int) by omega) (fun v10 ev10 b11 => ?_)
        have ev10 : v10 = g 85 a2 := ev10
        have b11 := (jba_85 a2 _).1 b11
        refine st_gr jo_91 jr_91_1 ?_
        refine st_ai jo_93 (show 0 ≤ jw32 ((jw32 (a4 * 6)) + x6) by omega) (show jw32 ((jw32 (a4 * 6)) + x6) < ((18 : Nat) : Int) by omega) (fun v12 ev12 b13 => ?_)
        have ev12 : v12 = g 93 (jw32 ((jw32 (a4 * 6)) + x6)) := ev12
        have b13 := (jba_93 (jw32 ((jw32 (a4 * 6)) + x6)) _).1 b13
        refine And.intro (fun c14 => ?_) (fun c14 => ?_)
        · have c14 : ¬ v10 = v12 := c14
          show jGo E l 109 229 229 _ 131 [.inr (.inr (.inl 97)), .inr (.inr (.inl 84)), .inl a2, .inr (.inr (.inl 91)), .inl a4, .inl x5, .inl x6, .inl (jw32 ((jw32 (a4 * 6)) + x6)), .inl (jw32 (v6 - v8))] [] 229 jr0 g
          refine jGo_blk qX6_fitting_131 ?_
          have e15 : jw32 (x6 + 1) = x6 + 1 := j32e (by omega) (by omega)
          show jGo E l 109 229 229 _ 6 [.inr (.inr (.inl 97)), .inr (.inr (.inl 84)), .inl a2, .inr (.inr (.inl 91)), .inl a4, .inl x5, .inl (jw32 (x6 + 1)), .inl (jw32 ((jw32 (a4 * 6)) + x6)), .inl (jw32 (v6 - v8))] [] 229 jr0 g
          exact ih x5 (jw32 (x6 + 1)) (.inl (jw32 ((jw32 (a4 * 6)) + x6))) (.inl (jw32 (v6 - v8))) g (by omega) hf (by omega)
        · have c14 : v10 = v12 := by first | exact c14 | exact Int.not_le.mp c14 | exact Int.not_lt.mp c14 | exact Decidable.not_not.mp c14
          refine And.intro (fun c16 => ?_) (fun c16 => ?_)
          · have c16 : jw32 (v6 - v8) < 0 := c16
            show jGo E l 109 229 229 _ 131 [.inr (.inr (.inl 97)), .inr (.inr (.inl 84)), .inl a2, .inr (.inr (.inl 91)), .inl a4, .inl x5, .inl x6, .inl (jw32 ((jw32 (a4 * 6)) + x6)), .inl (jw32 (v6 - v8))] [] 229 jr0 g
            refine jGo_blk qX6_fitting_131 ?_
            have e17 : jw32 (x6 + 1) = x6 + 1 := j32e (by omega) (by omega)
            show jGo E l 109 229 229 _ 6 [.inr (.inr (.inl 97)), .inr (.inr (.inl 84)), .inl a2, .inr (.inr (.inl 91)), .inl a4, .inl x5, .inl (jw32 (x6 + 1)), .inl (jw32 ((jw32 (a4 * 6)) + x6)), .inl (jw32 (v6 - v8))] [] 229 jr0 g
            exact ih x5 (jw32 (x6 + 1)) (.inl (jw32 ((jw32 (a4 * 6)) + x6))) (.inl (jw32 (v6 - v8))) g (by omega) hf (by omega)
          · have c16 : 0 ≤ jw32 (v6 - v8) := by first | exact c16 | exact Int.not_le.mp c16 | exact Int.not_lt.mp c16 | exact Decidable.not_not.mp c16
            refine st_gr jo_84 jr_84_2 ?_
            refine st_ai jo_86 (show 0 ≤ a2 by omega) (show a2 < ((40 : Nat) : Int) by omega) (fun v18 ev18 b19 => ?_)
            have ev18 : v18 = g 86 a2 := ev18
            have b19 := (jba_86 a2 _).1 b19
            refine st_gr jo_91 jr_91_2 ?_
            refine st_ai jo_94 (show 0 ≤ jw32 ((jw32 (a4 * 6)) + x6) by omega) (show jw32 ((jw32 (a4 * 6)) + x6) < ((18 : Nat) : Int) by omega) (fun v20 ev20 b21 => ?_)
            have ev20 : v20 = g 94 (jw32 ((jw32 (a4 * 6)) + x6)) := ev20
            have b21 := (jba_94 (jw32 ((jw32 (a4 * 6)) + x6)) _).1 b21
            have e22 : jw32 (v18 - v20) = v18 - v20 := j32e (by omega) (by omega)
            refine st_m2 rfl (fun v23 ev23 => ?_)
            refine st_gr jo_91 jr_91_3 ?_
            refine st_ai jo_95 (show 0 ≤ jw32 ((jw32 (a4 * 6)) + x6) by omega) (show jw32 ((jw32 (a4 * 6)) + x6) < ((18 : Nat) : Int) by omega) (fun v24 ev24 b25 => ?_)
            have ev24 : v24 = g 95 (jw32 ((jw32 (a4 * 6)) + x6)) := ev24
            have b25 := (jba_95 (jw32 ((jw32 (a4 * 6)) + x6)) _).1 b25
            refine And.intro (fun c26 => ?_) (fun c26 => ?_)
            · have c26 : v24 < v23 := c26
              show jGo E l 109 229 229 _ 131 [.inr (.inr (.inl 97)), .inr (.inr (.inl 84)), .inl a2, .inr (.inr (.inl 91)), .inl a4, .inl x5, .inl x6, .inl (jw32 ((jw32 (a4 * 6)) + x6)), .inl (jw32 (v6 - v8))] [] 229 jr0 g
              refine jGo_blk qX6_fitting_131 ?_
              have e27 : jw32 (x6 + 1) = x6 + 1 := j32e (by omega) (by omega)
              show jGo E l 109 229 229 _ 6 [.inr (.inr (.inl 97)), .inr (.inr (.inl 84)), .inl a2, .inr (.inr (.inl 91)), .inl a4, .inl x5, .inl (jw32 (x6 + 1)), .inl (jw32 ((jw32 (a4 * 6)) + x6)), .inl (jw32 (v6 - v8))] [] 229 jr0 g
              exact ih x5 (jw32 (x6 + 1)) (.inl (jw32 ((jw32 (a4 * 6)) + x6))) (.inl (jw32 (v6 - v8))) g (by omega) hf (by omega)
            · have c26 : v23 ≤ v24 := by first | exact c26 | exact Int.not_le.mp c26 | exact Int.not_lt.mp c26 | exact Decidable.not_not.mp c26
              have e28 := jshl1_5 x6 (by omega) (by omega)
              have e29 := jor63 x5 (jshl 1 x6) (by omega) (by omega) (by omega) (by omega)
              refine st_gr jo_97 jr_97_4 ?_
              refine st_xl (by decide) jx_k6 (jx_l6 E) (show 0 ≤ x6 by omega) (show x6 < ((6 : Nat) : Int) by omega) (fun v30 ev30 => ?_)
              have bv30 : 1 ≤ v30 ∧ v30 ≤ 115856201 := by rw [ev30]; exact jx_w6 E x6 (by omega) (by omega)
              have ev30 : v30 = jxv E (-6) x6 := ev30
              refine st_cs (na := 1) (st := [.inl x6, .inr (.inl (jw64 ((jw64 ((jw32 (v6 - v8)) * 4750104241)) + (jw64 (a2 * v30))))), .inl x6, .inr (.inr (.inl 100))]) rfl rfl rfl (c_X6_lackingNumber x6 g (by omega)) rfl ?_
              rintro _ _ _ ⟨rfl, rfl, t31, rfl, ht31, zt31⟩ kt31
              have kt31 : -9223372036854775808 ≤ t31 ∧ t31 ≤ 9223372036854775807 := kt31
              have ht31 : 19456426971176 ≤ t31 ∧ t31 ≤ 19461061219176 := ht31
              refine st_sl jo_100 (show 0 ≤ x6 by omega) (show x6 < ((6 : Nat) : Int) by omega) (fun hx => (jba_100 _ _).2 hx) (fun g33 eg33 => ?_)
              have eg33 : g33 = jup g 100 x6 (jw64 ((jw64 ((jw64 ((jw32 (v6 - v8)) * 4750104241)) + (jw64 (a2 * v30)))) - t31)) := eg33
              have fg33 : jfr w_X6_fitting h g33 := jfr_up hf eg33 (by unfold w_X6_fitting; omega)
              show jGo E l 109 229 229 _ 131 [.inr (.inr (.inl 97)), .inr (.inr (.inl 84)), .inl a2, .inr (.inr (.inl 91)), .inl a4, .inl (jor x5 (jshl 1 x6)), .inl x6, .inl (jw32 ((jw32 (a4 * 6)) + x6)), .inl (jw32 (v6 - v8))] [] 229 jr0 g33
              refine jGo_blk qX6_fitting_131 ?_
              have e34 : jw32 (x6 + 1) = x6 + 1 := j32e (by omega) (by omega)
              show jGo E l 109 229 229 _ 6 [.inr (.inr (.inl 97)), .inr (.inr (.inl 84)), .inl a2, .inr (.inr (.inl 91)), .inl a4, .inl (jor x5 (jshl 1 x6)), .inl (jw32 (x6 + 1)), .inl (jw32 ((jw32 (a4 * 6)) + x6)), .inl (jw32 (v6 - v8))] [] 229 jr0 g33
              exact ih (jor x5 (jshl 1 x6)) (jw32 (x6 + 1)) (.inl (jw32 ((jw32 (a4 * 6)) + x6))) (.inl (jw32 (v6 - v8))) g33 (by omega) fg33 (by omega)
  refine jGo_blk qX6_fitting_0 ?_
  show jGo E l 109 229 229 _ 6 [.inr (.inr (.inl 97)), .inr (.inr (.inl 84)), .inl a2, .inr (.inr (.inl 91)), .inl a4, .inl 0, .inl 0, .inr (.inr (.inr ())), .inr (.inr (.inr ()))] [] 229 jr0 h
  exact (key 1000000000000) 0 0 (.inr (.inr (.inr ()))) (.inr (.inr (.inr ()))) h (by omega) f0 (by omega)

def w_X6_offer (i k : Int) : Prop := (i = 99)
def k_X6_offer (a1 : Int) (a2 : Int) (h : JH) (v : Option JV) (r' g : JH) : Prop := r' = jr0 ∧ jfr w_X6_offer h g ∧ v = none ∧ (True)
set_option maxHeartbeats 4000000 in
theorem c_X6_offer {E : JE} {l : Launch} (a1 : Int) (a2 : Int) (h : JH) (p1 : 0 ≤ a1 ∧ a1 ≤ 63) (p2 : 1 ≤ a2 ∧ a2 ≤ 64) : jMt E l 111 [.inr (.inr (.inl 97)), .inl a1, .inl a2] 229 jr0 h (k_X6_offer a1 a2 h) := by
  refine jMt0 (nL := 7) (ls := [.inr (.inr (.inl 97)), .inl a1, .inl a2, .inr (.inr (.inr ())), .inr (.inr (.inr ())), .inr (.inr (.inr ())), .inr (.inr (.inr ()))]) (by decide +kernel) (by decide +kernel) (by decide +kernel) rfl rfl ?_
  have f0 : jfr w_X6_offer h h := jfr_rf _ _
  have key : ∀ N : Nat, (∀ (x3 : Int) (x4 : JV) (x5 : JV) (x6 : JV) (g : JH), (0 ≤ x3 ∧ x3 ≤ 63) → jfr w_X6_offer h g → (x3 - 0) * 1000000 + 999999 < (N : Int) → jGo E l 111 229 229 (jRK (k_X6_offer a1 a2 h)) 4 [.inr (.inr (.inl 97)), .inl a1, .inl a2, .inl x3, x4, x5, x6] [] 229 jr0 g) ∧
      (∀ (x3 : Int) (x4 : Int) (x5 : Int) (x6 : JV) (g : JH), (1 ≤ a1 ∧ a1 ≤ 63 ∧ 1 ≤ x3 ∧ x3 ≤ 63 ∧ 0 ≤ x4 ∧ x4 ≤ 63 ∧ 0 ≤ x5 ∧ x5 ≤ 6) → jfr w_X6_offer h g → (x3 - 0) * 1000000 + (6 - x5) < (N : Int) → jGo E l 111 229 229 (jRK (k_X6_offer a1 a2 h)) 20 [.inr (.inr (.inl 97)), .inl a1, .inl a2, .inl x3, .inl x4, .inl x5, x6] [] 229 jr0 g) := by
    intro N
    induction N with
    | zero => exact ⟨fun _ _ _ _ _ hi _ hN => absurd hN (by omega), fun _ _ _ _ _ hi _ hN => absurd hN (by omega)⟩
    | succ N ih =>
      refine ⟨?_, ?_⟩
      · intro x3 x4 x5 x6 g hi hf hN
        refine jGo_blk qX6_offer_4 ?_
        refine And.intro (fun c1 => ?_) (fun c1 => ?_)
        · have c1 : x3 ≤ 0 := c1
          show jGo E l 111 229 229 _ 101 [.inr (.inr (.inl 97)), .inl a1, .inl a2, .inl x3, x4, x5, x6] [] 229 jr0 g
          refine jGo_blk qX6_offer_101 ?_
          exact ⟨rfl, rfl, hf, rfl, trivial⟩
        · have c1 : 0 < x3 := by first | exact c1 | exact Int.not_le.mp c1 | exact Int.not_lt.mp c1 | exact Decidable.not_not.mp c1
          refine And.intro (fun c2 => ?_) (fun c2 => ?_)
          · have c2 : a1 = 0 := c2
            show jGo E l 111 229 229 _ 101 [.inr (.inr (.inl 97)), .inl a1, .inl a2, .inl x3, x4, x5, x6] [] 229 jr0 g
            refine jGo_blk qX6_offer_101 ?_
            exact ⟨rfl, rfl, hf, rfl, trivial⟩
          · have c2 : ¬ a1 = 0 := by first | exact c2 | exact Int.not_le.mp c2 | exact Int.not_lt.mp c2 | exact Decidable.not_not.mp c2
            have e3 := jand_le x3 a1 (by omega) (by omega)
            show jGo E l 111 229 229 _ 20 [.inr (.inr (.inl 97)), .inl a1, .inl a2, .inl x3, .inl (jand x3 a1), .inl 0, x6] [] 229 jr0 g
            exact ih.2 x3 (jand x3 a1) 0 x6 g (by omega) hf (by omega)
      · intro x3 x4 x5 x6 g hi hf hN
        refine jGo_blk qX6_offer_20 ?_
        refine And.intro (fun c4 => ?_) (fun c4 => ?_)
        · have c4 : 6 ≤ x5 := c4
          show jGo E l 111 229 229 _ 95 [.inr (.inr (.inl 97)), .inl a1, .inl a2, .inl x3, .inl x4, .inl x5, x6] [] 229 jr0 g
          refine jGo_blk qX6_offer_95 ?_
          have e5 : jw32 (x3 + (-1)) = x3 + (-1) := j32e (by omega) (by omega)
          show jGo E l 111 229 229 _ 4 [.inr (.inr (.inl 97)), .inl a1, .inl a2, .inl (jw32 (x3 + (-1))), .inl x4, .inl x5, x6] [] 229 jr0 g
          exact ih.1 (jw32 (x3 + (-1))) (.inl x4) (.inl x5) x6 g (by omega) hf (by omega)
        · have c4 : x5 < 6 := by first | exact c4 | exact Int.not_le.mp c4 | exact Int.not_lt.mp c4 | exact Decidable.not_not.mp c4
          have e6 := jshl1_5 x5 (by omega) (by omega)
          have e7 := jand_le x4 (jshl 1 x5) (by omega) (by omega)
          refine And.intro (fun c8 => ?_) (fun c8 => ?_)
          · have c8 : jand x4 (jshl 1 x5) = 0 := c8
            show jGo E l 111 229 229 _ 89 [.inr (.inr (.inl 97)), .inl a1, .inl a2, .inl x3, .inl x4, .inl x5, .inl (jshl 1 x5)] [] 229 jr0 g
            refine jGo_blk qX6_offer_89 ?_
            have e9 : jw32 (x5 + 1) = x5 + 1 := j32e (by omega) (by omega)
            show jGo E l 111 229 229 _ 20 [.inr (.inr (.inl 97)), .inl a1, .inl a2, .inl x3, .inl x4, .inl (jw32 (x5 + 1)), .inl (jshl 1 x5)] [] 229 jr0 g
            exact ih.2 x3 x4 (jw32 (x5 + 1)) (.inl (jshl 1 x5)) g (by omega) hf (by omega)
          · have c8 : ¬ jand x4 (jshl 1 x5) = 0 := by first | exact c8 | exact Int.not_le.mp c8 | exact Int.not_lt.mp c8 | exact Decidable.not_not.mp c8
            refine st_gr jo_97 jr_97_3 ?_
            have e10 := jxor63 x3 (jshl 1 x5) (by omega) (by omega) (by omega) (by omega)
            refine st_li jo_99 (show 0 ≤ jxor x3 (jshl 1 x5) by omega) (show jxor x3 (jshl 1 x5) < ((64 : Nat) : Int) by omega) (fun v11 ev11 b12 => ?_)
            have ev11 : v11 = g 99 (jxor x3 (jshl 1 x5)) := ev11
            have e13 := jlc_u v11 4611686018427387904
            refine And.intro (fun c14 => ?_) (fun c14 => ?_)
            · have c14 : jlc v11 4611686018427387904 = 0 := c14
              show jGo E l 111 229 229 _ 89 [.inr (.inr (.inl 97)), .inl a1, .inl a2, .inl x3, .inl x4, .inl x5, .inl (jshl 1 x5)] [] 229 jr0 g
              refine jGo_blk qX6_offer_89 ?_
              have e15 : jw32 (x5 + 1) = x5 + 1 := j32e (by omega) (by omega)
              show jGo E l 111 229 229 _ 20 [.inr (.inr (.inl 97)), .inl a1, .inl a2, .inl x3, .inl x4, .inl (jw32 (x5 + 1)), .inl (jshl 1 x5)] [] 229 jr0 g
              exact ih.2 x3 x4 (jw32 (x5 + 1)) (.inl (jshl 1 x5)) g (by omega) hf (by omega)
            · have c14 : ¬ jlc v11 4611686018427387904 = 0 := by first | exact c14 | exact Int.not_le.mp c14 | exact Int.not_lt.mp c14 | exact Decidable.not_not.mp c14
              refine st_gr jo_97 jr_97_3 ?_
              refine st_gr jo_97 jr_97_3 ?_
              refine st_li jo_99 (show 0 ≤ x3 by omega) (show x3 < ((64 : Nat) : Int) by omega) (fun v16 ev16 b17 => ?_)
              have ev16 : v16 = g 99 x3 := ev16
              refine st_gr jo_97 jr_97_3 ?_
              have e18 := jxor63 x3 (jshl 1 x5) (by omega) (by omega) (by omega) (by omega)
              refine st_li jo_99 (show 0 ≤ jxor x3 (jshl 1 x5) by omega) (show jxor x3 (jshl 1 x5) < ((64 : Nat) : Int) by omega) (fun v19 ev19 b20 => ?_)
              have ev19 : v19 = g 99 (jxor x3 (jshl 1 x5)) := ev19
              refine st_gr jo_97 jr_97_4 ?_
              refine st_li jo_100 (show 0 ≤ x5 by omega) (show x5 < ((6 : Nat) : Int) by omega) (fun v21 ev21 b22 => ?_)
              have ev21 : v21 = g 100 x5 := ev21
              refine st_m3 rfl (fun v23 m1v23 m2v23 m3v23 => ?_)
              have m1v23 : v23 ≤ v16 := m1v23; have m2v23 : v23 ≤ jw64 (v19 + v21) := m2v23; have m3v23 : v23 = v16 ∨ v23 = jw64 (v19 + v21) := m3v23
              refine st_sl jo_99 (show 0 ≤ x3 by omega) (show x3 < ((64 : Nat) : Int) by omega) (fun hx => (jba_99 _ _).2 hx) (fun g24 eg24 => ?_)
              have eg24 : g24 = jup g 99 x3 v23 := eg24
              have fg24 : jfr w_X6_offer h g24 := jfr_up hf eg24 (by unfold w_X6_offer; omega)
              show jGo E l 111 229 229 _ 89 [.inr (.inr (.inl 97)), .inl a1, .inl a2, .inl x3, .inl x4, .inl x5, .inl (jshl 1 x5)] [] 229 jr0 g24
              refine jGo_blk qX6_offer_89 ?_
              have e25 : jw32 (x5 + 1) = x5 + 1 := j32e (by omega) (by omega)
              show jGo E l 111 229 229 _ 20 [.inr (.inr (.inl 97)), .inl a1, .inl a2, .inl x3, .inl x4, .inl (jw32 (x5 + 1)), .inl (jshl 1 x5)] [] 229 jr0 g24
              exact ih.2 x3 x4 (jw32 (x5 + 1)) (.inl (jshl 1 x5)) g24 (by omega) fg24 (by omega)
  refine jGo_blk qX6_offer_0 ?_
  have e26 : jw32 (a2 - 1) = a2 - 1 := j32e (by omega) (by omega)
  show jGo E l 111 229 229 _ 4 [.inr (.inr (.inl 97)), .inl a1, .inl a2, .inl (jw32 (a2 - 1)), .inr (.inr (.inr ())), .inr (.inr (.inr ())), .inr (.inr (.inr ()))] [] 229 jr0 h
  exact (key 1000000000000000000).1 (jw32 (a2 - 1)) (.inr (.inr (.inr ()))) (.inr (.inr (.inr ()))) (.inr (.inr (.inr ()))) h (by omega) f0 (by omega)
