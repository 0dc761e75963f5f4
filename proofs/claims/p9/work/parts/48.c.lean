def w_X4_begin (a0 : Int) (i k : Int) : Prop := (a0 + 0 ≤ i ∧ i ≤ a0 + 0)
def k_X4_begin (a0 : Int) (a1 : Int) (a2 : Int) (a3 : Int) (h : JH) (v : Option JV) (r' g : JH) : Prop := r' = jr0 ∧ jfr (w_X4_begin a0) h g ∧ v = none ∧ (True)
set_option maxHeartbeats 4000000 in
theorem c_X4_begin {E : JE} {l : Launch} (a0 : Int) (a1 : Int) (a2 : Int) (a3 : Int) (h : JH) (ha0 : jHl a0) (p1 : 0 ≤ a1 ∧ a1 ≤ 2) (p2 : 0 ≤ a2 ∧ a2 ≤ 99) (p3 : 0 ≤ a3 ∧ a3 ≤ 2000) : jMt E l 56 [.inr (.inr (.inl a0)), .inl a1, .inl a2, .inl a3] 229 jr0 h (k_X4_begin a0 a1 a2 a3 h) := by
  refine jMt0 (nL := 4) (ls := [.inr (.inr (.inl a0)), .inl a1, .inl a2, .inl a3]) (by decide +kernel) (by decide +kernel) (by decide +kernel) rfl rfl ?_
  have f0 : jfr (w_X4_begin a0) h h := jfr_rf _ _
  refine jGo_blk qX4_begin_0 ?_
  refine st_pi ha0.1 (fun hx => (jbf_4_0 ha0.1 _).2 (show 0 ≤ a1 ∧ a1 ≤ 2 by omega)) (fun g1 eg1 => ?_)
  replace eg1 : g1 = jup h a0 0 a1 := eg1
  have fg1 : jfr (w_X4_begin a0) h g1 := jfr_up f0 eg1 (by unfold w_X4_begin; omega)
  have e2 : g1 a0 0 = a1 := jup_s eg1
  refine st_pi ha0.1 (fun hx => (jbf_4_1 ha0.1 _).2 (show 0 ≤ a2 ∧ a2 ≤ 99 by omega)) (fun g3 eg3 => ?_)
  replace eg3 : g3 = jup g1 a0 1 a2 := eg3
  have fg3 : jfr (w_X4_begin a0) h g3 := jfr_up fg1 eg3 (by unfold w_X4_begin; omega)
  have e4 : g3 a0 1 = a2 := jup_s eg3
  refine st_pi ha0.1 (fun hx => (jbf_4_2 ha0.1 _).2 (show 0 ≤ a3 ∧ a3 ≤ 2000 by omega)) (fun g5 eg5 => ?_)
  replace eg5 : g5 = jup g3 a0 2 a3 := eg5
  have fg5 : jfr (w_X4_begin a0) h g5 := jfr_up fg3 eg5 (by unfold w_X4_begin; omega)
  have e6 : g5 a0 2 = a3 := jup_s eg5
  refine st_pi ha0.1 (fun hx => (jbf_4_3 ha0.1 _).2 (show 0 ≤ 0 ∧ 0 ≤ 3 by omega)) (fun g7 eg7 => ?_)
  replace eg7 : g7 = jup g5 a0 3 0 := eg7
  have fg7 : jfr (w_X4_begin a0) h g7 := jfr_up fg5 eg7 (by unfold w_X4_begin; omega)
  have e8 : g7 a0 3 = 0 := jup_s eg7
  refine st_pi ha0.1 (fun hx => (jbf_4_4 ha0.1 _).2 (show -9 ≤ (-9) ∧ (-9) ≤ 5 by omega)) (fun g9 eg9 => ?_)
  replace eg9 : g9 = jup g7 a0 4 (-9) := eg9
  have fg9 : jfr (w_X4_begin a0) h g9 := jfr_up fg7 eg9 (by unfold w_X4_begin; omega)
  have e10 : g9 a0 4 = (-9) := jup_s eg9
  refine st_pi ha0.1 (fun hx => (jbf_4_9 ha0.1 _).2 hx) (fun g11 eg11 => ?_)
  replace eg11 : g11 = jup g9 a0 9 (-9) := eg11
  have fg11 : jfr (w_X4_begin a0) h g11 := jfr_up fg9 eg11 (by unfold w_X4_begin; omega)
  have e12 : g11 a0 9 = (-9) := jup_s eg11
  exact ⟨rfl, rfl, fg11, rfl, trivial⟩

def w_X10_addHull_29 (i k : Int) : Prop := (36 ≤ i ∧ i ≤ 83) ∨ (i = 29 ∧ k = 4)
def k_X10_addHull_29 (a1 : Int) (a2 : Int) (a3 : Int) (h : JH) (v : Option JV) (r' g : JH) : Prop := r' = jr0 ∧ jfr w_X10_addHull_29 h g ∧ ∃ x : Int, v = some (.inl x) ∧ (0 ≤ x ∧ x ≤ 15) ∧ (x = h 29 4 ∧ g 29 4 = h 29 4 + 1)
set_option maxHeartbeats 4000000 in
theorem c_X10_addHull_29 {E : JE} {l : Launch} (a1 : Int) (a2 : Int) (a3 : Int) (h : JH) (p1 : 0 ≤ a1 ∧ a1 ≤ 2) (p2 : 0 ≤ a2 ∧ a2 ≤ 99) (p3 : 0 ≤ a3 ∧ a3 ≤ 2000) (q0 : h 29 4 ≤ 15) : jMt E l 57 [.inr (.inr (.inl 29)), .inl a1, .inl a2, .inl a3] 229 jr0 h (k_X10_addHull_29 a1 a2 a3 h) := by
  refine jMt0 (nL := 4) (ls := [.inr (.inr (.inl 29)), .inl a1, .inl a2, .inl a3]) (by decide +kernel) (by decide +kernel) (by decide +kernel) rfl rfl ?_
  have f0 : jfr w_X10_addHull_29 h h := jfr_rf _ _
  refine jGo_blk qX10_addHull_0 ?_
  refine st_gr jo_29 jr_29_3 ?_
  refine st_gi jo_29 (fun v1 ev1 b2 => ?_)
  replace ev1 : v1 = h 29 4 := ev1
  replace b2 := (jbf_10_4 jo_29 _).1 b2
  refine st_ar jo_33 (by decide) (show 0 ≤ v1 by omega) (show v1 < ((16 : Nat) : Int) by omega) (fun u3 eu3 => ?_)
  replace eu3 : u3 = jr0 33 v1 := eu3
  have qu3 : u3 = 36 + 3 * v1 := eu3.trans (jhul_33 v1 (by omega) (by omega)).1
  have hu3 : jHl u3 := by rw [eu3]; exact (jhul_33 v1 (by omega) (by omega)).2
  refine st_cv (na := 3) (st := [.inl a3, .inl a2, .inl a1, .inr (.inr (.inl u3))]) hu3.1 rfl rfl rfl (c_X4_begin u3 a1 a2 a3 h hu3 (by omega) (by omega) (by omega)) rfl ?_
  rintro _ _ g5 ⟨rfl, ft4, rfl, zt4⟩ kt4
  have fg5 : jfr w_X10_addHull_29 h g5 := jfr_tr f0 ft4 (fun i k q => by unfold w_X4_begin at q; unfold w_X10_addHull_29; omega)
  refine st_gi jo_29 (fun v6 ev6 b7 => ?_)
  replace ev6 : v6 = g5 29 4 := ev6
  replace b7 := (jbf_10_4 jo_29 _).1 b7
  have e8 : g5 29 4 = h 29 4 := ft4 29 4 (by unfold w_X4_begin; omega)
  have e9 : jw32 (v6 + 1) = v6 + 1 := j32e (by omega) (by omega)
  refine st_pi jo_29 (fun hx => (jbf_10_4 jo_29 _).2 (show 0 ≤ jw32 (v6 + 1) ∧ jw32 (v6 + 1) ≤ 16 by omega)) (fun g10 eg10 => ?_)
  replace eg10 : g10 = jup g5 29 4 (jw32 (v6 + 1)) := eg10
  have fg10 : jfr w_X10_addHull_29 h g10 := jfr_up fg5 eg10 (by unfold w_X10_addHull_29; omega)
  have e11 : g10 29 4 = jw32 (v6 + 1) := jup_s eg10
  refine st_gi jo_29 (fun v12 ev12 b13 => ?_)
  replace ev12 : v12 = g10 29 4 := ev12
  replace b13 := (jbf_10_4 jo_29 _).1 b13
  have e14 : jw32 (v12 - 1) = v12 - 1 := j32e (by omega) (by omega)
  exact st_r0 (ls := []) ⟨rfl, rfl, fg10, jw32 (v12 - 1), rfl, (by omega), (by omega)⟩

def w_X11_hull (i k : Int) : Prop := (i = 1) ∨ (36 ≤ i ∧ i ≤ 83) ∨ (i = 29 ∧ k = 4) ∨ (i = 111 ∧ 9 ≤ k ∧ k ≤ 11)
def k_X11_hull (a1 : Int) (a2 : Int) (a3 : Int) (h : JH) (v : Option JV) (r' g : JH) : Prop := r' = jr0 ∧ jfr w_X11_hull h g ∧ ∃ x : Int, v = some (.inl x) ∧ (-7 ≤ x ∧ x ≤ 15) ∧ (P_X11_hull a1 a2 a3 x h g)
set_option maxHeartbeats 4000000 in
theorem c_X11_hull {E : JE} {l : Launch} (a1 : Int) (a2 : Int) (a3 : Int) (h : JH) : jMt E l 58 [.inr (.inr (.inl 0)), .inl a1, .inl a2, .inl a3] 229 jr0 h (k_X11_hull a1 a2 a3 h) := by
  refine jMt0 (nL := 4) (ls := [.inr (.inr (.inl 0)), .inl a1, .inl a2, .inl a3]) (by decide +kernel) (by decide +kernel) (by decide +kernel) rfl rfl ?_
  have f0 : jfr w_X11_hull h h := jfr_rf _ _
  refine jGo_blk qX11_hull_0 ?_
  refine st_cs (na := 2) (st := [.inl 3, .inl a1]) rfl rfl rfl (c_X11_within a1 3 h) rfl ?_
  rintro _ _ _ ⟨rfl, rfl, t1, rfl, ht1, zt1⟩ kt1
  replace kt1 : -2147483648 ≤ t1 ∧ t1 ≤ 2147483647 := kt1
  replace ht1 : 0 ≤ t1 ∧ t1 ≤ 1 := ht1
  replace zt1 : (t1 = 1 ∧ 0 ≤ a1 ∧ a1 < (3 : Int)) ∨ (t1 = 0 ∧ ¬ (0 ≤ a1 ∧ a1 < (3 : Int))) := zt1
  refine And.intro (fun c3 => ?_) (fun c3 => ?_)
  · replace c3 : ¬ t1 = 0 := c3
    show jGo E l 58 229 229 _ 14 [.inr (.inr (.inl 0)), .inl a1, .inl a2, .inl a3] [] 229 jr0 h
    refine jGo_blk qX11_hull_14 ?_
    refine And.intro (fun c4 => ?_) (fun c4 => ?_)
    · replace c4 : a2 < 0 := c4
      show jGo E l 58 229 229 _ 22 [.inr (.inr (.inl 0)), .inl a1, .inl a2, .inl a3] [] 229 jr0 h
      refine jGo_blk qX11_hull_22 ?_
      refine st_cv (na := 1) (st := [.inl (-4), .inr (.inr (.inl 0))]) jo_0 rfl rfl rfl (c_X11_refused (-4) h (by omega)) rfl ?_
      rintro _ _ g6 ⟨rfl, ft5, t5, rfl, ht5, zt5⟩ kt5
      replace kt5 : -2147483648 ≤ t5 ∧ t5 ≤ 2147483647 := kt5
      replace ht5 : -7 ≤ t5 ∧ t5 ≤ -1 := ht5
      have fg6 : jfr w_X11_hull h g6 := jfr_tr f0 ft5 (fun i k q => by unfold w_X11_refused at q; unfold w_X11_hull; omega)
      replace zt5 : t5 = (-4 : Int) := zt5
      have e7 : g6 29 4 = h 29 4 := ft5 29 4 (by unfold w_X11_refused; omega)
      exact st_r0 (ls := []) ⟨rfl, rfl, fg6, t5, rfl, (by omega), (by unfold P_X11_hull; first | exact Or.inl ⟨by omega, by omega⟩ | exact Or.inr (Or.inl ⟨by omega, by omega⟩) | exact Or.inr (Or.inr (Or.inl ⟨by omega, by omega⟩)) | exact Or.inr (Or.inr (Or.inr ⟨by omega, by omega, by omega⟩)))⟩
    · replace c4 : 0 ≤ a2 := by first | exact c4 | exact Int.not_le.mp c4 | exact Int.not_lt.mp c4 | exact Decidable.not_not.mp c4
      refine And.intro (fun c8 => ?_) (fun c8 => ?_)
      · replace c8 : 0 ≤ a3 := c8
        show jGo E l 58 229 229 _ 29 [.inr (.inr (.inl 0)), .inl a1, .inl a2, .inl a3] [] 229 jr0 h
        refine jGo_blk qX11_hull_29 ?_
        refine And.intro (fun c9 => ?_) (fun c9 => ?_)
        · replace c9 : 99 < a2 := c9
          show jGo E l 58 229 229 _ 54 [.inr (.inr (.inl 0)), .inl a1, .inl a2, .inl a3] [] 229 jr0 h
          refine jGo_blk qX11_hull_54 ?_
          refine st_cv (na := 1) (st := [.inl (-6), .inr (.inr (.inl 0))]) jo_0 rfl rfl rfl (c_X11_refused (-6) h (by omega)) rfl ?_
          rintro _ _ g11 ⟨rfl, ft10, t10, rfl, ht10, zt10⟩ kt10
          replace kt10 : -2147483648 ≤ t10 ∧ t10 ≤ 2147483647 := kt10
          replace ht10 : -7 ≤ t10 ∧ t10 ≤ -1 := ht10
          have fg11 : jfr w_X11_hull h g11 := jfr_tr f0 ft10 (fun i k q => by unfold w_X11_refused at q; unfold w_X11_hull; omega)
          replace zt10 : t10 = (-6 : Int) := zt10
          have e12 : g11 29 4 = h 29 4 := ft10 29 4 (by unfold w_X11_refused; omega)
          exact st_r0 (ls := []) ⟨rfl, rfl, fg11, t10, rfl, (by omega), (by unfold P_X11_hull; first | exact Or.inl ⟨by omega, by omega⟩ | exact Or.inr (Or.inl ⟨by omega, by omega⟩) | exact Or.inr (Or.inr (Or.inl ⟨by omega, by omega⟩)) | exact Or.inr (Or.inr (Or.inr ⟨by omega, by omega, by omega⟩)))⟩
        · replace c9 : a2 ≤ 99 := by first | exact c9 | exact Int.not_le.mp c9 | exact Int.not_lt.mp c9 | exact Decidable.not_not.mp c9
          refine And.intro (fun c13 => ?_) (fun c13 => ?_)
          · replace c13 : 2000 < a3 := c13
            show jGo E l 58 229 229 _ 54 [.inr (.inr (.inl 0)), .inl a1, .inl a2, .inl a3] [] 229 jr0 h
            refine jGo_blk qX11_hull_54 ?_
            refine st_cv (na := 1) (st := [.inl (-6), .inr (.inr (.inl 0))]) jo_0 rfl rfl rfl (c_X11_refused (-6) h (by omega)) rfl ?_
            rintro _ _ g15 ⟨rfl, ft14, t14, rfl, ht14, zt14⟩ kt14
            replace kt14 : -2147483648 ≤ t14 ∧ t14 ≤ 2147483647 := kt14
            replace ht14 : -7 ≤ t14 ∧ t14 ≤ -1 := ht14
            have fg15 : jfr w_X11_hull h g15 := jfr_tr f0 ft14 (fun i k q => by unfold w_X11_refused at q; unfold w_X11_hull; omega)
            replace zt14 : t14 = (-6 : Int) := zt14
            have e16 : g15 29 4 = h 29 4 := ft14 29 4 (by unfold w_X11_refused; omega)
            exact st_r0 (ls := []) ⟨rfl, rfl, fg15, t14, rfl, (by omega), (by unfold P_X11_hull; first | exact Or.inl ⟨by omega, by omega⟩ | exact Or.inr (Or.inl ⟨by omega, by omega⟩) | exact Or.inr (Or.inr (Or.inl ⟨by omega, by omega⟩)) | exact Or.inr (Or.inr (Or.inr ⟨by omega, by omega, by omega⟩)))⟩
          · replace c13 : a3 ≤ 2000 := by first | exact c13 | exact Int.not_le.mp c13 | exact Int.not_lt.mp c13 | exact Decidable.not_not.mp c13
            refine st_gr jo_0 jr_0_5 ?_
            refine st_gi jo_29 (fun v17 ev17 b18 => ?_)
            replace ev17 : v17 = h 29 4 := ev17
            replace b18 := (jbf_10_4 jo_29 _).1 b18
            refine And.intro (fun c19 => ?_) (fun c19 => ?_)
            · replace c19 : v17 < 16 := c19
              show jGo E l 58 229 229 _ 61 [.inr (.inr (.inl 0)), .inl a1, .inl a2, .inl a3] [] 229 jr0 h
              refine jGo_blk qX11_hull_61 ?_
              refine st_gr jo_0 jr_0_11 ?_
              refine st_cv (na := 0) (st := [.inr (.inr (.inl 111))]) jo_111 rfl rfl rfl (c_X7_forget h) rfl ?_
              rintro _ _ g21 ⟨rfl, ft20, rfl, zt20⟩ kt20
              have fg21 : jfr w_X11_hull h g21 := jfr_tr f0 ft20 (fun i k q => by unfold w_X7_forget at q; unfold w_X11_hull; omega)
              have e22 : g21 29 4 = h 29 4 := ft20 29 4 (by unfold w_X7_forget; omega)
              refine st_gr jo_0 jr_0_5 ?_
              have e23 : g21 29 4 = h 29 4 := ft20 29 4 (by unfold w_X7_forget; omega)
              refine st_cv (na := 3) (st := [.inl a3, .inl a2, .inl a1, .inr (.inr (.inl 29))]) jo_29 rfl rfl rfl (c_X10_addHull_29 a1 a2 a3 g21 (by omega) (by omega) (by omega) (by omega)) rfl ?_
              rintro _ _ g25 ⟨rfl, ft24, t24, rfl, ht24, zt24⟩ kt24
              replace kt24 : -2147483648 ≤ t24 ∧ t24 ≤ 2147483647 := kt24
              replace ht24 : 0 ≤ t24 ∧ t24 ≤ 15 := ht24
              have fg25 : jfr w_X11_hull h g25 := jfr_tr fg21 ft24 (fun i k q => by unfold w_X10_addHull_29 at q; unfold w_X11_hull; omega)
              replace zt24 : t24 = g21 29 4 ∧ g25 29 4 = g21 29 4 + 1 := zt24
              exact st_r0 (ls := []) ⟨rfl, rfl, fg25, t24, rfl, (by omega), (by unfold P_X11_hull; first | exact Or.inl ⟨by omega, by omega⟩ | exact Or.inr (Or.inl ⟨by omega, by omega⟩) | exact Or.inr (Or.inr (Or.inl ⟨by omega, by omega⟩)) | exact Or.inr (Or.inr (Or.inr ⟨by omega, by omega, by omega⟩)))⟩
            · replace c19 : 16 ≤ v17 := by first | exact c19 | exact Int.not_le.mp c19 | exact Int.not_lt.mp c19 | exact Decidable.not_not.mp c19
              show jGo E l 58 229 229 _ 54 [.inr (.inr (.inl 0)), .inl a1, .inl a2, .inl a3] [] 229 jr0 h
              refine jGo_blk qX11_hull_54 ?_
              refine st_cv (na := 1) (st := [.inl (-6), .inr (.inr (.inl 0))]) jo_0 rfl rfl rfl (c_X11_refused (-6) h (by omega)) rfl ?_
              rintro _ _ g27 ⟨rfl, ft26, t26, rfl, ht26, zt26⟩ kt26
              replace kt26 : -2147483648 ≤ t26 ∧ t26 ≤ 2147483647 := kt26
              replace ht26 : -7 ≤ t26 ∧ t26 ≤ -1 := ht26
              have fg27 : jfr w_X11_hull h g27 := jfr_tr f0 ft26 (fun i k q => by unfold w_X11_refused at q; unfold w_X11_hull; omega)
              replace zt26 : t26 = (-6 : Int) := zt26
              have e28 : g27 29 4 = h 29 4 := ft26 29 4 (by unfold w_X11_refused; omega)
              exact st_r0 (ls := []) ⟨rfl, rfl, fg27, t26, rfl, (by omega), (by unfold P_X11_hull; first | exact Or.inl ⟨by omega, by omega⟩ | exact Or.inr (Or.inl ⟨by omega, by omega⟩) | exact Or.inr (Or.inr (Or.inl ⟨by omega, by omega⟩)) | exact Or.inr (Or.inr (Or.inr ⟨by omega, by omega, by omega⟩)))⟩
      · replace c8 : a3 < 0 := by first | exact c8 | exact Int.not_le.mp c8 | exact Int.not_lt.mp c8 | exact Decidable.not_not.mp c8
        show jGo E l 58 229 229 _ 22 [.inr (.inr (.inl 0)), .inl a1, .inl a2, .inl a3] [] 229 jr0 h
        refine jGo_blk qX11_hull_22 ?_
        refine st_cv (na := 1) (st := [.inl (-4), .inr (.inr (.inl 0))]) jo_0 rfl rfl rfl (c_X11_refused (-4) h (by omega)) rfl ?_
        rintro _ _ g30 ⟨rfl, ft29, t29, rfl, ht29, zt29⟩ kt29
        replace kt29 : -2147483648 ≤ t29 ∧ t29 ≤ 2147483647 := kt29
        replace ht29 : -7 ≤ t29 ∧ t29 ≤ -1 := ht29
        have fg30 : jfr w_X11_hull h g30 := jfr_tr f0 ft29 (fun i k q => by unfold w_X11_refused at q; unfold w_X11_hull; omega)
        replace zt29 : t29 = (-4 : Int) := zt29
        have e31 : g30 29 4 = h 29 4 := ft29 29 4 (by unfold w_X11_refused; omega)
        exact st_r0 (ls := []) ⟨rfl, rfl, fg30, t29, rfl, (by omega), (by unfold P_X11_hull; first | exact Or.inl ⟨by omega, by omega⟩ | exact Or.inr (Or.inl ⟨by omega, by omega⟩) | exact Or.inr (Or.inr (Or.inl ⟨by omega, by omega⟩)) | exact Or.inr (Or.inr (Or.inr ⟨by omega, by omega, by omega⟩)))⟩
  · replace c3 : t1 = 0 := by first | exact c3 | exact Int.not_le.mp c3 | exact Int.not_lt.mp c3 | exact Decidable.not_not.mp c3
    refine st_cv (na := 1) (st := [.inl (-1), .inr (.inr (.inl 0))]) jo_0 rfl rfl rfl (c_X11_refused (-1) h (by omega)) rfl ?_
    rintro _ _ g33 ⟨rfl, ft32, t32, rfl, ht32, zt32⟩ kt32
    replace kt32 : -2147483648 ≤ t32 ∧ t32 ≤ 2147483647 := kt32
    replace ht32 : -7 ≤ t32 ∧ t32 ≤ -1 := ht32
    have fg33 : jfr w_X11_hull h g33 := jfr_tr f0 ft32 (fun i k q => by unfold w_X11_refused at q; unfold w_X11_hull; omega)
    replace zt32 : t32 = (-1 : Int) := zt32
    have e34 : g33 29 4 = h 29 4 := ft32 29 4 (by unfold w_X11_refused; omega)
    exact st_r0 (ls := []) ⟨rfl, rfl, fg33, t32, rfl, (by omega), (by unfold P_X11_hull; first | exact Or.inl ⟨by omega, by omega⟩ | exact Or.inr (Or.inl ⟨by omega, by omega⟩) | exact Or.inr (Or.inr (Or.inl ⟨by omega, by omega⟩)) | exact Or.inr (Or.inr (Or.inr ⟨by omega, by omega, by omega⟩)))⟩

def w_X12_hull (i k : Int) : Prop := (189 ≤ i ∧ i ≤ 193) ∨ (i = 198) ∨ (i = 219) ∨ (i = 176 ∧ k = 14)
def k_X12_hull (a1 : Int) (a2 : Int) (a3 : Int) (h : JH) (v : Option JV) (r' g : JH) : Prop := r' = jr0 ∧ jfr w_X12_hull h g ∧ ∃ x : Int, v = some (.inl x) ∧ (-7 ≤ x ∧ x ≤ 15) ∧ (P_X12_hull a1 a2 a3 x h g)
set_option maxHeartbeats 4000000 in
theorem c_X12_hull {E : JE} {l : Launch} (a1 : Int) (a2 : Int) (a3 : Int) (h : JH) : jMt E l 59 [.inr (.inr (.inl 176)), .inl a1, .inl a2, .inl a3] 229 jr0 h (k_X12_hull a1 a2 a3 h) := by
  refine jMt0 (nL := 4) (ls := [.inr (.inr (.inl 176)), .inl a1, .inl a2, .inl a3]) (by decide +kernel) (by decide +kernel) (by decide +kernel) rfl rfl ?_
  have f0 : jfr w_X12_hull h h := jfr_rf _ _
  refine jGo_blk qX12_hull_0 ?_
  refine st_cs (na := 3) (st := [.inl 2, .inl 0, .inl a1]) rfl rfl rfl (c_X12_in a1 0 2 h) rfl ?_
  rintro _ _ _ ⟨rfl, rfl, t1, rfl, ht1, zt1⟩ kt1
  replace kt1 : -2147483648 ≤ t1 ∧ t1 ≤ 2147483647 := kt1
  replace ht1 : 0 ≤ t1 ∧ t1 ≤ 1 := ht1
  replace zt1 : (t1 = 1 ∧ (0 : Int) ≤ a1 ∧ a1 ≤ (2 : Int)) ∨ (t1 = 0 ∧ ¬ ((0 : Int) ≤ a1 ∧ a1 ≤ (2 : Int))) := zt1
  refine And.intro (fun c3 => ?_) (fun c3 => ?_)
  · replace c3 : ¬ t1 = 0 := c3
    show jGo E l 59 229 229 _ 15 [.inr (.inr (.inl 176)), .inl a1, .inl a2, .inl a3] [] 229 jr0 h
    refine jGo_blk qX12_hull_15 ?_
    refine And.intro (fun c4 => ?_) (fun c4 => ?_)
    · replace c4 : a2 < 0 := c4
      show jGo E l 59 229 229 _ 23 [.inr (.inr (.inl 176)), .inl a1, .inl a2, .inl a3] [] 229 jr0 h
      refine jGo_blk qX12_hull_23 ?_
      refine st_cv (na := 1) (st := [.inl (-4), .inr (.inr (.inl 176))]) jo_176 rfl rfl rfl (c_X12_refuse (-4) h (by omega)) rfl ?_
      rintro _ _ g6 ⟨rfl, ft5, t5, rfl, ht5, zt5⟩ kt5
      replace kt5 : -2147483648 ≤ t5 ∧ t5 ≤ 2147483647 := kt5
      replace ht5 : -7 ≤ t5 ∧ t5 ≤ -1 := ht5
      have fg6 : jfr w_X12_hull h g6 := jfr_tr f0 ft5 (fun i k q => by unfold w_X12_refuse at q; unfold w_X12_hull; omega)
      replace zt5 : t5 = (-4 : Int) := zt5
      have e7 : g6 176 14 = h 176 14 := ft5 176 14 (by unfold w_X12_refuse; omega)
      exact st_r0 (ls := []) ⟨rfl, rfl, fg6, t5, rfl, (by omega), (by unfold P_X12_hull; first | exact Or.inl ⟨by omega, by omega⟩ | exact Or.inr (Or.inl ⟨by omega, by omega⟩) | exact Or.inr (Or.inr (Or.inl ⟨by omega, by omega⟩)) | exact Or.inr (Or.inr (Or.inr ⟨by omega, by omega, by omega⟩)))⟩
    · replace c4 : 0 ≤ a2 := by first | exact c4 | exact Int.not_le.mp c4 | exact Int.not_lt.mp c4 | exact Decidable.not_not.mp c4
      refine And.intro (fun c8 => ?_) (fun c8 => ?_)
      · replace c8 : 0 ≤ a3 := c8
        show jGo E l 59 229 229 _ 30 [.inr (.inr (.inl 176)), .inl a1, .inl a2, .inl a3] [] 229 jr0 h
        refine jGo_blk qX12_hull_30 ?_
        refine And.intro (fun c9 => ?_) (fun c9 => ?_)
        · replace c9 : 99 < a2 := c9
          show jGo E l 59 229 229 _ 52 [.inr (.inr (.inl 176)), .inl a1, .inl a2, .inl a3] [] 229 jr0 h
          refine jGo_blk qX12_hull_52 ?_
          refine st_cv (na := 1) (st := [.inl (-6), .inr (.inr (.inl 176))]) jo_176 rfl rfl rfl (c_X12_refuse (-6) h (by omega)) rfl ?_
          rintro _ _ g11 ⟨rfl, ft10, t10, rfl, ht10, zt10⟩ kt10
          replace kt10 : -2147483648 ≤ t10 ∧ t10 ≤ 2147483647 := kt10
          replace ht10 : -7 ≤ t10 ∧ t10 ≤ -1 := ht10
          have fg11 : jfr w_X12_hull h g11 := jfr_tr f0 ft10 (fun i k q => by unfold w_X12_refuse at q; unfold w_X12_hull; omega)
          replace zt10 : t10 = (-6 : Int) := zt10
          have e12 : g11 176 14 = h 176 14 := ft10 176 14 (by unfold w_X12_refuse; omega)
          exact st_r0 (ls := []) ⟨rfl, rfl, fg11, t10, rfl, (by omega), (by unfold P_X12_hull; first | exact Or.inl ⟨by omega, by omega⟩ | exact Or.inr (Or.inl ⟨by omega, by omega⟩) | exact Or.inr (Or.inr (Or.inl ⟨by omega, by omega⟩)) | exact Or.inr (Or.inr (Or.inr ⟨by omega, by omega, by omega⟩)))⟩
        · replace c9 : a2 ≤ 99 := by first | exact c9 | exact Int.not_le.mp c9 | exact Int.not_lt.mp c9 | exact Decidable.not_not.mp c9
          refine And.intro (fun c13 => ?_) (fun c13 => ?_)
          · replace c13 : 2000 < a3 := c13
            show jGo E l 59 229 229 _ 52 [.inr (.inr (.inl 176)), .inl a1, .inl a2, .inl a3] [] 229 jr0 h
            refine jGo_blk qX12_hull_52 ?_
            refine st_cv (na := 1) (st := [.inl (-6), .inr (.inr (.inl 176))]) jo_176 rfl rfl rfl (c_X12_refuse (-6) h (by omega)) rfl ?_
            rintro _ _ g15 ⟨rfl, ft14, t14, rfl, ht14, zt14⟩ kt14
            replace kt14 : -2147483648 ≤ t14 ∧ t14 ≤ 2147483647 := kt14
            replace ht14 : -7 ≤ t14 ∧ t14 ≤ -1 := ht14
            have fg15 : jfr w_X12_hull h g15 := jfr_tr f0 ft14 (fun i k q => by unfold w_X12_refuse at q; unfold w_X12_hull; omega)
            replace zt14 : t14 = (-6 : Int) := zt14
            have e16 : g15 176 14 = h 176 14 := ft14 176 14 (by unfold w_X12_refuse; omega)
            exact st_r0 (ls := []) ⟨rfl, rfl, fg15, t14, rfl, (by omega), (by unfold P_X12_hull; first | exact Or.inl ⟨by omega, by omega⟩ | exact Or.inr (Or.inl ⟨by omega, by omega⟩) | exact Or.inr (Or.inr (Or.inl ⟨by omega, by omega⟩)) | exact Or.inr (Or.inr (Or.inr ⟨by omega, by omega, by omega⟩)))⟩
          · replace c13 : a3 ≤ 2000 := by first | exact c13 | exact Int.not_le.mp c13 | exact Int.not_lt.mp c13 | exact Decidable.not_not.mp c13
            refine st_gi jo_176 (fun v17 ev17 b18 => ?_)
            replace ev17 : v17 = h 176 14 := ev17
            replace b18 := (jbf_12_14 jo_176 _).1 b18
            refine And.intro (fun c19 => ?_) (fun c19 => ?_)
            · replace c19 : ¬ v17 = 16 := c19
              show jGo E l 59 229 229 _ 59 [.inr (.inr (.inl 176)), .inl a1, .inl a2, .inl a3] [] 229 jr0 h
              refine jGo_blk qX12_hull_59 ?_
              refine st_gr jo_176 jr_176_15 ?_
              refine st_gi jo_176 (fun v20 ev20 b21 => ?_)
              replace ev20 : v20 = h 176 14 := ev20
              replace b21 := (jbf_12_14 jo_176 _).1 b21
              refine st_si jo_189 (show 0 ≤ v20 by omega) (show v20 < ((16 : Nat) : Int) by omega) (fun hx => (jba_189 _ _).2 (show 0 ≤ a1 ∧ a1 ≤ 2 by omega)) (fun g22 eg22 => ?_)
              replace eg22 : g22 = jup h 189 v20 a1 := eg22
              have fg22 : jfr w_X12_hull h g22 := jfr_up f0 eg22 (by unfold w_X12_hull; omega)
              have e23 : g22 189 v20 = a1 := jup_s eg22
              refine st_gr jo_176 jr_176_16 ?_
              refine st_gi jo_176 (fun v24 ev24 b25 => ?_)
              replace ev24 : v24 = g22 176 14 := ev24
              replace b25 := (jbf_12_14 jo_176 _).1 b25
              have e26 : g22 176 14 = h 176 14 := jup_o eg22 (by omega)
              refine st_si jo_190 (show 0 ≤ v24 by omega) (show v24 < ((16 : Nat) : Int) by omega) (fun hx => (jba_190 _ _).2 (show 0 ≤ a2 ∧ a2 ≤ 99 by omega)) (fun g27 eg27 => ?_)
              replace eg27 : g27 = jup g22 190 v24 a2 := eg27
              have fg27 : jfr w_X12_hull h g27 := jfr_up fg22 eg27 (by unfold w_X12_hull; omega)
              have e28 : g27 190 v24 = a2 := jup_s eg27
              refine st_gr jo_176 jr_176_17 ?_
              refine st_gi jo_176 (fun v29 ev29 b30 => ?_)
              replace ev29 : v29 = g27 176 14 := ev29
              replace b30 := (jbf_12_14 jo_176 _).1 b30
              have e31 : g27 176 14 = g22 176 14 := jup_o eg27 (by omega)
              refine st_si jo_191 (show 0 ≤ v29 by omega) (show v29 < ((16 : Nat) : Int) by omega) (fun hx => (jba_191 _ _).2 (show 0 ≤ a3 ∧ a3 ≤ 2000 by omega)) (fun g32 eg32 => ?_)
              replace eg32 : g32 = jup g27 191 v29 a3 := eg32
              have fg32 : jfr w_X12_hull h g32 := jfr_up fg27 eg32 (by unfold w_X12_hull; omega)
              have e33 : g32 191 v29 = a3 := jup_s eg32
              refine st_gr jo_176 jr_176_18 ?_
              refine st_gi jo_176 (fun v34 ev34 b35 => ?_)
              replace ev34 : v34 = g32 176 14 := ev34
              replace b35 := (jbf_12_14 jo_176 _).1 b35
              have e36 : g32 176 14 = g27 176 14 := jup_o eg32 (by omega)
              refine st_si jo_192 (show 0 ≤ v34 by omega) (show v34 < ((16 : Nat) : Int) by omega) (fun hx => (jba_192 _ _).2 (show 0 ≤ 0 ∧ 0 ≤ 3 by omega)) (fun g37 eg37 => ?_)
              replace eg37 : g37 = jup g32 192 v34 0 := eg37
              have fg37 : jfr w_X12_hull h g37 := jfr_up fg32 eg37 (by unfold w_X12_hull; omega)
              have e38 : g37 192 v34 = 0 := jup_s eg37
              refine st_gr jo_176 jr_176_19 ?_
              refine st_gi jo_176 (fun v39 ev39 b40 => ?_)
              replace ev39 : v39 = g37 176 14 := ev39
              replace b40 := (jbf_12_14 jo_176 _).1 b40
              have e41 : g37 176 14 = g32 176 14 := jup_o eg37 (by omega)
              refine st_si jo_193 (show 0 ≤ v39 by omega) (show v39 < ((16 : Nat) : Int) by omega) (fun hx => (jba_193 _ _).2 (show -9 ≤ (-9) ∧ (-9) ≤ 5 by omega)) (fun g42 eg42 => ?_)
              replace eg42 : g42 = jup g37 193 v39 (-9) := eg42
              have fg42 : jfr w_X12_hull h g42 := jfr_up fg37 eg42 (by unfold w_X12_hull; omega)
              have e43 : g42 193 v39 = (-9) := jup_s eg42
              refine st_gr jo_176 jr_176_24 ?_
              refine st_gi jo_176 (fun v44 ev44 b45 => ?_)
              replace ev44 : v44 = g42 176 14 := ev44
              replace b45 := (jbf_12_14 jo_176 _).1 b45
              have e46 : g42 176 14 = g37 176 14 := jup_o eg42 (by omega)
              refine st_si jo_198 (show 0 ≤ v44 by omega) (show v44 < ((16 : Nat) : Int) by omega) (fun hx => (jba_198 _ _).2 hx) (fun g47 eg47 => ?_)
              replace eg47 : g47 = jup g42 198 v44 (-9) := eg47
              have fg47 : jfr w_X12_hull h g47 := jfr_up fg42 eg47 (by unfold w_X12_hull; omega)
              have e48 : g47 198 v44 = (-9) := jup_s eg47
              refine st_gi jo_176 (fun v49 ev49 b50 => ?_)
              replace ev49 : v49 = g47 176 14 := ev49
              replace b50 := (jbf_12_14 jo_176 _).1 b50
              have e51 : g47 176 14 = g42 176 14 := jup_o eg47 (by omega)
              have e52 : jw32 (v49 + 1) = v49 + 1 := j32e (by omega) (by omega)
              refine st_pi jo_176 (fun hx => (jbf_12_14 jo_176 _).2 (show 0 ≤ jw32 (v49 + 1) ∧ jw32 (v49 + 1) ≤ 16 by omega)) (fun g53 eg53 => ?_)
              replace eg53 : g53 = jup g47 176 14 (jw32 (v49 + 1)) := eg53
              have fg53 : jfr w_X12_hull h g53 := jfr_up fg47 eg53 (by unfold w_X12_hull; omega)
              have e54 : g53 176 14 = jw32 (v49 + 1) := jup_s eg53
              refine st_gi jo_176 (fun v55 ev55 b56 => ?_)
              replace ev55 : v55 = g53 176 14 := ev55
              replace b56 := (jbf_12_14 jo_176 _).1 b56
              have e57 : jw32 (v55 - 1) = v55 - 1 := j32e (by omega) (by omega)
              exact st_r0 (ls := []) ⟨rfl, rfl, fg53, jw32 (v55 - 1), rfl, (by omega), (by unfold P_X12_hull; first | exact Or.inl ⟨by omega, by omega⟩ | exact Or.inr (Or.inl ⟨by omega, by omega⟩) | exact Or.inr (Or.inr (Or.inl ⟨by omega, by omega⟩)) | exact Or.inr (Or.inr (Or.inr ⟨by omega, by omega, by omega⟩)))⟩
            · replace c19 : v17 = 16 := by first | exact c19 | exact Int.not_le.mp c19 | exact Int.not_lt.mp c19 | exact Decidable.not_not.mp c19
              show jGo E l 59 229 229 _ 52 [.inr (.inr (.inl 176)), .inl a1, .inl a2, .inl a3] [] 229 jr0 h
              refine jGo_blk qX12_hull_52 ?_
              refine st_cv (na := 1) (st := [.inl (-6), .inr (.inr (.inl 176))]) jo_176 rfl rfl rfl (c_X12_refuse (-6) h (by omega)) rfl ?_
              rintro _ _ g59 ⟨rfl, ft58, t58, rfl, ht58, zt58⟩ kt58
              replace kt58 : -2147483648 ≤ t58 ∧ t58 ≤ 2147483647 := kt58
              replace ht58 : -7 ≤ t58 ∧ t58 ≤ -1 := ht58
              have fg59 : jfr w_X12_hull h g59 := jfr_tr f0 ft58 (fun i k q => by unfold w_X12_refuse at q; unfold w_X12_hull; omega)
              replace zt58 : t58 = (-6 : Int) := zt58
              have e60 : g59 176 14 = h 176 14 := ft58 176 14 (by unfold w_X12_refuse; omega)
              exact st_r0 (ls := []) ⟨rfl, rfl, fg59, t58, rfl, (by omega), (by unfold P_X12_hull; first | exact Or.inl ⟨by omega, by omega⟩ | exact Or.inr (Or.inl ⟨by omega, by omega⟩) | exact Or.inr (Or.inr (Or.inl ⟨by omega, by omega⟩)) | exact Or.inr (Or.inr (Or.inr ⟨by omega, by omega, by omega⟩)))⟩
      · replace c8 : a3 < 0 := by first | exact c8 | exact Int.not_le.mp c8 | exact Int.not_lt.mp c8 | exact Decidable.not_not.mp c8
        show jGo E l 59 229 229 _ 23 [.inr (.inr (.inl 176)), .inl a1, .inl a2, .inl a3] [] 229 jr0 h
        refine jGo_blk qX12_hull_23 ?_
        refine st_cv (na := 1) (st := [.inl (-4), .inr (.inr (.inl 176))]) jo_176 rfl rfl rfl (c_X12_refuse (-4) h (by omega)) rfl ?_
        rintro _ _ g62 ⟨rfl, ft61, t61, rfl, ht61, zt61⟩ kt61
        replace kt61 : -2147483648 ≤ t61 ∧ t61 ≤ 2147483647 := kt61
        replace ht61 : -7 ≤ t61 ∧ t61 ≤ -1 := ht61
        have fg62 : jfr w_X12_hull h g62 := jfr_tr f0 ft61 (fun i k q => by unfold w_X12_refuse at q; unfold w_X12_hull; omega)
        replace zt61 : t61 = (-4 : Int) := zt61
        have e63 : g62 176 14 = h 176 14 := ft61 176 14 (by unfold w_X12_refuse; omega)
        exact st_r0 (ls := []) ⟨rfl, rfl, fg62, t61, rfl, (by omega), (by unfold P_X12_hull; first | exact Or.inl ⟨by omega, by omega⟩ | exact Or.inr (Or.inl ⟨by omega, by omega⟩) | exact Or.inr (Or.inr (Or.inl ⟨by omega, by omega⟩)) | exact Or.inr (Or.inr (Or.inr ⟨by omega, by omega, by omega⟩)))⟩
  · replace c3 : t1 = 0 := by first | exact c3 | exact Int.not_le.mp c3 | exact Int.not_lt.mp c3 | exact Decidable.not_not.mp c3
    refine st_cv (na := 1) (st := [.inl (-1), .inr (.inr (.inl 176))]) jo_176 rfl rfl rfl (c_X12_refuse (-1) h (by omega)) rfl ?_
    rintro _ _ g65 ⟨rfl, ft64, t64, rfl, ht64, zt64⟩ kt64
    replace kt64 : -2147483648 ≤ t64 ∧ t64 ≤ 2147483647 := kt64
    replace ht64 : -7 ≤ t64 ∧ t64 ≤ -1 := ht64
    have fg65 : jfr w_X12_hull h g65 := jfr_tr f0 ft64 (fun i k q => by unfold w_X12_refuse at q; unfold w_X12_hull; omega)
    replace zt64 : t64 = (-1 : Int) := zt64
    have e66 : g65 176 14 = h 176 14 := ft64 176 14 (by unfold w_X12_refuse; omega)
    exact st_r0 (ls := []) ⟨rfl, rfl, fg65, t64, rfl, (by omega), (by unfold P_X12_hull; first | exact Or.inl ⟨by omega, by omega⟩ | exact Or.inr (Or.inl ⟨by omega, by omega⟩) | exact Or.inr (Or.inr (Or.inl ⟨by omega, by omega⟩)) | exact Or.inr (Or.inr (Or.inr ⟨by omega, by omega, by omega⟩)))⟩

def k_X11_isHull (a1 : Int) (h : JH) (v : Option JV) (r' g : JH) : Prop := r' = jr0 ∧ h = g ∧ ∃ x : Int, v = some (.inl x) ∧ (0 ≤ x ∧ x ≤ 1) ∧ ((x = 1 ∧ 0 ≤ a1 ∧ a1 < h 29 4 ∧ h 29 4 ≤ 16) ∨ (x = 0 ∧ ¬ (0 ≤ a1 ∧ a1 < h 29 4)))
set_option maxHeartbeats 4000000 in
theorem c_X11_isHull {E : JE} {l : Launch} (a1 : Int) (h : JH) : jMt E l 60 [.inr (.inr (.inl 0)), .inl a1] 229 jr0 h (k_X11_isHull a1 h) := by
  refine jMt0 (nL := 2) (ls := [.inr (.inr (.inl 0)), .inl a1]) (by decide +kernel) (by decide +kernel) (by decide +kernel) rfl rfl ?_
  refine jGo_blk qX11_isHull_0 ?_
  refine st_gr jo_0 jr_0_5 ?_
  refine st_gi jo_29 (fun v1 ev1 b2 => ?_)
  replace ev1 : v1 = h 29 4 := ev1
  replace b2 := (jbf_10_4 jo_29 _).1 b2
  refine st_cs (na := 2) (st := [.inl v1, .inl a1]) rfl rfl rfl (c_X11_within a1 v1 h) rfl ?_
  rintro _ _ _ ⟨rfl, rfl, t3, rfl, ht3, zt3⟩ kt3
  replace kt3 : -2147483648 ≤ t3 ∧ t3 ≤ 2147483647 := kt3
  replace ht3 : 0 ≤ t3 ∧ t3 ≤ 1 := ht3
  replace zt3 : (t3 = 1 ∧ 0 ≤ a1 ∧ a1 < v1) ∨ (t3 = 0 ∧ ¬ (0 ≤ a1 ∧ a1 < v1)) := zt3
  exact st_r1 (ls := []) (show (t3 : Int) = 0 ∨ (t3 : Int) = 1 by omega) ⟨rfl, rfl, rfl, t3, rfl, (by omega), (by omega)⟩

def k_X4_isUnderWay (a0 : Int) (h : JH) (v : Option JV) (r' g : JH) : Prop := r' = jr0 ∧ h = g ∧ ∃ x : Int, v = some (.inl x) ∧ (0 ≤ x ∧ x ≤ 1) ∧ (True)
set_option maxHeartbeats 4000000 in
theorem c_X4_isUnderWay {E : JE} {l : Launch} (a0 : Int) (h : JH) (ha0 : jHl a0) : jMt E l 61 [.inr (.inr (.inl a0))] 229 jr0 h (k_X4_isUnderWay a0 h) := by
  refine jMt0 (nL := 1) (ls := [.inr (.inr (.inl a0))]) (by decide +kernel) (by decide +kernel) (by decide +kernel) rfl rfl ?_
  refine jGo_blk qX4_isUnderWay_0 ?_
  refine st_gi ha0.1 (fun v1 ev1 b2 => ?_)
  replace ev1 : v1 = h a0 3 := ev1
  replace b2 := (jbf_4_3 ha0.1 _).1 b2
  refine And.intro (fun c3 => ?_) (fun c3 => ?_)
  · replace c3 : v1 = 0 := c3
    show jGo E l 61 229 229 _ 15 [.inr (.inr (.inl a0))] [] 229 jr0 h
    refine jGo_blk qX4_isUnderWay_15 ?_
    show jGo E l 61 229 229 _ 20 [.inr (.inr (.inl a0))] [.inl 1] 229 jr0 h
    refine jGo_blk qX4_isUnderWay_20 ?_
    exact st_r1 (ls := []) (show (1 : Int) = 0 ∨ (1 : Int) = 1 by omega) ⟨rfl, rfl, rfl, 1, rfl, (by omega), trivial⟩
  · replace c3 : ¬ v1 = 0 := by first | exact c3 | exact Int.not_le.mp c3 | exact Int.not_lt.mp c3 | exact Decidable.not_not.mp c3
    refine st_gi ha0.1 (fun v4 ev4 b5 => ?_)
    replace ev4 : v4 = h a0 3 := ev4
    replace b5 := (jbf_4_3 ha0.1 _).1 b5
    refine And.intro (fun c6 => ?_) (fun c6 => ?_)
    · replace c6 : ¬ v4 = 1 := c6
      show jGo E l 61 229 229 _ 19 [.inr (.inr (.inl a0))] [] 229 jr0 h
      refine jGo_blk qX4_isUnderWay_19 ?_
      show jGo E l 61 229 229 _ 20 [.inr (.inr (.inl a0))] [.inl 0] 229 jr0 h
      refine jGo_blk qX4_isUnderWay_20 ?_
      exact st_r1 (ls := []) (show (0 : Int) = 0 ∨ (0 : Int) = 1 by omega) ⟨rfl, rfl, rfl, 0, rfl, (by omega), trivial⟩
    · replace c6 : v4 = 1 := by first | exact c6 | exact Int.not_le.mp c6 | exact Int.not_lt.mp c6 | exact Decidable.not_not.mp c6
      show jGo E l 61 229 229 _ 15 [.inr (.inr (.inl a0))] [] 229 jr0 h
      refine jGo_blk qX4_isUnderWay_15 ?_
      show jGo E l 61 229 229 _ 20 [.inr (.inr (.inl a0))] [.inl 1] 229 jr0 h
      refine jGo_blk qX4_isUnderWay_20 ?_
      exact st_r1 (ls := []) (show (1 : Int) = 0 ∨ (1 : Int) = 1 by omega) ⟨rfl, rfl, rfl, 1, rfl, (by omega), trivial⟩

def w_X11_priority (i k : Int) : Prop := (i = 1) ∨ (36 ≤ i ∧ i ≤ 83) ∨ (i = 111 ∧ 9 ≤ k ∧ k ≤ 11)
def k_X11_priority (a1 : Int) (a2 : Int) (h : JH) (v : Option JV) (r' g : JH) : Prop := r' = jr0 ∧ jfr w_X11_priority h g ∧ ∃ x : Int, v = some (.inl x) ∧ (-7 ≤ x ∧ x ≤ 99) ∧ (True)
set_option maxHeartbeats 4000000 in
theorem c_X11_priority {E : JE} {l : Launch} (a1 : Int) (a2 : Int) (h : JH) : jMt E l 62 [.inr (.inr (.inl 0)), .inl a1, .inl a2] 229 jr0 h (k_X11_priority a1 a2 h) := by
  refine jMt0 (nL := 5) (ls := [.inr (.inr (.inl 0)), .inl a1, .inl a2, .inr (.inr (.inr ())), .inr (.inr (.inr ()))]) (by decide +kernel) (by decide +kernel) (by decide +kernel) rfl rfl ?_
  have f0 : jfr w_X11_priority h h := jfr_rf _ _
  refine jGo_blk qX11_priority_0 ?_
  refine st_cv (na := 1) (st := [.inl a1, .inr (.inr (.inl 0))]) jo_0 rfl rfl rfl (c_X11_isHull a1 h) rfl ?_
  rintro _ _ _ ⟨rfl, rfl, t1, rfl, ht1, zt1⟩ kt1
  replace kt1 : -2147483648 ≤ t1 ∧ t1 ≤ 2147483647 := kt1
  replace ht1 : 0 ≤ t1 ∧ t1 ≤ 1 := ht1
  replace zt1 : (t1 = 1 ∧ 0 ≤ a1 ∧ a1 < h 29 4 ∧ h 29 4 ≤ 16) ∨ (t1 = 0 ∧ ¬ (0 ≤ a1 ∧ a1 < h 29 4)) := zt1
  refine And.intro (fun c3 => ?_) (fun c3 => ?_)
  · replace c3 : ¬ t1 = 0 := c3
    show jGo E l 62 229 229 _ 12 [.inr (.inr (.inl 0)), .inl a1, .inl a2, .inr (.inr (.inr ())), .inr (.inr (.inr ()))] [] 229 jr0 h
    refine jGo_blk qX11_priority_12 ?_
    refine st_gr jo_0 jr_0_5 ?_
    refine st_gr jo_29 jr_29_3 ?_
    refine st_ar jo_33 (by decide) (show 0 ≤ a1 by omega) (show a1 < ((16 : Nat) : Int) by omega) (fun u4 eu4 => ?_)
    replace eu4 : u4 = jr0 33 a1 := eu4
    have qu4 : u4 = 36 + 3 * a1 := eu4.trans (jhul_33 a1 (by omega) (by omega)).1
    have hu4 : jHl u4 := by rw [eu4]; exact (jhul_33 a1 (by omega) (by omega)).2
    refine st_cv (na := 0) (st := [.inr (.inr (.inl u4))]) hu4.1 rfl rfl rfl (c_X4_isUnderWay u4 h hu4) rfl ?_
    rintro _ _ _ ⟨rfl, rfl, t5, rfl, ht5, zt5⟩ kt5
    replace kt5 : -2147483648 ≤ t5 ∧ t5 ≤ 2147483647 := kt5
    replace ht5 : 0 ≤ t5 ∧ t5 ≤ 1 := ht5
    refine And.intro (fun c7 => ?_) (fun c7 => ?_)
    · replace c7 : ¬ t5 = 0 := c7
      show jGo E l 62 229 229 _ 32 [.inr (.inr (.inl 0)), .inl a1, .inl a2, .inr (.inr (.inr ())), .inr (.inr (.inr ()))] [] 229 jr0 h
      refine jGo_blk qX11_priority_32 ?_
      refine st_cs (na := 3) (st := [.inl 99, .inl 0, .inl a2]) rfl rfl rfl (c_X11_outside a2 0 99 h) rfl ?_
      rintro _ _ _ ⟨rfl, rfl, t8, rfl, ht8, zt8⟩ kt8
      replace kt8 : -2147483648 ≤ t8 ∧ t8 ≤ 2147483647 := kt8
      replace ht8 : -6 ≤ t8 ∧ t8 ≤ 0 := ht8
      replace zt8 : (t8 = -4 ∧ a2 < (0 : Int)) ∨ (t8 = -6 ∧ (0 : Int) ≤ a2 ∧ (99 : Int) < a2) ∨ (t8 = 0 ∧ (0 : Int) ≤ a2 ∧ a2 ≤ (99 : Int)) := zt8
      show jGo E l 62 229 229 _ 39 [.inr (.inr (.inl 0)), .inl a1, .inl a2, .inr (.inr (.inr ())), .inr (.inr (.inr ()))] [.inl t8] 229 jr0 h
      refine jGo_blk qX11_priority_39 ?_
      refine And.intro (fun c10 => ?_) (fun c10 => ?_)
      · replace c10 : t8 = 0 := c10
        show jGo E l 62 229 229 _ 50 [.inr (.inr (.inl 0)), .inl a1, .inl a2, .inl t8, .inr (.inr (.inr ()))] [] 229 jr0 h
        refine jGo_blk qX11_priority_50 ?_
        refine st_gr jo_0 jr_0_11 ?_
        refine st_cv (na := 0) (st := [.inr (.inr (.inl 111))]) jo_111 rfl rfl rfl (c_X7_forget h) rfl ?_
        rintro _ _ g12 ⟨rfl, ft11, rfl, zt11⟩ kt11
        have fg12 : jfr w_X11_priority h g12 := jfr_tr f0 ft11 (fun i k q => by unfold w_X7_forget at q; unfold w_X11_priority; omega)
        refine st_gr jo_0 jr_0_5 ?_
        refine st_gr jo_29 jr_29_3 ?_
        refine st_ar jo_33 (by decide) (show 0 ≤ a1 by omega) (show a1 < ((16 : Nat) : Int) by omega) (fun u13 eu13 => ?_)
        replace eu13 : u13 = jr0 33 a1 := eu13
        have qu13 : u13 = 36 + 3 * a1 := eu13.trans (jhul_33 a1 (by omega) (by omega)).1
        have hu13 : jHl u13 := by rw [eu13]; exact (jhul_33 a1 (by omega) (by omega)).2
        refine st_gi hu13.1 (fun v14 ev14 b15 => ?_)
        replace ev14 : v14 = g12 u13 1 := ev14
        replace b15 := (jbf_4_1 hu13.1 _).1 b15
        refine st_gr jo_0 jr_0_5 ?_
        refine st_gr jo_29 jr_29_3 ?_
        refine st_ar jo_33 (by decide) (show 0 ≤ a1 by omega) (show a1 < ((16 : Nat) : Int) by omega) (fun u16 eu16 => ?_)
        replace eu16 : u16 = jr0 33 a1 := eu16
        have qu16 : u16 = 36 + 3 * a1 := eu16.trans (jhul_33 a1 (by omega) (by omega)).1
        have hu16 : jHl u16 := by rw [eu16]; exact (jhul_33 a1 (by omega) (by omega)).2
        refine st_pi hu16.1 (fun hx => (jbf_4_1 hu16.1 _).2 (show 0 ≤ a2 ∧ a2 ≤ 99 by omega)) (fun g17 eg17 => ?_)
        replace eg17 : g17 = jup g12 u16 1 a2 := eg17
        have fg17 : jfr w_X11_priority h g17 := jfr_up fg12 eg17 (by unfold w_X11_priority; omega)
        have e18 : g17 u16 1 = a2 := jup_s eg17
        exact st_r0 (ls := []) ⟨rfl, rfl, fg17, v14, rfl, (by omega), trivial⟩
      · replace c10 : ¬ t8 = 0 := by first | exact c10 | exact Int.not_le.mp c10 | exact Int.not_lt.mp c10 | exact Decidable.not_not.mp c10
        refine st_cv (na := 1) (st := [.inl t8, .inr (.inr (.inl 0))]) jo_0 rfl rfl rfl (c_X11_refused t8 h (by omega)) rfl ?_
        rintro _ _ g20 ⟨rfl, ft19, t19, rfl, ht19, zt19⟩ kt19
        replace kt19 : -2147483648 ≤ t19 ∧ t19 ≤ 2147483647 := kt19
        replace ht19 : -7 ≤ t19 ∧ t19 ≤ -1 := ht19
        have fg20 : jfr w_X11_priority h g20 := jfr_tr f0 ft19 (fun i k q => by unfold w_X11_refused at q; unfold w_X11_priority; omega)
        replace zt19 : t19 = t8 := zt19
        exact st_r0 (ls := []) ⟨rfl, rfl, fg20, t19, rfl, (by omega), trivial⟩
    · replace c7 : t5 = 0 := by first | exact c7 | exact Int.not_le.mp c7 | exact Int.not_lt.mp c7 | exact Decidable.not_not.mp c7
      show jGo E l 62 229 229 _ 39 [.inr (.inr (.inl 0)), .inl a1, .inl a2, .inr (.inr (.inr ())), .inr (.inr (.inr ()))] [.inl (-3)] 229 jr0 h
      refine jGo_blk qX11_priority_39 ?_
      refine And.intro (fun c21 => ?_) (fun c21 => ?_)
      · replace c21 : (-3 : Int) = 0 := c21
        exfalso; omega
      · replace c21 : ¬ (-3 : Int) = 0 := by first | exact c21 | exact Int.not_le.mp c21 | exact Int.not_lt.mp c21 | exact Decidable.not_not.mp c21
        refine st_cv (na := 1) (st := [.inl (-3), .inr (.inr (.inl 0))]) jo_0 rfl rfl rfl (c_X11_refused (-3) h (by omega)) rfl ?_
        rintro _ _ g23 ⟨rfl, ft22, t22, rfl, ht22, zt22⟩ kt22
        replace kt22 : -2147483648 ≤ t22 ∧ t22 ≤ 2147483647 := kt22
        replace ht22 : -7 ≤ t22 ∧ t22 ≤ -1 := ht22
        have fg23 : jfr w_X11_priority h g23 := jfr_tr f0 ft22 (fun i k q => by unfold w_X11_refused at q; unfold w_X11_priority; omega)
        replace zt22 : t22 = (-3 : Int) := zt22
        exact st_r0 (ls := []) ⟨rfl, rfl, fg23, t22, rfl, (by omega), trivial⟩
  · replace c3 : t1 = 0 := by first | exact c3 | exact Int.not_le.mp c3 | exact Int.not_lt.mp c3 | exact Decidable.not_not.mp c3
    show jGo E l 62 229 229 _ 39 [.inr (.inr (.inl 0)), .inl a1, .inl a2, .inr (.inr (.inr ())), .inr (.inr (.inr ()))] [.inl (-1)] 229 jr0 h
    refine jGo_blk qX11_priority_39 ?_
    refine And.intro (fun c24 => ?_) (fun c24 => ?_)
    · replace c24 : (-1 : Int) = 0 := c24
      exfalso; omega
    · replace c24 : ¬ (-1 : Int) = 0 := by first | exact c24 | exact Int.not_le.mp c24 | exact Int.not_lt.mp c24 | exact Decidable.not_not.mp c24
      refine st_cv (na := 1) (st := [.inl (-1), .inr (.inr (.inl 0))]) jo_0 rfl rfl rfl (c_X11_refused (-1) h (by omega)) rfl ?_
      rintro _ _ g26 ⟨rfl, ft25, t25, rfl, ht25, zt25⟩ kt25
      replace kt25 : -2147483648 ≤ t25 ∧ t25 ≤ 2147483647 := kt25
      replace ht25 : -7 ≤ t25 ∧ t25 ≤ -1 := ht25
      have fg26 : jfr w_X11_priority h g26 := jfr_tr f0 ft25 (fun i k q => by unfold w_X11_refused at q; unfold w_X11_priority; omega)
      replace zt25 : t25 = (-1 : Int) := zt25
      exact st_r0 (ls := []) ⟨rfl, rfl, fg26, t25, rfl, (by omega), trivial⟩

def k_X12_isHull (a1 : Int) (h : JH) (v : Option JV) (r' g : JH) : Prop := r' = jr0 ∧ h = g ∧ ∃ x : Int, v = some (.inl x) ∧ (0 ≤ x ∧ x ≤ 1) ∧ ((x = 1 ∧ 0 ≤ a1 ∧ a1 < h 176 14 ∧ h 176 14 ≤ 16) ∨ (x = 0 ∧ ¬ (0 ≤ a1 ∧ a1 < h 176 14)))
set_option maxHeartbeats 4000000 in
theorem c_X12_isHull {E : JE} {l : Launch} (a1 : Int) (h : JH) : jMt E l 63 [.inr (.inr (.inl 176)), .inl a1] 229 jr0 h (k_X12_isHull a1 h) := by
  refine jMt0 (nL := 2) (ls := [.inr (.inr (.inl 176)), .inl a1]) (by decide +kernel) (by decide +kernel) (by decide +kernel) rfl rfl ?_
  refine jGo_blk qX12_isHull_0 ?_
  refine st_gi jo_176 (fun v1 ev1 b2 => ?_)
  replace ev1 : v1 = h 176 14 := ev1
  replace b2 := (jbf_12_14 jo_176 _).1 b2
  have e3 : jw32 (v1 - 1) = v1 - 1 := j32e (by omega) (by omega)
  refine st_cs (na := 3) (st := [.inl (jw32 (v1 - 1)), .inl 0, .inl a1]) rfl rfl rfl (c_X12_in a1 0 (jw32 (v1 - 1)) h) rfl ?_
  rintro _ _ _ ⟨rfl, rfl, t4, rfl, ht4, zt4⟩ kt4
  replace kt4 : -2147483648 ≤ t4 ∧ t4 ≤ 2147483647 := kt4
  replace ht4 : 0 ≤ t4 ∧ t4 ≤ 1 := ht4
  replace zt4 : (t4 = 1 ∧ (0 : Int) ≤ a1 ∧ a1 ≤ (jw32 (v1 - 1))) ∨ (t4 = 0 ∧ ¬ ((0 : Int) ≤ a1 ∧ a1 ≤ (jw32 (v1 - 1)))) := zt4
  exact st_r1 (ls := []) (show (t4 : Int) = 0 ∨ (t4 : Int) = 1 by omega) ⟨rfl, rfl, rfl, t4, rfl, (by omega), (by omega)⟩

def w_X12_priority (i k : Int) : Prop := (i = 190) ∨ (i = 219)
def k_X12_priority (a1 : Int) (a2 : Int) (h : JH) (v : Option JV) (r' g : JH) : Prop := r' = jr0 ∧ jfr w_X12_priority h g ∧ ∃ x : Int, v = some (.inl x) ∧ (-7 ≤ x ∧ x ≤ 99) ∧ (True)
set_option maxHeartbeats 4000000 in
theorem c_X12_priority {E : JE} {l : Launch} (a1 : Int) (a2 : Int) (h : JH) : jMt E l 64 [.inr (.inr (.inl 176)), .inl a1, .inl a2] 229 jr0 h (k_X12_priority a1 a2 h) := by
  refine jMt0 (nL := 4) (ls := [.inr (.inr (.inl 176)), .inl a1, .inl a2, .inr (.inr (.inr ()))]) (by decide +kernel) (by decide +kernel) (by decide +kernel) rfl rfl ?_
  have f0 : jfr w_X12_priority h h := jfr_rf _ _
  refine jGo_blk qX12_priority_0 ?_
  refine st_cv (na := 1) (st := [.inl a1, .inr (.inr (.inl 176))]) jo_176 rfl rfl rfl (c_X12_isHull a1 h) rfl ?_
  rintro _ _ _ ⟨rfl, rfl, t1, rfl, ht1, zt1⟩ kt1
  replace kt1 : -2147483648 ≤ t1 ∧ t1 ≤ 2147483647 := kt1
  replace ht1 : 0 ≤ t1 ∧ t1 ≤ 1 := ht1
  replace zt1 : (t1 = 1 ∧ 0 ≤ a1 ∧ a1 < h 176 14 ∧ h 176 14 ≤ 16) ∨ (t1 = 0 ∧ ¬ (0 ≤ a1 ∧ a1 < h 176 14)) := zt1
  refine And.intro (fun c3 => ?_) (fun c3 => ?_)
  · replace c3 : ¬ t1 = 0 := c3
    show jGo E l 64 229 229 _ 14 [.inr (.inr (.inl 176)), .inl a1, .inl a2, .inr (.inr (.inr ()))] [] 229 jr0 h
    refine jGo_blk qX12_priority_14 ?_
    refine st_gr jo_176 jr_176_18 ?_
    refine st_ai jo_192 (show 0 ≤ a1 by omega) (show a1 < ((16 : Nat) : Int) by omega) (fun v4 ev4 b5 => ?_)
    replace ev4 : v4 = h 192 a1 := ev4
    replace b5 := (jba_192 a1 _).1 b5
    refine And.intro (fun c6 => ?_) (fun c6 => ?_)
    · replace c6 : v4 ≤ 1 := c6
      show jGo E l 64 229 229 _ 31 [.inr (.inr (.inl 176)), .inl a1, .inl a2, .inr (.inr (.inr ()))] [] 229 jr0 h
      refine jGo_blk qX12_priority_31 ?_
      refine And.intro (fun c7 => ?_) (fun c7 => ?_)
      · replace c7 : 0 ≤ a2 := c7
        show jGo E l 64 229 229 _ 42 [.inr (.inr (.inl 176)), .inl a1, .inl a2, .inr (.inr (.inr ()))] [] 229 jr0 h
        refine jGo_blk qX12_priority_42 ?_
        refine And.intro (fun c8 => ?_) (fun c8 => ?_)
        · replace c8 : a2 ≤ 99 := c8
          show jGo E l 64 229 229 _ 55 [.inr (.inr (.inl 176)), .inl a1, .inl a2, .inr (.inr (.inr ()))] [] 229 jr0 h
          refine jGo_blk qX12_priority_55 ?_
          refine st_gr jo_176 jr_176_16 ?_
          refine st_ai jo_190 (show 0 ≤ a1 by omega) (show a1 < ((16 : Nat) : Int) by omega) (fun v9 ev9 b10 => ?_)
          replace ev9 : v9 = h 190 a1 := ev9
          replace b10 := (jba_190 a1 _).1 b10
          refine st_gr jo_176 jr_176_16 ?_
          refine st_si jo_190 (show 0 ≤ a1 by omega) (show a1 < ((16 : Nat) : Int) by omega) (fun hx => (jba_190 _ _).2 (show 0 ≤ a2 ∧ a2 ≤ 99 by omega)) (fun g11 eg11 => ?_)
          replace eg11 : g11 = jup h 190 a1 a2 := eg11
          have fg11 : jfr w_X12_priority h g11 := jfr_up f0 eg11 (by unfold w_X12_priority; omega)
          have e12 : g11 190 a1 = a2 := jup_s eg11
          exact st_r0 (ls := []) ⟨rfl, rfl, fg11, v9, rfl, (by omega), trivial⟩
        · replace c8 : 99 < a2 := by first | exact c8 | exact Int.not_le.mp c8 | exact Int.not_lt.mp c8 | exact Decidable.not_not.mp c8
          refine st_cv (na := 1) (st := [.inl (-6), .inr (.inr (.inl 176))]) jo_176 rfl rfl rfl (c_X12_refuse (-6) h (by omega)) rfl ?_
          rintro _ _ g14 ⟨rfl, ft13, t13, rfl, ht13, zt13⟩ kt13
          replace kt13 : -2147483648 ≤ t13 ∧ t13 ≤ 2147483647 := kt13
          replace ht13 : -7 ≤ t13 ∧ t13 ≤ -1 := ht13
          have fg14 : jfr w_X12_priority h g14 := jfr_tr f0 ft13 (fun i k q => by unfold w_X12_refuse at q; unfold w_X12_priority; omega)
          replace zt13 : t13 = (-6 : Int) := zt13
          exact st_r0 (ls := []) ⟨rfl, rfl, fg14, t13, rfl, (by omega), trivial⟩
      · replace c7 : a2 < 0 := by first | exact c7 | exact Int.not_le.mp c7 | exact Int.not_lt.mp c7 | exact Decidable.not_not.mp c7
        refine st_cv (na := 1) (st := [.inl (-4), .inr (.inr (.inl 176))]) jo_176 rfl rfl rfl (c_X12_refuse (-4) h (by omega)) rfl ?_
        rintro _ _ g16 ⟨rfl, ft15, t15, rfl, ht15, zt15⟩ kt15
        replace kt15 : -2147483648 ≤ t15 ∧ t15 ≤ 2147483647 := kt15
        replace ht15 : -7 ≤ t15 ∧ t15 ≤ -1 := ht15
        have fg16 : jfr w_X12_priority h g16 := jfr_tr f0 ft15 (fun i k q => by unfold w_X12_refuse at q; unfold w_X12_priority; omega)
        replace zt15 : t15 = (-4 : Int) := zt15
        exact st_r0 (ls := []) ⟨rfl, rfl, fg16, t15, rfl, (by omega), trivial⟩
    · replace c6 : 1 < v4 := by first | exact c6 | exact Int.not_le.mp c6 | exact Int.not_lt.mp c6 | exact Decidable.not_not.mp c6
      refine st_cv (na := 1) (st := [.inl (-3), .inr (.inr (.inl 176))]) jo_176 rfl rfl rfl (c_X12_refuse (-3) h (by omega)) rfl ?_
      rintro _ _ g18 ⟨rfl, ft17, t17, rfl, ht17, zt17⟩ kt17
      replace kt17 : -2147483648 ≤ t17 ∧ t17 ≤ 2147483647 := kt17
      replace ht17 : -7 ≤ t17 ∧ t17 ≤ -1 := ht17
      have fg18 : jfr w_X12_priority h g18 := jfr_tr f0 ft17 (fun i k q => by unfold w_X12_refuse at q; unfold w_X12_priority; omega)
      replace zt17 : t17 = (-3 : Int) := zt17
      exact st_r0 (ls := []) ⟨rfl, rfl, fg18, t17, rfl, (by omega), trivial⟩
  · replace c3 : t1 = 0 := by first | exact c3 | exact Int.not_le.mp c3 | exact Int.not_lt.mp c3 | exact Decidable.not_not.mp c3
    refine st_cv (na := 1) (st := [.inl (-1), .inr (.inr (.inl 176))]) jo_176 rfl rfl rfl (c_X12_refuse (-1) h (by omega)) rfl ?_
    rintro _ _ g20 ⟨rfl, ft19, t19, rfl, ht19, zt19⟩ kt19
    replace kt19 : -2147483648 ≤ t19 ∧ t19 ≤ 2147483647 := kt19
    replace ht19 : -7 ≤ t19 ∧ t19 ≤ -1 := ht19
    have fg20 : jfr w_X12_priority h g20 := jfr_tr f0 ft19 (fun i k q => by unfold w_X12_refuse at q; unfold w_X12_priority; omega)
    replace zt19 : t19 = (-1 : Int) := zt19
    exact st_r0 (ls := []) ⟨rfl, rfl, fg20, t19, rfl, (by omega), trivial⟩

def w_X11_raft (i k : Int) : Prop := (i = 1) ∨ (30 ≤ i ∧ i ≤ 32) ∨ (i = 111 ∧ 9 ≤ k ∧ k ≤ 11)
def k_X11_raft (a1 : Int) (a2 : Int) (h : JH) (v : Option JV) (r' g : JH) : Prop := r' = jr0 ∧ jfr w_X11_raft h g ∧ ∃ x : Int, v = some (.inl x) ∧ (-7 ≤ x ∧ x ≤ 1) ∧ (True)
set_option maxHeartbeats 4000000 in
theorem c_X11_raft {E : JE} {l : Launch} (a1 : Int) (a2 : Int) (h : JH) : jMt E l 65 [.inr (.inr (.inl 0)), .inl a1, .inl a2] 229 jr0 h (k_X11_raft a1 a2 h) := by
  refine jMt0 (nL := 4) (ls := [.inr (.inr (.inl 0)), .inl a1, .inl a2, .inr (.inr (.inr ()))]) (by decide +kernel) (by decide +kernel) (by decide +kernel) rfl rfl ?_
  have f0 : jfr w_X11_raft h h := jfr_rf _ _
  refine jGo_blk qX11_raft_0 ?_
  refine st_cs (na := 2) (st := [.inl 6, .inl a1]) rfl rfl rfl (c_X11_within a1 6 h) rfl ?_
  rintro _ _ _ ⟨rfl, rfl, t1, rfl, ht1, zt1⟩ kt1
  replace kt1 : -2147483648 ≤ t1 ∧ t1 ≤ 2147483647 := kt1
  replace ht1 : 0 ≤ t1 ∧ t1 ≤ 1 := ht1
  replace zt1 : (t1 = 1 ∧ 0 ≤ a1 ∧ a1 < (6 : Int)) ∨ (t1 = 0 ∧ ¬ (0 ≤ a1 ∧ a1 < (6 : Int))) := zt1
  refine And.intro (fun c3 => ?_) (fun c3 => ?_)
  · replace c3 : ¬ t1 = 0 := c3
    show jGo E l 65 229 229 _ 13 [.inr (.inr (.inl 0)), .inl a1, .inl a2, .inr (.inr (.inr ()))] [] 229 jr0 h
    refine jGo_blk qX11_raft_13 ?_
    refine st_gr jo_0 jr_0_5 ?_
    refine st_gr jo_29 jr_29_1 ?_
    refine st_ai jo_31 (show 0 ≤ a1 by omega) (show a1 < ((6 : Nat) : Int) by omega) (fun v4 ev4 b5 => ?_)
    replace ev4 : v4 = h 31 a1 := ev4
    replace b5 := (jba_31 a1 _).1 b5
    refine And.intro (fun c6 => ?_) (fun c6 => ?_)
    · replace c6 : v4 = (-1) := c6
      show jGo E l 65 229 229 _ 31 [.inr (.inr (.inl 0)), .inl a1, .inl a2, .inr (.inr (.inr ()))] [] 229 jr0 h
      refine jGo_blk qX11_raft_31 ?_
      refine st_cs (na := 3) (st := [.inl 1000, .inl 1, .inl a2]) rfl rfl rfl (c_X11_outside a2 1 1000 h) rfl ?_
      rintro _ _ _ ⟨rfl, rfl, t7, rfl, ht7, zt7⟩ kt7
      replace kt7 : -2147483648 ≤ t7 ∧ t7 ≤ 2147483647 := kt7
      replace ht7 : -6 ≤ t7 ∧ t7 ≤ 0 := ht7
      replace zt7 : (t7 = -4 ∧ a2 < (1 : Int)) ∨ (t7 = -6 ∧ (1 : Int) ≤ a2 ∧ (1000 : Int) < a2) ∨ (t7 = 0 ∧ (1 : Int) ≤ a2 ∧ a2 ≤ (1000 : Int)) := zt7
      show jGo E l 65 229 229 _ 39 [.inr (.inr (.inl 0)), .inl a1, .inl a2, .inr (.inr (.inr ()))] [.inl t7] 229 jr0 h
      refine jGo_blk qX11_raft_39 ?_
      refine And.intro (fun c9 => ?_) (fun c9 => ?_)
      · replace c9 : ¬ t7 = 0 := c9
        show jGo E l 65 229 229 _ 60 [.inr (.inr (.inl 0)), .inl a1, .inl a2, .inl t7] [] 229 jr0 h
        refine jGo_blk qX11_raft_60 ?_
        refine And.intro (fun c10 => ?_) (fun c10 => ?_)
        · replace c10 : t7 = 0 := c10
          exfalso; omega
        · replace c10 : ¬ t7 = 0 := by first | exact c10 | exact Int.not_le.mp c10 | exact Int.not_lt.mp c10 | exact Decidable.not_not.mp c10
          refine st_cv (na := 1) (st := [.inl t7, .inr (.inr (.inl 0))]) jo_0 rfl rfl rfl (c_X11_refused t7 h (by omega)) rfl ?_
          rintro _ _ g12 ⟨rfl, ft11, t11, rfl, ht11, zt11⟩ kt11
          replace kt11 : -2147483648 ≤ t11 ∧ t11 ≤ 2147483647 := kt11
          replace ht11 : -7 ≤ t11 ∧ t11 ≤ -1 := ht11
          have fg12 : jfr w_X11_raft h g12 := jfr_tr f0 ft11 (fun i k q => by unfold w_X11_refused at q; unfold w_X11_raft; omega)
          replace zt11 : t11 = t7 := zt11
          exact st_r0 (ls := []) ⟨rfl, rfl, fg12, t11, rfl, (by omega), trivial⟩
      · replace c9 : t7 = 0 := by first | exact c9 | exact Int.not_le.mp c9 | exact Int.not_lt.mp c9 | exact Decidable.not_not.mp c9
        refine st_gr jo_0 jr_0_5 ?_
        refine st_gr jo_29 jr_29_0 ?_
        refine st_ai jo_30 (show 0 ≤ 0 by omega) (show 0 < ((6 : Nat) : Int) by omega) (fun v13 ev13 b14 => ?_)
        replace ev13 : v13 = h 30 0 := ev13
        replace b14 := (jba_30 0 _).1 b14
        refine And.intro (fun c15 => ?_) (fun c15 => ?_)
        · replace c15 : a2 ≤ v13 := c15
          show jGo E l 65 229 229 _ 60 [.inr (.inr (.inl 0)), .inl a1, .inl a2, .inl t7] [] 229 jr0 h
          refine jGo_blk qX11_raft_60 ?_
          refine And.intro (fun c16 => ?_) (fun c16 => ?_)
          · replace c16 : t7 = 0 := c16
            show jGo E l 65 229 229 _ 70 [.inr (.inr (.inl 0)), .inl a1, .inl a2, .inl t7] [] 229 jr0 h
            refine jGo_blk qX11_raft_70 ?_
            refine st_gr jo_0 jr_0_11 ?_
            refine st_cv (na := 0) (st := [.inr (.inr (.inl 111))]) jo_111 rfl rfl rfl (c_X7_forget h) rfl ?_
            rintro _ _ g18 ⟨rfl, ft17, rfl, zt17⟩ kt17
            have fg18 : jfr w_X11_raft h g18 := jfr_tr f0 ft17 (fun i k q => by unfold w_X7_forget at q; unfold w_X11_raft; omega)
            refine st_gr jo_0 jr_0_5 ?_
            refine st_gr jo_29 jr_29_0 ?_
            refine st_ai jo_30 (show 0 ≤ 0 by omega) (show 0 < ((6 : Nat) : Int) by omega) (fun v19 ev19 b20 => ?_)
            replace ev19 : v19 = g18 30 0 := ev19
            replace b20 := (jba_30 0 _).1 b20
            refine st_si jo_30 (show 0 ≤ 0 by omega) (show 0 < ((6 : Nat) : Int) by omega) (fun hx => (jba_30 _ _).2 hx) (fun g21 eg21 => ?_)
            replace eg21 : g21 = jup g18 30 0 (jw32 (v19 - a2)) := eg21
            have fg21 : jfr w_X11_raft h g21 := jfr_up fg18 eg21 (by unfold w_X11_raft; omega)
            have e22 : g21 30 0 = jw32 (v19 - a2) := jup_s eg21
            refine st_gr jo_0 jr_0_5 ?_
            refine st_gr jo_29 jr_29_1 ?_
            refine st_si jo_31 (show 0 ≤ a1 by omega) (show a1 < ((6 : Nat) : Int) by omega) (fun hx => (jba_31 _ _).2 (show -2 ≤ (-2) ∧ (-2) ≤ 15 by omega)) (fun g23 eg23 => ?_)
            replace eg23 : g23 = jup g21 31 a1 (-2) := eg23
            have fg23 : jfr w_X11_raft h g23 := jfr_up fg21 eg23 (by unfold w_X11_raft; omega)
            have e24 : g23 31 a1 = (-2) := jup_s eg23
            refine st_gr jo_0 jr_0_5 ?_
            refine st_gr jo_29 jr_29_2 ?_
            refine st_si jo_32 (show 0 ≤ a1 by omega) (show a1 < ((6 : Nat) : Int) by omega) (fun hx => (jba_32 _ _).2 hx) (fun g25 eg25 => ?_)
            replace eg25 : g25 = jup g23 32 a1 a2 := eg25
            have fg25 : jfr w_X11_raft h g25 := jfr_up fg23 eg25 (by unfold w_X11_raft; omega)
            have e26 : g25 32 a1 = a2 := jup_s eg25
            exact st_r0 (ls := []) ⟨rfl, rfl, fg25, 1, rfl, (by omega), trivial⟩
          · replace c16 : ¬ t7 = 0 := by first | exact c16 | exact Int.not_le.mp c16 | exact Int.not_lt.mp c16 | exact Decidable.not_not.mp c16
            exfalso; omega
        · replace c15 : v13 < a2 := by first | exact c15 | exact Int.not_le.mp c15 | exact Int.not_lt.mp c15 | exact Decidable.not_not.mp c15
          show jGo E l 65 229 229 _ 60 [.inr (.inr (.inl 0)), .inl a1, .inl a2, .inl (-3)] [] 229 jr0 h
          refine jGo_blk qX11_raft_60 ?_
          refine And.intro (fun c27 => ?_) (fun c27 => ?_)
          · replace c27 : (-3 : Int) = 0 := c27
            exfalso; omega
          · replace c27 : ¬ (-3 : Int) = 0 := by first | exact c27 | exact Int.not_le.mp c27 | exact Int.not_lt.mp c27 | exact Decidable.not_not.mp c27
            refine st_cv (na := 1) (st := [.inl (-3), .inr (.inr (.inl 0))]) jo_0 rfl rfl rfl (c_X11_refused (-3) h (by omega)) rfl ?_
            rintro _ _ g29 ⟨rfl, ft28, t28, rfl, ht28, zt28⟩ kt28
            replace kt28 : -2147483648 ≤ t28 ∧ t28 ≤ 2147483647 := kt28
            replace ht28 : -7 ≤ t28 ∧ t28 ≤ -1 := ht28
            have fg29 : jfr w_X11_raft h g29 := jfr_tr f0 ft28 (fun i k q => by unfold w_X11_refused at q; unfold w_X11_raft; omega)
            replace zt28 : t28 = (-3 : Int) := zt28
            exact st_r0 (ls := []) ⟨rfl, rfl, fg29, t28, rfl, (by omega), trivial⟩
    · replace c6 : ¬ v4 = (-1) := by first | exact c6 | exact Int.not_le.mp c6 | exact Int.not_lt.mp c6 | exact Decidable.not_not.mp c6
      show jGo E l 65 229 229 _ 39 [.inr (.inr (.inl 0)), .inl a1, .inl a2, .inr (.inr (.inr ()))] [.inl (-3)] 229 jr0 h
      refine jGo_blk qX11_raft_39 ?_
      refine And.intro (fun c30 => ?_) (fun c30 => ?_)
      · replace c30 : ¬ (-3 : Int) = 0 := c30
        show jGo E l 65 229 229 _ 60 [.inr (.inr (.inl 0)), .inl a1, .inl a2, .inl (-3)] [] 229 jr0 h
        refine jGo_blk qX11_raft_60 ?_
        refine And.intro (fun c31 => ?_) (fun c31 => ?_)
        · replace c31 : (-3 : Int) = 0 := c31
          exfalso; omega
        · replace c31 : ¬ (-3 : Int) = 0 := by first | exact c31 | exact Int.not_le.mp c31 | exact Int.not_lt.mp c31 | exact Decidable.not_not.mp c31
          refine st_cv (na := 1) (st := [.inl (-3), .inr (.inr (.inl 0))]) jo_0 rfl rfl rfl (c_X11_refused (-3) h (by omega)) rfl ?_
          rintro _ _ g33 ⟨rfl, ft32, t32, rfl, ht32, zt32⟩ kt32
          replace kt32 : -2147483648 ≤ t32 ∧ t32 ≤ 2147483647 := kt32
          replace ht32 : -7 ≤ t32 ∧ t32 ≤ -1 := ht32
          have fg33 : jfr w_X11_raft h g33 := jfr_tr f0 ft32 (fun i k q => by unfold w_X11_refused at q; unfold w_X11_raft; omega)
          replace zt32 : t32 = (-3 : Int) := zt32
          exact st_r0 (ls := []) ⟨rfl, rfl, fg33, t32, rfl, (by omega), trivial⟩
      · replace c30 : (-3 : Int) = 0 := by first | exact c30 | exact Int.not_le.mp c30 | exact Int.not_lt.mp c30 | exact Decidable.not_not.mp c30
        exfalso; omega
  · replace c3 : t1 = 0 := by first | exact c3 | exact Int.not_le.mp c3 | exact Int.not_lt.mp c3 | exact Decidable.not_not.mp c3
    show jGo E l 65 229 229 _ 39 [.inr (.inr (.inl 0)), .inl a1, .inl a2, .inr (.inr (.inr ()))] [.inl (-1)] 229 jr0 h
    refine jGo_blk qX11_raft_39 ?_
    refine And.intro (fun c34 => ?_) (fun c34 => ?_)
    · replace c34 : ¬ (-1 : Int) = 0 := c34
      show jGo E l 65 229 229 _ 60 [.inr (.inr (.inl 0)), .inl a1, .inl a2, .inl (-1)] [] 229 jr0 h
      refine jGo_blk qX11_raft_60 ?_
      refine And.intro (fun c35 => ?_) (fun c35 => ?_)
      · replace c35 : (-1 : Int) = 0 := c35
        exfalso; omega
      · replace c35 : ¬ (-1 : Int) = 0 := by first | exact c35 | exact Int.not_le.mp c35 | exact Int.not_lt.mp c35 | exact Decidable.not_not.mp c35
        refine st_cv (na := 1) (st := [.inl (-1), .inr (.inr (.inl 0))]) jo_0 rfl rfl rfl (c_X11_refused (-1) h (by omega)) rfl ?_
        rintro _ _ g37 ⟨rfl, ft36, t36, rfl, ht36, zt36⟩ kt36
        replace kt36 : -2147483648 ≤ t36 ∧ t36 ≤ 2147483647 := kt36
        replace ht36 : -7 ≤ t36 ∧ t36 ≤ -1 := ht36
        have fg37 : jfr w_X11_raft h g37 := jfr_tr f0 ft36 (fun i k q => by unfold w_X11_refused at q; unfold w_X11_raft; omega)
        replace zt36 : t36 = (-1 : Int) := zt36
        exact st_r0 (ls := []) ⟨rfl, rfl, fg37, t36, rfl, (by omega), trivial⟩
    · replace c34 : (-1 : Int) = 0 := by first | exact c34 | exact Int.not_le.mp c34 | exact Int.not_lt.mp c34 | exact Decidable.not_not.mp c34
      exfalso; omega
