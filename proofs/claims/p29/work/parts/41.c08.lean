def w_X4_begin (a0 : Int) (i k : Int) : Prop := (a0 + 0 ≤ i ∧ i ≤ a0 + 0)
def k_X4_begin (a0 : Int) (a1 : Int) (a2 : Int) (a3 : Int) (h : JH) (v : Option JV) (r' g : JH) : Prop := r' = jr0 ∧ jfr (w_X4_begin a0) h g ∧ v = none ∧ (g = jBgn a0 a1 a2 a3 h)
set_option maxHeartbeats 4000000 in
theorem c_X4_begin {E : JE} {l : Launch} (a0 : Int) (a1 : Int) (a2 : Int) (a3 : Int) (h : JH) (ha0 : jHl a0) (p1 : 0 ≤ a1 ∧ a1 ≤ 2) (p2 : 0 ≤ a2 ∧ a2 ≤ 99) (p3 : 0 ≤ a3 ∧ a3 ≤ 2000) : jMt E l 56 [.inr (.inr (.inl a0)), .inl a1, .inl a2, .inl a3] 229 jr0 h (k_X4_begin a0 a1 a2 a3 h) := by
  refine jMt0 (nL := 4) (ls := [.inr (.inr (.inl a0)), .inl a1, .inl a2, .inl a3]) (by decide +kernel) (by decide +kernel) (by decide +kernel) rfl rfl ?_
  have f0 : jfr (w_X4_begin a0) h h := jfr_rf _ _
  refine jGo_blk qX4_begin_0 ?_
  refine st_pi ha0.1 (fun hx => (jbf_4_0 ha0.1 _).2 (show 0 ≤ a1 ∧ a1 ≤ 2 by omega)) (fun g1 eg1 => ?_)
  replace eg1 : g1 = jup h a0 0 a1 := eg1
  have fg1 : jfr (w_X4_begin a0) h g1 := jfr_up f0 eg1 (by unfold w_X4_begin; omega)
  have e2 : g1 a0 0 = a1 := jup_s eg1
  refine st_pi ha0.1 (fun hx => (jbf_4_1 ha0.1 _).2 (show 0 ≤ a2 ∧ a2 ≤ 99 by omega)) (fun g3 eg3 => ?_)
  replace eg3 : g3 = jup g1 a0 1 a2 := eg3
  have fg3 : jfr (w_X4_begin a0) h g3 := jfr_up fg1 eg3 (by unfold w_X4_begin; omega)
  have e4 : g3 a0 1 = a2 := jup_s eg3
  refine st_pi ha0.1 (fun hx => (jbf_4_2 ha0.1 _).2 (show 0 ≤ a3 ∧ a3 ≤ 2000 by omega)) (fun g5 eg5 => ?_)
  replace eg5 : g5 = jup g3 a0 2 a3 := eg5
  have fg5 : jfr (w_X4_begin a0) h g5 := jfr_up fg3 eg5 (by unfold w_X4_begin; omega)
  have e6 : g5 a0 2 = a3 := jup_s eg5
  refine st_pi ha0.1 (fun hx => (jbf_4_3 ha0.1 _).2 (show 0 ≤ 0 ∧ 0 ≤ 3 by omega)) (fun g7 eg7 => ?_)
  replace eg7 : g7 = jup g5 a0 3 0 := eg7
  have fg7 : jfr (w_X4_begin a0) h g7 := jfr_up fg5 eg7 (by unfold w_X4_begin; omega)
  have e8 : g7 a0 3 = 0 := jup_s eg7
  refine st_pi ha0.1 (fun hx => (jbf_4_4 ha0.1 _).2 (show -9 ≤ (-9) ∧ (-9) ≤ 5 by omega)) (fun g9 eg9 => ?_)
  replace eg9 : g9 = jup g7 a0 4 (-9) := eg9
  have fg9 : jfr (w_X4_begin a0) h g9 := jfr_up fg7 eg9 (by unfold w_X4_begin; omega)
  have e10 : g9 a0 4 = (-9) := jup_s eg9
  refine st_pi ha0.1 (fun hx => (jbf_4_9 ha0.1 _).2 hx) (fun g11 eg11 => ?_)
  replace eg11 : g11 = jup g9 a0 9 (-9) := eg11
  have fg11 : jfr (w_X4_begin a0) h g11 := jfr_up fg9 eg11 (by unfold w_X4_begin; omega)
  have e12 : g11 a0 9 = (-9) := jup_s eg11
  exact ⟨rfl, rfl, fg11, rfl, (by subst eg11 eg9 eg7 eg5 eg3 eg1; unfold jBgn; (repeat (first | rw [if_pos (by omega)] | rw [if_neg (by omega)])); all_goals ((try rfl)))⟩

def w_X10_addHull_29 (i k : Int) : Prop := (36 ≤ i ∧ i ≤ 83) ∨ (i = 29 ∧ k = 4)
def k_X10_addHull_29 (a1 : Int) (a2 : Int) (a3 : Int) (h : JH) (v : Option JV) (r' g : JH) : Prop := r' = jr0 ∧ jfr w_X10_addHull_29 h g ∧ ∃ x : Int, v = some (.inl x) ∧ (0 ≤ x ∧ x ≤ 15) ∧ ((x = h 29 4 ∧ g 29 4 = h 29 4 + 1) ∧ g = jup (jBgn (36 + 3 * h 29 4) a1 a2 a3 h) 29 4 (h 29 4 + 1))
set_option maxHeartbeats 4000000 in
theorem c_X10_addHull_29 {E : JE} {l : Launch} (a1 : Int) (a2 : Int) (a3 : Int) (h : JH) (p1 : 0 ≤ a1 ∧ a1 ≤ 2) (p2 : 0 ≤ a2 ∧ a2 ≤ 99) (p3 : 0 ≤ a3 ∧ a3 ≤ 2000) (q0 : h 29 4 ≤ 15) : jMt E l 57 [.inr (.inr (.inl 29)), .inl a1, .inl a2, .inl a3] 229 jr0 h (k_X10_addHull_29 a1 a2 a3 h) := by
  refine jMt0 (nL := 4) (ls := [.inr (.inr (.inl 29)), .inl a1, .inl a2, .inl a3]) (by decide +kernel) (by decide +kernel) (by decide +kernel) rfl rfl ?_
  have f0 : jfr w_X10_addHull_29 h h := jfr_rf _ _
  refine jGo_blk qX10_addHull_0 ?_
  refine st_gr jo_29 jr_29_3 ?_
  refine st_gi jo_29 (fun v1 ev1 b2 => ?_)
  replace ev1 : v1 = h 29 4 := ev1
  replace b2 := (jbf_10_4 jo_29 _).1 b2
  refine st_ar jo_33 (by decide) (show 0 ≤ v1 by omega) (show v1 < ((16 : Nat) : Int) by omega) (fun u3 eu3 => ?_)
  replace eu3 : u3 = jr0 33 v1 := eu3
  have qu3 : u3 = 36 + 3 * v1 := eu3.trans (jhul_33 v1 (by omega) (by omega)).1
  have hu3 : jHl u3 := by rw [eu3]; exact (jhul_33 v1 (by omega) (by omega)).2
  refine st_cv (na := 3) (st := [.inl a3, .inl a2, .inl a1, .inr (.inr (.inl u3))]) hu3.1 rfl rfl rfl (c_X4_begin u3 a1 a2 a3 h hu3 (by omega) (by omega) (by omega)) rfl ?_
  rintro _ _ g5 ⟨rfl, ft4, rfl, zt4⟩ kt4
  have fg5 : jfr w_X10_addHull_29 h g5 := jfr_tr f0 ft4 (fun i k q => by unfold w_X4_begin at q; unfold w_X10_addHull_29; omega)
  replace zt4 : g5 = jBgn u3 a1 a2 a3 h := zt4
  refine st_gi jo_29 (fun v6 ev6 b7 => ?_)
  replace ev6 : v6 = g5 29 4 := ev6
  replace b7 := (jbf_10_4 jo_29 _).1 b7
  have e8 : g5 29 4 = h 29 4 := ft4 29 4 (by unfold w_X4_begin; omega)
  have e9 : jw32 (v6 + 1) = v6 + 1 := jzj32 (by omega)
  refine st_pi jo_29 (fun hx => (jbf_10_4 jo_29 _).2 (show 0 ≤ jw32 (v6 + 1) ∧ jw32 (v6 + 1) ≤ 16 by omega)) (fun g10 eg10 => ?_)
  replace eg10 : g10 = jup g5 29 4 (jw32 (v6 + 1)) := eg10
  have fg10 : jfr w_X10_addHull_29 h g10 := jfr_up fg5 eg10 (by unfold w_X10_addHull_29; omega)
  have e11 : g10 29 4 = jw32 (v6 + 1) := jup_s eg10
  refine st_gi jo_29 (fun v12 ev12 b13 => ?_)
  replace ev12 : v12 = g10 29 4 := ev12
  replace b13 := (jbf_10_4 jo_29 _).1 b13
  have e14 : jw32 (v12 - 1) = v12 - 1 := jzj32 (by omega)
  have hc15 : g10 = jup (jBgn (36 + 3 * h 29 4) a1 a2 a3 h) 29 4 (h 29 4 + 1) := by
    rw [eg10, zt4, show u3 = 36 + 3 * h 29 4 by omega, show jw32 (v6 + 1) = h 29 4 + 1 by omega]
  exact st_r0 (ls := []) ⟨rfl, rfl, fg10, jw32 (v12 - 1), rfl, (by omega), (by exact ⟨⟨by omega, by omega⟩, hc15⟩)⟩

def w_X11_hull (i k : Int) : Prop := (i = 1) ∨ (36 ≤ i ∧ i ≤ 83) ∨ (i = 29 ∧ k = 4) ∨ (i = 111 ∧ 9 ≤ k ∧ k ≤ 11)
theorem ws_X11_refused__X11_hull (i k : Int) (q : w_X11_refused i k) : w_X11_hull i k := by
  unfold w_X11_refused at q; unfold w_X11_hull
  exact (Or.inl (by omega))
theorem ws_X7_forget__X11_hull (i k : Int) (q : w_X7_forget i k) : w_X11_hull i k := by
  unfold w_X7_forget at q; unfold w_X11_hull
  exact (Or.inr (Or.inr (Or.inr (by omega))))
theorem ws_X10_addHull_29__X11_hull (i k : Int) (q : w_X10_addHull_29 i k) : w_X11_hull i k := by
  unfold w_X10_addHull_29 at q; unfold w_X11_hull
  rcases q with q | q
  · exact (Or.inr (Or.inl (by omega)))
  · exact (Or.inr (Or.inr (Or.inl (by omega))))
def k_X11_hull (a1 : Int) (a2 : Int) (a3 : Int) (h : JH) (v : Option JV) (r' g : JH) : Prop := r' = jr0 ∧ jfr w_X11_hull h g ∧ ∃ x : Int, v = some (.inl x) ∧ (-7 ≤ x ∧ x ≤ 15) ∧ ((P_X11_hull a1 a2 a3 x h g) ∧ jFg (x < 0) h g)
set_option maxHeartbeats 4000000 in
theorem c_X11_hull {E : JE} {l : Launch} (a1 : Int) (a2 : Int) (a3 : Int) (h : JH) : jMt E l 58 [.inr (.inr (.inl 0)), .inl a1, .inl a2, .inl a3] 229 jr0 h (k_X11_hull a1 a2 a3 h) := by
  refine jMt0 (nL := 4) (ls := [.inr (.inr (.inl 0)), .inl a1, .inl a2, .inl a3]) (by decide +kernel) (by decide +kernel) (by decide +kernel) rfl rfl ?_
  have f0 : jfr w_X11_hull h h := jfr_rf _ _
  refine jGo_blk qX11_hull_0 ?_
  refine st_cs (na := 2) (st := [.inl 3, .inl a1]) rfl rfl rfl (c_X11_within a1 3 h) rfl ?_
  rintro _ _ _ ⟨rfl, rfl, t1, rfl, ht1, zt1⟩ kt1
  replace kt1 : -2147483648 ≤ t1 ∧ t1 ≤ 2147483647 := kt1
  replace ht1 : 0 ≤ t1 ∧ t1 ≤ 1 := ht1
  replace zt1 : (t1 = 1 ∧ 0 ≤ a1 ∧ a1 < (3 : Int)) ∨ (t1 = 0 ∧ ¬ (0 ≤ a1 ∧ a1 < (3 : Int))) := zt1
  refine And.intro (fun c3 => ?_) (fun c3 => ?_)
  · replace c3 : ¬ t1 = 0 := c3
    show jGo E l 58 229 229 _ 14 [.inr (.inr (.inl 0)), .inl a1, .inl a2, .inl a3] [] 229 jr0 h
    refine jGo_blk qX11_hull_14 ?_
    refine And.intro (fun c4 => ?_) (fun c4 => ?_)
    · replace c4 : a2 < 0 := c4
      show jGo E l 58 229 229 _ 22 [.inr (.inr (.inl 0)), .inl a1, .inl a2, .inl a3] [] 229 jr0 h
      refine jGo_blk qX11_hull_22 ?_
      refine st_cv (na := 1) (st := [.inl (-4), .inr (.inr (.inl 0))]) jo_0 rfl rfl rfl (c_X11_refused (-4) h (by omega)) rfl ?_
      rintro _ _ g6 ⟨rfl, ft5, t5, rfl, ht5, zt5⟩ kt5
      replace kt5 : -2147483648 ≤ t5 ∧ t5 ≤ 2147483647 := kt5
      replace ht5 : -7 ≤ t5 ∧ t5 ≤ -1 := ht5
      have fg6 : jfr w_X11_hull h g6 := jfr_tr f0 ft5 ws_X11_refused__X11_hull
      replace zt5 : t5 = (-4 : Int) := zt5
      have e7 : g6 29 4 = h 29 4 := ft5 29 4 (by unfold w_X11_refused; omega)
      have hs8 : ∀ i k : Int, ¬ i = 1 → ¬ i = 111 → g6 i k = h i k := fun i k p1 p2 => (ft5 i k (by unfold w_X11_refused; omega))
      exact st_r0 (ls := []) ⟨rfl, rfl, fg6, t5, rfl, (by omega), (by refine ⟨by unfold P_X11_hull; by_cases zz : t5 = -4 <;> first | exact Or.inl ⟨by omega, hs8⟩ | exact Or.inr (Or.inl ⟨by omega, hs8⟩) | exact Or.inr (Or.inr (Or.inl ⟨by omega, hs8⟩)), Or.inr ⟨by omega, fun i k p1 => (ft5 i k (by first | exact p1 | (unfold w_X11_refused; omega)))⟩⟩)⟩
    · replace c4 : 0 ≤ a2 := by first | exact c4 | exact Int.not_le.mp c4 | exact Int.not_lt.mp c4 | exact Decidable.not_not.mp c4
      refine And.intro (fun c9 => ?_) (fun c9 => ?_)
      · replace c9 : 0 ≤ a3 := c9
        show jGo E l 58 229 229 _ 29 [.inr (.inr (.inl 0)), .inl a1, .inl a2, .inl a3] [] 229 jr0 h
        refine jGo_blk qX11_hull_29 ?_
        refine And.intro (fun c10 => ?_) (fun c10 => ?_)
        · replace c10 : 99 < a2 := c10
          show jGo E l 58 229 229 _ 54 [.inr (.inr (.inl 0)), .inl a1, .inl a2, .inl a3] [] 229 jr0 h
          refine jGo_blk qX11_hull_54 ?_
          refine st_cv (na := 1) (st := [.inl (-6), .inr (.inr (.inl 0))]) jo_0 rfl rfl rfl (c_X11_refused (-6) h (by omega)) rfl ?_
          rintro _ _ g12 ⟨rfl, ft11, t11, rfl, ht11, zt11⟩ kt11
          replace kt11 : -2147483648 ≤ t11 ∧ t11 ≤ 2147483647 := kt11
          replace ht11 : -7 ≤ t11 ∧ t11 ≤ -1 := ht11
          have fg12 : jfr w_X11_hull h g12 := jfr_tr f0 ft11 ws_X11_refused__X11_hull
          replace zt11 : t11 = (-6 : Int) := zt11
          have e13 : g12 29 4 = h 29 4 := ft11 29 4 (by unfold w_X11_refused; omega)
          have hs14 : ∀ i k : Int, ¬ i = 1 → ¬ i = 111 → g12 i k = h i k := fun i k p1 p2 => (ft11 i k (by unfold w_X11_refused; omega))
          exact st_r0 (ls := []) ⟨rfl, rfl, fg12, t11, rfl, (by omega), (by refine ⟨by unfold P_X11_hull; by_cases zz : t11 = -4 <;> first | exact Or.inl ⟨by omega, hs14⟩ | exact Or.inr (Or.inl ⟨by omega, hs14⟩) | exact Or.inr (Or.inr (Or.inl ⟨by omega, hs14⟩)), Or.inr ⟨by omega, fun i k p1 => (ft11 i k (by first | exact p1 | (unfold w_X11_refused; omega)))⟩⟩)⟩
        · replace c10 : a2 ≤ 99 := by first | exact c10 | exact Int.not_le.mp c10 | exact Int.not_lt.mp c10 | exact Decidable.not_not.mp c10
          refine And.intro (fun c15 => ?_) (fun c15 => ?_)
          · replace c15 : 2000 < a3 := c15
            show jGo E l 58 229 229 _ 54 [.inr (.inr (.inl 0)), .inl a1, .inl a2, .inl a3] [] 229 jr0 h
            refine jGo_blk qX11_hull_54 ?_
            refine st_cv (na := 1) (st := [.inl (-6), .inr (.inr (.inl 0))]) jo_0 rfl rfl rfl (c_X11_refused (-6) h (by omega)) rfl ?_
            rintro _ _ g17 ⟨rfl, ft16, t16, rfl, ht16, zt16⟩ kt16
            replace kt16 : -2147483648 ≤ t16 ∧ t16 ≤ 2147483647 := kt16
            replace ht16 : -7 ≤ t16 ∧ t16 ≤ -1 := ht16
            have fg17 : jfr w_X11_hull h g17 := jfr_tr f0 ft16 ws_X11_refused__X11_hull
            replace zt16 : t16 = (-6 : Int) := zt16
            have e18 : g17 29 4 = h 29 4 := ft16 29 4 (by unfold w_X11_refused; omega)
            have hs19 : ∀ i k : Int, ¬ i = 1 → ¬ i = 111 → g17 i k = h i k := fun i k p1 p2 => (ft16 i k (by unfold w_X11_refused; omega))
            exact st_r0 (ls := []) ⟨rfl, rfl, fg17, t16, rfl, (by omega), (by refine ⟨by unfold P_X11_hull; by_cases zz : t16 = -4 <;> first | exact Or.inl ⟨by omega, hs19⟩ | exact Or.inr (Or.inl ⟨by omega, hs19⟩) | exact Or.inr (Or.inr (Or.inl ⟨by omega, hs19⟩)), Or.inr ⟨by omega, fun i k p1 => (ft16 i k (by first | exact p1 | (unfold w_X11_refused; omega)))⟩⟩)⟩
          · replace c15 : a3 ≤ 2000 := by first | exact c15 | exact Int.not_le.mp c15 | exact Int.not_lt.mp c15 | exact Decidable.not_not.mp c15
            refine st_gr jo_0 jr_0_5 ?_
            refine st_gi jo_29 (fun v20 ev20 b21 => ?_)
            replace ev20 : v20 = h 29 4 := ev20
            replace b21 := (jbf_10_4 jo_29 _).1 b21
            refine And.intro (fun c22 => ?_) (fun c22 => ?_)
            · replace c22 : v20 < 16 := c22
              show jGo E l 58 229 229 _ 61 [.inr (.inr (.inl 0)), .inl a1, .inl a2, .inl a3] [] 229 jr0 h
              refine jGo_blk qX11_hull_61 ?_
              refine st_gr jo_0 jr_0_11 ?_
              refine st_cv (na := 0) (st := [.inr (.inr (.inl 111))]) jo_111 rfl rfl rfl (c_X7_forget h) rfl ?_
              rintro _ _ g24 ⟨rfl, ft23, rfl, zt23⟩ kt23
              have fg24 : jfr w_X11_hull h g24 := jfr_tr f0 ft23 ws_X7_forget__X11_hull
              replace zt23 : g24 111 9 = 0 ∧ g24 111 10 = 0 ∧ g24 111 11 = 0 := zt23
              have e25 : g24 29 4 = h 29 4 := ft23 29 4 (by unfold w_X7_forget; omega)
              refine st_gr jo_0 jr_0_5 ?_
              have e26 : g24 29 4 = h 29 4 := ft23 29 4 (by unfold w_X7_forget; omega)
              refine st_cv (na := 3) (st := [.inl a3, .inl a2, .inl a1, .inr (.inr (.inl 29))]) jo_29 rfl rfl rfl (c_X10_addHull_29 a1 a2 a3 g24 (by omega) (by omega) (by omega) (by omega)) rfl ?_
              rintro _ _ g28 ⟨rfl, ft27, t27, rfl, ht27, zt27⟩ kt27
              replace kt27 : -2147483648 ≤ t27 ∧ t27 ≤ 2147483647 := kt27
              replace ht27 : 0 ≤ t27 ∧ t27 ≤ 15 := ht27
              have fg28 : jfr w_X11_hull h g28 := jfr_tr fg24 ft27 ws_X10_addHull_29__X11_hull
              replace zt27 : (t27 = g24 29 4 ∧ g28 29 4 = g24 29 4 + 1) ∧ g28 = jup (jBgn (36 + 3 * g24 29 4) a1 a2 a3 g24) 29 4 (g24 29 4 + 1) := zt27
              have hq29 : ∀ i k : Int, ¬ i = 1 → ¬ i = 111 → g28 i k = jup (jBgn (36 + 3 * h 29 4) a1 a2 a3 h) 29 4 (h 29 4 + 1) i k := fun i k p1 p2 => (congrFun (congrFun zt27.2 i) k).trans (jup_cc rfl rfl (by omega) (jBgn_c (by omega) rfl rfl rfl (ft23 i k (by unfold w_X7_forget; omega))))
              exact st_r0 (ls := []) ⟨rfl, rfl, fg28, t27, rfl, (by omega), (by refine ⟨by unfold P_X11_hull; exact Or.inr (Or.inr (Or.inr ⟨by omega, by omega, hq29⟩)), Or.inl ?_⟩; exact ⟨((ft27 111 9 (by unfold w_X10_addHull_29; omega))).trans zt23.1, ((ft27 111 10 (by unfold w_X10_addHull_29; omega))).trans zt23.2.1, ((ft27 111 11 (by unfold w_X10_addHull_29; omega))).trans zt23.2.2⟩)⟩
            · replace c22 : 16 ≤ v20 := by first | exact c22 | exact Int.not_le.mp c22 | exact Int.not_lt.mp c22 | exact Decidable.not_not.mp c22
              show jGo E l 58 229 229 _ 54 [.inr (.inr (.inl 0)), .inl a1, .inl a2, .inl a3] [] 229 jr0 h
              refine jGo_blk qX11_hull_54 ?_
              refine st_cv (na := 1) (st := [.inl (-6), .inr (.inr (.inl 0))]) jo_0 rfl rfl rfl (c_X11_refused (-6) h (by omega)) rfl ?_
              rintro _ _ g31 ⟨rfl, ft30, t30, rfl, ht30, zt30⟩ kt30
              replace kt30 : -2147483648 ≤ t30 ∧ t30 ≤ 2147483647 := kt30
              replace ht30 : -7 ≤ t30 ∧ t30 ≤ -1 := ht30
              have fg31 : jfr w_X11_hull h g31 := jfr_tr f0 ft30 ws_X11_refused__X11_hull
              replace zt30 : t30 = (-6 : Int) := zt30
              have e32 : g31 29 4 = h 29 4 := ft30 29 4 (by unfold w_X11_refused; omega)
              have rv33 : v20 = h 29 4 := by omega
              subst rv33
              have hs34 : ∀ i k : Int, ¬ i = 1 → ¬ i = 111 → g31 i k = h i k := fun i k p1 p2 => (ft30 i k (by unfold w_X11_refused; omega))
              exact st_r0 (ls := []) ⟨rfl, rfl, fg31, t30, rfl, (by omega), (by refine ⟨by unfold P_X11_hull; by_cases zz : t30 = -4 <;> first | exact Or.inl ⟨by omega, hs34⟩ | exact Or.inr (Or.inl ⟨by omega, hs34⟩) | exact Or.inr (Or.inr (Or.inl ⟨by omega, hs34⟩)), Or.inr ⟨by omega, fun i k p1 => (ft30 i k (by first | exact p1 | (unfold w_X11_refused; omega)))⟩⟩)⟩
      · replace c9 : a3 < 0 := by first | exact c9 | exact Int.not_le.mp c9 | exact Int.not_lt.mp c9 | exact Decidable.not_not.mp c9
        show jGo E l 58 229 229 _ 22 [.inr (.inr (.inl 0)), .inl a1, .inl a2, .inl a3] [] 229 jr0 h
        refine jGo_blk qX11_hull_22 ?_
        refine st_cv (na := 1) (st := [.inl (-4), .inr (.inr (.inl 0))]) jo_0 rfl rfl rfl (c_X11_refused (-4) h (by omega)) rfl ?_
        rintro _ _ g36 ⟨rfl, ft35, t35, rfl, ht35, zt35⟩ kt35
        replace kt35 : -2147483648 ≤ t35 ∧ t35 ≤ 2147483647 := kt35
        replace ht35 : -7 ≤ t35 ∧ t35 ≤ -1 := ht35
        have fg36 : jfr w_X11_hull h g36 := jfr_tr f0 ft35 ws_X11_refused__X11_hull
        replace zt35 : t35 = (-4 : Int) := zt35
        have e37 : g36 29 4 = h 29 4 := ft35 29 4 (by unfold w_X11_refused; omega)
        have hs38 : ∀ i k : Int, ¬ i = 1 → ¬ i = 111 → g36 i k = h i k := fun i k p1 p2 => (ft35 i k (by unfold w_X11_refused; omega))
        exact st_r0 (ls := []) ⟨rfl, rfl, fg36, t35, rfl, (by omega), (by refine ⟨by unfold P_X11_hull; by_cases zz : t35 = -4 <;> first | exact Or.inl ⟨by omega, hs38⟩ | exact Or.inr (Or.inl ⟨by omega, hs38⟩) | exact Or.inr (Or.inr (Or.inl ⟨by omega, hs38⟩)), Or.inr ⟨by omega, fun i k p1 => (ft35 i k (by first | exact p1 | (unfold w_X11_refused; omega)))⟩⟩)⟩
  · replace c3 : t1 = 0 := by first | exact c3 | exact Int.not_le.mp c3 | exact Int.not_lt.mp c3 | exact Decidable.not_not.mp c3
    refine st_cv (na := 1) (st := [.inl (-1), .inr (.inr (.inl 0))]) jo_0 rfl rfl rfl (c_X11_refused (-1) h (by omega)) rfl ?_
    rintro _ _ g40 ⟨rfl, ft39, t39, rfl, ht39, zt39⟩ kt39
    replace kt39 : -2147483648 ≤ t39 ∧ t39 ≤ 2147483647 := kt39
    replace ht39 : -7 ≤ t39 ∧ t39 ≤ -1 := ht39
    have fg40 : jfr w_X11_hull h g40 := jfr_tr f0 ft39 ws_X11_refused__X11_hull
    replace zt39 : t39 = (-1 : Int) := zt39
    have e41 : g40 29 4 = h 29 4 := ft39 29 4 (by unfold w_X11_refused; omega)
    have hs42 : ∀ i k : Int, ¬ i = 1 → ¬ i = 111 → g40 i k = h i k := fun i k p1 p2 => (ft39 i k (by unfold w_X11_refused; omega))
    exact st_r0 (ls := []) ⟨rfl, rfl, fg40, t39, rfl, (by omega), (by refine ⟨by unfold P_X11_hull; by_cases zz : t39 = -4 <;> first | exact Or.inl ⟨by omega, hs42⟩ | exact Or.inr (Or.inl ⟨by omega, hs42⟩) | exact Or.inr (Or.inr (Or.inl ⟨by omega, hs42⟩)), Or.inr ⟨by omega, fun i k p1 => (ft39 i k (by first | exact p1 | (unfold w_X11_refused; omega)))⟩⟩)⟩

def w_X12_hull (i k : Int) : Prop := (189 ≤ i ∧ i ≤ 193) ∨ (i = 198) ∨ (i = 219) ∨ (i = 176 ∧ k = 14)
theorem ws_X12_refuse__X12_hull (i k : Int) (q : w_X12_refuse i k) : w_X12_hull i k := by
  unfold w_X12_refuse at q; unfold w_X12_hull
  exact (Or.inr (Or.inr (Or.inl (by omega))))
def k_X12_hull (a1 : Int) (a2 : Int) (a3 : Int) (h : JH) (v : Option JV) (r' g : JH) : Prop := r' = jr0 ∧ jfr w_X12_hull h g ∧ ∃ x : Int, v = some (.inl x) ∧ (-7 ≤ x ∧ x ≤ 15) ∧ ((P_X12_hull a1 a2 a3 x h g) ∧ jRx (x < 0) h g)
set_option maxHeartbeats 4000000 in
theorem c_X12_hull {E : JE} {l : Launch} (a1 : Int) (a2 : Int) (a3 : Int) (h : JH) : jMt E l 59 [.inr (.inr (.inl 176)), .inl a1, .inl a2, .inl a3] 229 jr0 h (k_X12_hull a1 a2 a3 h) := by
  refine jMt0 (nL := 4) (ls := [.inr (.inr (.inl 176)), .inl a1, .inl a2, .inl a3]) (by decide +kernel) (by decide +kernel) (by decide +kernel) rfl rfl ?_
  have f0 : jfr w_X12_hull h h := jfr_rf _ _
  refine jGo_blk qX12_hull_0 ?_
  refine st_cs (na := 3) (st := [.inl 2, .inl 0, .inl a1]) rfl rfl rfl (c_X12_in a1 0 2 h) rfl ?_
  rintro _ _ _ ⟨rfl, rfl, t1, rfl, ht1, zt1⟩ kt1
  replace kt1 : -2147483648 ≤ t1 ∧ t1 ≤ 2147483647 := kt1
  replace ht1 : 0 ≤ t1 ∧ t1 ≤ 1 := ht1
  replace zt1 : (t1 = 1 ∧ (0 : Int) ≤ a1 ∧ a1 ≤ (2 : Int)) ∨ (t1 = 0 ∧ ¬ ((0 : Int) ≤ a1 ∧ a1 ≤ (2 : Int))) := zt1
  refine And.intro (fun c3 => ?_) (fun c3 => ?_)
  · replace c3 : ¬ t1 = 0 := c3
    show jGo E l 59 229 229 _ 15 [.inr (.inr (.inl 176)), .inl a1, .inl a2, .inl a3] [] 229 jr0 h
    refine jGo_blk qX12_hull_15 ?_
    refine And.intro (fun c4 => ?_) (fun c4 => ?_)
    · replace c4 : a2 < 0 := c4
      show jGo E l 59 229 229 _ 23 [.inr (.inr (.inl 176)), .inl a1, .inl a2, .inl a3] [] 229 jr0 h
      refine jGo_blk qX12_hull_23 ?_
      refine st_cv (na := 1) (st := [.inl (-4), .inr (.inr (.inl 176))]) jo_176 rfl rfl rfl (c_X12_refuse (-4) h (by omega)) rfl ?_
      rintro _ _ g6 ⟨rfl, ft5, t5, rfl, ht5, zt5⟩ kt5
      replace kt5 : -2147483648 ≤ t5 ∧ t5 ≤ 2147483647 := kt5
      replace ht5 : -7 ≤ t5 ∧ t5 ≤ -1 := ht5
      have fg6 : jfr w_X12_hull h g6 := jfr_tr f0 ft5 ws_X12_refuse__X12_hull
      replace zt5 : t5 = (-4 : Int) := zt5
      have e7 : g6 176 14 = h 176 14 := ft5 176 14 (by unfold w_X12_refuse; omega)
      have hs8 : ∀ i k : Int, ¬ i = 219 → g6 i k = h i k := fun i k p1 => (ft5 i k (by first | exact p1 | (unfold w_X12_refuse; omega)))
      exact st_r0 (ls := []) ⟨rfl, rfl, fg6, t5, rfl, (by omega), (by refine ⟨by unfold P_X12_hull; by_cases zz : t5 = -4 <;> first | exact Or.inl ⟨by omega, hs8⟩ | exact Or.inr (Or.inl ⟨by omega, hs8⟩) | exact Or.inr (Or.inr (Or.inl ⟨by omega, hs8⟩)), fun _ i k q9 => ?_⟩; exact (ft5 i k (jzma_w_X12_refuse q9)))⟩
    · replace c4 : 0 ≤ a2 := by first | exact c4 | exact Int.not_le.mp c4 | exact Int.not_lt.mp c4 | exact Decidable.not_not.mp c4
      refine And.intro (fun c9 => ?_) (fun c9 => ?_)
      · replace c9 : 0 ≤ a3 := c9
        show jGo E l 59 229 229 _ 30 [.inr (.inr (.inl 176)), .inl a1, .inl a2, .inl a3] [] 229 jr0 h
        refine jGo_blk qX12_hull_30 ?_
        refine And.intro (fun c10 => ?_) (fun c10 => ?_)
        · replace c10 : 99 < a2 := c10
          show jGo E l 59 229 229 _ 52 [.inr (.inr (.inl 176)), .inl a1, .inl a2, .inl a3] [] 229 jr0 h
          refine jGo_blk qX12_hull_52 ?_
          refine st_cv (na := 1) (st := [.inl (-6), .inr (.inr (.inl 176))]) jo_176 rfl rfl rfl (c_X12_refuse (-6) h (by omega)) rfl ?_
          rintro _ _ g12 ⟨rfl, ft11, t11, rfl, ht11, zt11⟩ kt11
          replace kt11 : -2147483648 ≤ t11 ∧ t11 ≤ 2147483647 := kt11
          replace ht11 : -7 ≤ t11 ∧ t11 ≤ -1 := ht11
          have fg12 : jfr w_X12_hull h g12 := jfr_tr f0 ft11 ws_X12_refuse__X12_hull
          replace zt11 : t11 = (-6 : Int) := zt11
          have e13 : g12 176 14 = h 176 14 := ft11 176 14 (by unfold w_X12_refuse; omega)
          have hs14 : ∀ i k : Int, ¬ i = 219 → g12 i k = h i k := fun i k p1 => (ft11 i k (by first | exact p1 | (unfold w_X12_refuse; omega)))
          exact st_r0 (ls := []) ⟨rfl, rfl, fg12, t11, rfl, (by omega), (by refine ⟨by unfold P_X12_hull; by_cases zz : t11 = -4 <;> first | exact Or.inl ⟨by omega, hs14⟩ | exact Or.inr (Or.inl ⟨by omega, hs14⟩) | exact Or.inr (Or.inr (Or.inl ⟨by omega, hs14⟩)), fun _ i k q9 => ?_⟩; exact (ft11 i k (jzma_w_X12_refuse q9)))⟩
        · replace c10 : a2 ≤ 99 := by first | exact c10 | exact Int.not_le.mp c10 | exact Int.not_lt.mp c10 | exact Decidable.not_not.mp c10
          refine And.intro (fun c15 => ?_) (fun c15 => ?_)
          · replace c15 : 2000 < a3 := c15
            show jGo E l 59 229 229 _ 52 [.inr (.inr (.inl 176)), .inl a1, .inl a2, .inl a3] [] 229 jr0 h
            refine jGo_blk qX12_hull_52 ?_
            refine st_cv (na := 1) (st := [.inl (-6), .inr (.inr (.inl 176))]) jo_176 rfl rfl rfl (c_X12_refuse (-6) h (by omega)) rfl ?_
            rintro _ _ g17 ⟨rfl, ft16, t16, rfl, ht16, zt16⟩ kt16
            replace kt16 : -2147483648 ≤ t16 ∧ t16 ≤ 2147483647 := kt16
            replace ht16 : -7 ≤ t16 ∧ t16 ≤ -1 := ht16
            have fg17 : jfr w_X12_hull h g17 := jfr_tr f0 ft16 ws_X12_refuse__X12_hull
            replace zt16 : t16 = (-6 : Int) := zt16
            have e18 : g17 176 14 = h 176 14 := ft16 176 14 (by unfold w_X12_refuse; omega)
            have hs19 : ∀ i k : Int, ¬ i = 219 → g17 i k = h i k := fun i k p1 => (ft16 i k (by first | exact p1 | (unfold w_X12_refuse; omega)))
            exact st_r0 (ls := []) ⟨rfl, rfl, fg17, t16, rfl, (by omega), (by refine ⟨by unfold P_X12_hull; by_cases zz : t16 = -4 <;> first | exact Or.inl ⟨by omega, hs19⟩ | exact Or.inr (Or.inl ⟨by omega, hs19⟩) | exact Or.inr (Or.inr (Or.inl ⟨by omega, hs19⟩)), fun _ i k q9 => ?_⟩; exact (ft16 i k (jzma_w_X12_refuse q9)))⟩
          · replace c15 : a3 ≤ 2000 := by first | exact c15 | exact Int.not_le.mp c15 | exact Int.not_lt.mp c15 | exact Decidable.not_not.mp c15
            refine st_gi jo_176 (fun v20 ev20 b21 => ?_)
            replace ev20 : v20 = h 176 14 := ev20
            replace b21 := (jbf_12_14 jo_176 _).1 b21
            refine And.intro (fun c22 => ?_) (fun c22 => ?_)
            · replace c22 : ¬ v20 = 16 := c22
              show jGo E l 59 229 229 _ 59 [.inr (.inr (.inl 176)), .inl a1, .inl a2, .inl a3] [] 229 jr0 h
              refine jGo_blk qX12_hull_59 ?_
              refine st_gr jo_176 jr_176_15 ?_
              refine st_gi jo_176 (fun v23 ev23 b24 => ?_)
              replace ev23 : v23 = h 176 14 := ev23
              replace b24 := (jbf_12_14 jo_176 _).1 b24
              refine st_si jo_189 (show 0 ≤ v23 by omega) (show v23 < ((16 : Nat) : Int) by omega) (fun hx => (jba_189 _ _).2 (show 0 ≤ a1 ∧ a1 ≤ 2 by omega)) (fun g25 eg25 => ?_)
              replace eg25 : g25 = jup h 189 v23 a1 := eg25
              have fg25 : jfr w_X12_hull h g25 := jfr_up f0 eg25 (by unfold w_X12_hull; omega)
              have e26 : g25 189 v23 = a1 := jup_s eg25
              refine st_gr jo_176 jr_176_16 ?_
              refine st_gi jo_176 (fun v27 ev27 b28 => ?_)
              replace ev27 : v27 = g25 176 14 := ev27
              replace b28 := (jbf_12_14 jo_176 _).1 b28
              have e29 : g25 176 14 = h 176 14 := jup_o eg25 (by first | exact fun q => absurd q.1 (by decide) | exact fun q => absurd q.2 (by decide) | omega)
              refine st_si jo_190 (show 0 ≤ v27 by omega) (show v27 < ((16 : Nat) : Int) by omega) (fun hx => (jba_190 _ _).2 (show 0 ≤ a2 ∧ a2 ≤ 99 by omega)) (fun g30 eg30 => ?_)
              replace eg30 : g30 = jup g25 190 v27 a2 := eg30
              have fg30 : jfr w_X12_hull h g30 := jfr_up fg25 eg30 (by unfold w_X12_hull; omega)
              have e31 : g30 190 v27 = a2 := jup_s eg30
              refine st_gr jo_176 jr_176_17 ?_
              refine st_gi jo_176 (fun v32 ev32 b33 => ?_)
              replace ev32 : v32 = g30 176 14 := ev32
              replace b33 := (jbf_12_14 jo_176 _).1 b33
              have e34 : g30 176 14 = g25 176 14 := jup_o eg30 (by first | exact fun q => absurd q.1 (by decide) | exact fun q => absurd q.2 (by decide) | omega)
              refine st_si jo_191 (show 0 ≤ v32 by omega) (show v32 < ((16 : Nat) : Int) by omega) (fun hx => (jba_191 _ _).2 (show 0 ≤ a3 ∧ a3 ≤ 2000 by omega)) (fun g35 eg35 => ?_)
              replace eg35 : g35 = jup g30 191 v32 a3 := eg35
              have fg35 : jfr w_X12_hull h g35 := jfr_up fg30 eg35 (by unfold w_X12_hull; omega)
              have e36 : g35 191 v32 = a3 := jup_s eg35
              refine st_gr jo_176 jr_176_18 ?_
              refine st_gi jo_176 (fun v37 ev37 b38 => ?_)
              replace ev37 : v37 = g35 176 14 := ev37
              replace b38 := (jbf_12_14 jo_176 _).1 b38
              have e39 : g35 176 14 = g30 176 14 := jup_o eg35 (by first | exact fun q => absurd q.1 (by decide) | exact fun q => absurd q.2 (by decide) | omega)
              refine st_si jo_192 (show 0 ≤ v37 by omega) (show v37 < ((16 : Nat) : Int) by omega) (fun hx => (jba_192 _ _).2 (show 0 ≤ 0 ∧ 0 ≤ 3 by omega)) (fun g40 eg40 => ?_)
              replace eg40 : g40 = jup g35 192 v37 0 := eg40
              have fg40 : jfr w_X12_hull h g40 := jfr_up fg35 eg40 (by unfold w_X12_hull; omega)
              have e41 : g40 192 v37 = 0 := jup_s eg40
              refine st_gr jo_176 jr_176_19 ?_
              refine st_gi jo_176 (fun v42 ev42 b43 => ?_)
              replace ev42 : v42 = g40 176 14 := ev42
              replace b43 := (jbf_12_14 jo_176 _).1 b43
              have e44 : g40 176 14 = g35 176 14 := jup_o eg40 (by first | exact fun q => absurd q.1 (by decide) | exact fun q => absurd q.2 (by decide) | omega)
              refine st_si jo_193 (show 0 ≤ v42 by omega) (show v42 < ((16 : Nat) : Int) by omega) (fun hx => (jba_193 _ _).2 (show -9 ≤ (-9) ∧ (-9) ≤ 5 by omega)) (fun g45 eg45 => ?_)
              replace eg45 : g45 = jup g40 193 v42 (-9) := eg45
              have fg45 : jfr w_X12_hull h g45 := jfr_up fg40 eg45 (by unfold w_X12_hull; omega)
              have e46 : g45 193 v42 = (-9) := jup_s eg45
              refine st_gr jo_176 jr_176_24 ?_
              refine st_gi jo_176 (fun v47 ev47 b48 => ?_)
              replace ev47 : v47 = g45 176 14 := ev47
              replace b48 := (jbf_12_14 jo_176 _).1 b48
              have e49 : g45 176 14 = g40 176 14 := jup_o eg45 (by first | exact fun q => absurd q.1 (by decide) | exact fun q => absurd q.2 (by decide) | omega)
              refine st_si jo_198 (show 0 ≤ v47 by omega) (show v47 < ((16 : Nat) : Int) by omega) (fun hx => (jba_198 _ _).2 hx) (fun g50 eg50 => ?_)
              replace eg50 : g50 = jup g45 198 v47 (-9) := eg50
              have fg50 : jfr w_X12_hull h g50 := jfr_up fg45 eg50 (by unfold w_X12_hull; omega)
              have e51 : g50 198 v47 = (-9) := jup_s eg50
              refine st_gi jo_176 (fun v52 ev52 b53 => ?_)
              replace ev52 : v52 = g50 176 14 := ev52
              replace b53 := (jbf_12_14 jo_176 _).1 b53
              have e54 : g50 176 14 = g45 176 14 := jup_o eg50 (by first | exact fun q => absurd q.1 (by decide) | exact fun q => absurd q.2 (by decide) | omega)
              have e55 : jw32 (v52 + 1) = v52 + 1 := jzj32 (by omega)
              refine st_pi jo_176 (fun hx => (jbf_12_14 jo_176 _).2 (show 0 ≤ jw32 (v52 + 1) ∧ jw32 (v52 + 1) ≤ 16 by omega)) (fun g56 eg56 => ?_)
              replace eg56 : g56 = jup g50 176 14 (jw32 (v52 + 1)) := eg56
              have fg56 : jfr w_X12_hull h g56 := jfr_up fg50 eg56 (by unfold w_X12_hull; omega)
              have e57 : g56 176 14 = jw32 (v52 + 1) := jup_s eg56
              refine st_gi jo_176 (fun v58 ev58 b59 => ?_)
              replace ev58 : v58 = g56 176 14 := ev58
              replace b59 := (jbf_12_14 jo_176 _).1 b59
              have e60 : jw32 (v58 - 1) = v58 - 1 := jzj32 (by omega)
              have e61 : g25 176 14 = h 176 14 := (jup_o eg25 (by first | exact fun q => absurd q.1 (by decide) | exact fun q => absurd q.2 (by decide) | omega))
              have e62 : g30 176 14 = h 176 14 := ((jup_o eg30 (by first | exact fun q => absurd q.1 (by decide) | exact fun q => absurd q.2 (by decide) | omega)).trans (jup_o eg25 (by first | exact fun q => absurd q.1 (by decide) | exact fun q => absurd q.2 (by decide) | omega)))
              have e63 : g35 176 14 = h 176 14 := ((jup_o eg35 (by first | exact fun q => absurd q.1 (by decide) | exact fun q => absurd q.2 (by decide) | omega)).trans ((jup_o eg30 (by first | exact fun q => absurd q.1 (by decide) | exact fun q => absurd q.2 (by decide) | omega)).trans (jup_o eg25 (by first | exact fun q => absurd q.1 (by decide) | exact fun q => absurd q.2 (by decide) | omega))))
              have e64 : g40 176 14 = h 176 14 := ((jup_o eg40 (by first | exact fun q => absurd q.1 (by decide) | exact fun q => absurd q.2 (by decide) | omega)).trans ((jup_o eg35 (by first | exact fun q => absurd q.1 (by decide) | exact fun q => absurd q.2 (by decide) | omega)).trans ((jup_o eg30 (by first | exact fun q => absurd q.1 (by decide) | exact fun q => absurd q.2 (by decide) | omega)).trans (jup_o eg25 (by first | exact fun q => absurd q.1 (by decide) | exact fun q => absurd q.2 (by decide) | omega)))))
              have e65 : g45 176 14 = h 176 14 := ((jup_o eg45 (by first | exact fun q => absurd q.1 (by decide) | exact fun q => absurd q.2 (by decide) | omega)).trans ((jup_o eg40 (by first | exact fun q => absurd q.1 (by decide) | exact fun q => absurd q.2 (by decide) | omega)).trans ((jup_o eg35 (by first | exact fun q => absurd q.1 (by decide) | exact fun q => absurd q.2 (by decide) | omega)).trans ((jup_o eg30 (by first | exact fun q => absurd q.1 (by decide) | exact fun q => absurd q.2 (by decide) | omega)).trans (jup_o eg25 (by first | exact fun q => absurd q.1 (by decide) | exact fun q => absurd q.2 (by decide) | omega))))))
              have e66 : g50 176 14 = h 176 14 := ((jup_o eg50 (by first | exact fun q => absurd q.1 (by decide) | exact fun q => absurd q.2 (by decide) | omega)).trans ((jup_o eg45 (by first | exact fun q => absurd q.1 (by decide) | exact fun q => absurd q.2 (by decide) | omega)).trans ((jup_o eg40 (by first | exact fun q => absurd q.1 (by decide) | exact fun q => absurd q.2 (by decide) | omega)).trans ((jup_o eg35 (by first | exact fun q => absurd q.1 (by decide) | exact fun q => absurd q.2 (by decide) | omega)).trans ((jup_o eg30 (by first | exact fun q => absurd q.1 (by decide) | exact fun q => absurd q.2 (by decide) | omega)).trans (jup_o eg25 (by first | exact fun q => absurd q.1 (by decide) | exact fun q => absurd q.2 (by decide) | omega)))))))
              have rv67 : v20 = h 176 14 := by omega
              subst rv67
              have rv68 : v23 = h 176 14 := by omega
              subst rv68
              have rv69 : v27 = h 176 14 := by omega
              subst rv69
              have rv70 : v32 = h 176 14 := by omega
              subst rv70
              have rv71 : v37 = h 176 14 := by omega
              subst rv71
              have rv72 : v42 = h 176 14 := by omega
              subst rv72
              have rv73 : v47 = h 176 14 := by omega
              subst rv73
              have rv74 : v52 = h 176 14 := by omega
              subst rv74
              have hq75 : ∀ i k : Int, ¬ i = 219 → g56 i k = (jup (jup (jup (jup (jup (jup (jup h 189 (h 176 14) a1) 190 (h 176 14) a2) 191 (h 176 14) a3) 192 (h 176 14) 0) 193 (h 176 14) (-9)) 198 (h 176 14) (-9)) 176 14 (h 176 14 + 1)) i k := fun i k p1 => ((congrFun (congrFun eg56 i) k).trans (jup_cc (by omega) (by omega) (by first | rfl | omega | exact congrArg jw32 (by omega)) ((congrFun (congrFun eg50 i) k).trans (jup_cc (by omega) (by omega) (by first | rfl | omega | exact congrArg jw32 (by omega)) ((congrFun (congrFun eg45 i) k).trans (jup_cc (by omega) (by omega) (by first | rfl | omega | exact congrArg jw32 (by omega)) ((congrFun (congrFun eg40 i) k).trans (jup_cc (by omega) (by omega) (by first | rfl | omega | exact congrArg jw32 (by omega)) ((congrFun (congrFun eg35 i) k).trans (jup_cc (by omega) (by omega) (by first | rfl | omega | exact congrArg jw32 (by omega)) ((congrFun (congrFun eg30 i) k).trans (jup_cc (by omega) (by omega) (by first | rfl | omega | exact congrArg jw32 (by omega)) ((congrFun (congrFun eg25 i) k).trans (jup_cc (by omega) (by omega) (by first | rfl | omega | exact congrArg jw32 (by omega)) rfl))))))))))))))
              exact st_r0 (ls := []) ⟨rfl, rfl, fg56, jw32 (v58 - 1), rfl, (by omega), (by refine ⟨by unfold P_X12_hull; exact Or.inr (Or.inr (Or.inr ⟨by omega, by omega, hq75⟩)), fun b9 => absurd b9 (by omega)⟩)⟩
            · replace c22 : v20 = 16 := by first | exact c22 | exact Int.not_le.mp c22 | exact Int.not_lt.mp c22 | exact Decidable.not_not.mp c22
              show jGo E l 59 229 229 _ 52 [.inr (.inr (.inl 176)), .inl a1, .inl a2, .inl a3] [] 229 jr0 h
              refine jGo_blk qX12_hull_52 ?_
              refine st_cv (na := 1) (st := [.inl (-6), .inr (.inr (.inl 176))]) jo_176 rfl rfl rfl (c_X12_refuse (-6) h (by omega)) rfl ?_
              rintro _ _ g77 ⟨rfl, ft76, t76, rfl, ht76, zt76⟩ kt76
              replace kt76 : -2147483648 ≤ t76 ∧ t76 ≤ 2147483647 := kt76
              replace ht76 : -7 ≤ t76 ∧ t76 ≤ -1 := ht76
              have fg77 : jfr w_X12_hull h g77 := jfr_tr f0 ft76 ws_X12_refuse__X12_hull
              replace zt76 : t76 = (-6 : Int) := zt76
              have e78 : g77 176 14 = h 176 14 := ft76 176 14 (by unfold w_X12_refuse; omega)
              have rv79 : v20 = h 176 14 := by omega
              subst rv79
              have hs80 : ∀ i k : Int, ¬ i = 219 → g77 i k = h i k := fun i k p1 => (ft76 i k (by first | exact p1 | (unfold w_X12_refuse; omega)))
              exact st_r0 (ls := []) ⟨rfl, rfl, fg77, t76, rfl, (by omega), (by refine ⟨by unfold P_X12_hull; by_cases zz : t76 = -4 <;> first | exact Or.inl ⟨by omega, hs80⟩ | exact Or.inr (Or.inl ⟨by omega, hs80⟩) | exact Or.inr (Or.inr (Or.inl ⟨by omega, hs80⟩)), fun _ i k q9 => ?_⟩; exact (ft76 i k (jzma_w_X12_refuse q9)))⟩
      · replace c9 : a3 < 0 := by first | exact c9 | exact Int.not_le.mp c9 | exact Int.not_lt.mp c9 | exact Decidable.not_not.mp c9
        show jGo E l 59 229 229 _ 23 [.inr (.inr (.inl 176)), .inl a1, .inl a2, .inl a3] [] 229 jr0 h
        refine jGo_blk qX12_hull_23 ?_
        refine st_cv (na := 1) (st := [.inl (-4), .inr (.inr (.inl 176))]) jo_176 rfl rfl rfl (c_X12_refuse (-4) h (by omega)) rfl ?_
        rintro _ _ g82 ⟨rfl, ft81, t81, rfl, ht81, zt81⟩ kt81
        replace kt81 : -2147483648 ≤ t81 ∧ t81 ≤ 2147483647 := kt81
        replace ht81 : -7 ≤ t81 ∧ t81 ≤ -1 := ht81
        have fg82 : jfr w_X12_hull h g82 := jfr_tr f0 ft81 ws_X12_refuse__X12_hull
        replace zt81 : t81 = (-4 : Int) := zt81
        have e83 : g82 176 14 = h 176 14 := ft81 176 14 (by unfold w_X12_refuse; omega)
        have hs84 : ∀ i k : Int, ¬ i = 219 → g82 i k = h i k := fun i k p1 => (ft81 i k (by first | exact p1 | (unfold w_X12_refuse; omega)))
        exact st_r0 (ls := []) ⟨rfl, rfl, fg82, t81, rfl, (by omega), (by refine ⟨by unfold P_X12_hull; by_cases zz : t81 = -4 <;> first | exact Or.inl ⟨by omega, hs84⟩ | exact Or.inr (Or.inl ⟨by omega, hs84⟩) | exact Or.inr (Or.inr (Or.inl ⟨by omega, hs84⟩)), fun _ i k q9 => ?_⟩; exact (ft81 i k (jzma_w_X12_refuse q9)))⟩
  · replace c3 : t1 = 0 := by first | exact c3 | exact Int.not_le.mp c3 | exact Int.not_lt.mp c3 | exact Decidable.not_not.mp c3
    refine st_cv (na := 1) (st := [.inl (-1), .inr (.inr (.inl 176))]) jo_176 rfl rfl rfl (c_X12_refuse (-1) h (by omega)) rfl ?_
    rintro _ _ g86 ⟨rfl, ft85, t85, rfl, ht85, zt85⟩ kt85
    replace kt85 : -2147483648 ≤ t85 ∧ t85 ≤ 2147483647 := kt85
    replace ht85 : -7 ≤ t85 ∧ t85 ≤ -1 := ht85
    have fg86 : jfr w_X12_hull h g86 := jfr_tr f0 ft85 ws_X12_refuse__X12_hull
    replace zt85 : t85 = (-1 : Int) := zt85
    have e87 : g86 176 14 = h 176 14 := ft85 176 14 (by unfold w_X12_refuse; omega)
    have hs88 : ∀ i k : Int, ¬ i = 219 → g86 i k = h i k := fun i k p1 => (ft85 i k (by first | exact p1 | (unfold w_X12_refuse; omega)))
    exact st_r0 (ls := []) ⟨rfl, rfl, fg86, t85, rfl, (by omega), (by refine ⟨by unfold P_X12_hull; by_cases zz : t85 = -4 <;> first | exact Or.inl ⟨by omega, hs88⟩ | exact Or.inr (Or.inl ⟨by omega, hs88⟩) | exact Or.inr (Or.inr (Or.inl ⟨by omega, hs88⟩)), fun _ i k q9 => ?_⟩; exact (ft85 i k (jzma_w_X12_refuse q9)))⟩

def k_X11_isHull (a1 : Int) (h : JH) (v : Option JV) (r' g : JH) : Prop := r' = jr0 ∧ h = g ∧ ∃ x : Int, v = some (.inl x) ∧ (0 ≤ x ∧ x ≤ 1) ∧ ((x = 1 ∧ 0 ≤ a1 ∧ a1 < h 29 4 ∧ h 29 4 ≤ 16) ∨ (x = 0 ∧ ¬ (0 ≤ a1 ∧ a1 < h 29 4)))
set_option maxHeartbeats 4000000 in
theorem c_X11_isHull {E : JE} {l : Launch} (a1 : Int) (h : JH) : jMt E l 60 [.inr (.inr (.inl 0)), .inl a1] 229 jr0 h (k_X11_isHull a1 h) := by
  refine jMt0 (nL := 2) (ls := [.inr (.inr (.inl 0)), .inl a1]) (by decide +kernel) (by decide +kernel) (by decide +kernel) rfl rfl ?_
  refine jGo_blk qX11_isHull_0 ?_
  refine st_gr jo_0 jr_0_5 ?_
  refine st_gi jo_29 (fun v1 ev1 b2 => ?_)
  replace ev1 : v1 = h 29 4 := ev1
  replace b2 := (jbf_10_4 jo_29 _).1 b2
  refine st_cs (na := 2) (st := [.inl v1, .inl a1]) rfl rfl rfl (c_X11_within a1 v1 h) rfl ?_
  rintro _ _ _ ⟨rfl, rfl, t3, rfl, ht3, zt3⟩ kt3
  replace kt3 : -2147483648 ≤ t3 ∧ t3 ≤ 2147483647 := kt3
  replace ht3 : 0 ≤ t3 ∧ t3 ≤ 1 := ht3
  replace zt3 : (t3 = 1 ∧ 0 ≤ a1 ∧ a1 < v1) ∨ (t3 = 0 ∧ ¬ (0 ≤ a1 ∧ a1 < v1)) := zt3
  exact st_r1 (ls := []) (show (t3 : Int) = 0 ∨ (t3 : Int) = 1 by omega) ⟨rfl, rfl, rfl, t3, rfl, (by omega), (by omega)⟩

def k_X4_isUnderWay (a0 : Int) (h : JH) (v : Option JV) (r' g : JH) : Prop := r' = jr0 ∧ h = g ∧ ∃ x : Int, v = some (.inl x) ∧ (0 ≤ x ∧ x ≤ 1) ∧ ((x = 1 ∧ (h a0 3 = 0 ∨ h a0 3 = 1)) ∨ (x = 0 ∧ ¬ (h a0 3 = 0 ∨ h a0 3 = 1)))
set_option maxHeartbeats 4000000 in
theorem c_X4_isUnderWay {E : JE} {l : Launch} (a0 : Int) (h : JH) (ha0 : jHl a0) : jMt E l 61 [.inr (.inr (.inl a0))] 229 jr0 h (k_X4_isUnderWay a0 h) := by
  refine jMt0 (nL := 1) (ls := [.inr (.inr (.inl a0))]) (by decide +kernel) (by decide +kernel) (by decide +kernel) rfl rfl ?_
  refine jGo_blk qX4_isUnderWay_0 ?_
  refine st_gi ha0.1 (fun v1 ev1 b2 => ?_)
  replace ev1 : v1 = h a0 3 := ev1
  replace b2 := (jbf_4_3 ha0.1 _).1 b2
  refine And.intro (fun c3 => ?_) (fun c3 => ?_)
  · replace c3 : v1 = 0 := c3
    show jGo E l 61 229 229 _ 15 [.inr (.inr (.inl a0))] [] 229 jr0 h
    refine jGo_blk qX4_isUnderWay_15 ?_
    show jGo E l 61 229 229 _ 20 [.inr (.inr (.inl a0))] [.inl 1] 229 jr0 h
    refine jGo_blk qX4_isUnderWay_20 ?_
    exact st_r1 (ls := []) (show (1 : Int) = 0 ∨ (1 : Int) = 1 by omega) ⟨rfl, rfl, rfl, 1, rfl, (by omega), (by omega)⟩
  · replace c3 : ¬ v1 = 0 := by first | exact c3 | exact Int.not_le.mp c3 | exact Int.not_lt.mp c3 | exact Decidable.not_not.mp c3
    refine st_gi ha0.1 (fun v4 ev4 b5 => ?_)
    replace ev4 : v4 = h a0 3 := ev4
    replace b5 := (jbf_4_3 ha0.1 _).1 b5
    refine And.intro (fun c6 => ?_) (fun c6 => ?_)
    · replace c6 : ¬ v4 = 1 := c6
      show jGo E l 61 229 229 _ 19 [.inr (.inr (.inl a0))] [] 229 jr0 h
      refine jGo_blk qX4_isUnderWay_19 ?_
      show jGo E l 61 229 229 _ 20 [.inr (.inr (.inl a0))] [.inl 0] 229 jr0 h
      refine jGo_blk qX4_isUnderWay_20 ?_
      exact st_r1 (ls := []) (show (0 : Int) = 0 ∨ (0 : Int) = 1 by omega) ⟨rfl, rfl, rfl, 0, rfl, (by omega), (by omega)⟩
    · replace c6 : v4 = 1 := by first | exact c6 | exact Int.not_le.mp c6 | exact Int.not_lt.mp c6 | exact Decidable.not_not.mp c6
      show jGo E l 61 229 229 _ 15 [.inr (.inr (.inl a0))] [] 229 jr0 h
      refine jGo_blk qX4_isUnderWay_15 ?_
      show jGo E l 61 229 229 _ 20 [.inr (.inr (.inl a0))] [.inl 1] 229 jr0 h
      refine jGo_blk qX4_isUnderWay_20 ?_
      exact st_r1 (ls := []) (show (1 : Int) = 0 ∨ (1 : Int) = 1 by omega) ⟨rfl, rfl, rfl, 1, rfl, (by omega), (by omega)⟩

def w_X11_priority (i k : Int) : Prop := (i = 1) ∨ (36 ≤ i ∧ i ≤ 83) ∨ (i = 111 ∧ 9 ≤ k ∧ k ≤ 11)
theorem ws_X7_forget__X11_priority (i k : Int) (q : w_X7_forget i k) : w_X11_priority i k := by
  unfold w_X7_forget at q; unfold w_X11_priority
  exact (Or.inr (Or.inr (by omega)))
theorem ws_X11_refused__X11_priority (i k : Int) (q : w_X11_refused i k) : w_X11_priority i k := by
  unfold w_X11_refused at q; unfold w_X11_priority
  exact (Or.inl (by omega))
def k_X11_priority (a1 : Int) (a2 : Int) (h : JH) (v : Option JV) (r' g : JH) : Prop := r' = jr0 ∧ jfr w_X11_priority h g ∧ ∃ x : Int, v = some (.inl x) ∧ (-7 ≤ x ∧ x ≤ 99) ∧ ((P_X11_priority a1 a2 x h g) ∧ jFg (x < 0) h g)
set_option maxHeartbeats 4000000 in
theorem c_X11_priority {E : JE} {l : Launch} (a1 : Int) (a2 : Int) (h : JH) : jMt E l 62 [.inr (.inr (.inl 0)), .inl a1, .inl a2] 229 jr0 h (k_X11_priority a1 a2 h) := by
  refine jMt0 (nL := 5) (ls := [.inr (.inr (.inl 0)), .inl a1, .inl a2, .inr (.inr (.inr ())), .inr (.inr (.inr ()))]) (by decide +kernel) (by decide +kernel) (by decide +kernel) rfl rfl ?_
  have f0 : jfr w_X11_priority h h := jfr_rf _ _
  refine jGo_blk qX11_priority_0 ?_
  refine st_cv (na := 1) (st := [.inl a1, .inr (.inr (.inl 0))]) jo_0 rfl rfl rfl (c_X11_isHull a1 h) rfl ?_
  rintro _ _ _ ⟨rfl, rfl, t1, rfl, ht1, zt1⟩ kt1
  replace kt1 : -2147483648 ≤ t1 ∧ t1 ≤ 2147483647 := kt1
  replace ht1 : 0 ≤ t1 ∧ t1 ≤ 1 := ht1
  replace zt1 : (t1 = 1 ∧ 0 ≤ a1 ∧ a1 < h 29 4 ∧ h 29 4 ≤ 16) ∨ (t1 = 0 ∧ ¬ (0 ≤ a1 ∧ a1 < h 29 4)) := zt1
  refine And.intro (fun c3 => ?_) (fun c3 => ?_)
  · replace c3 : ¬ t1 = 0 := c3
    show jGo E l 62 229 229 _ 12 [.inr (.inr (.inl 0)), .inl a1, .inl a2, .inr (.inr (.inr ())), .inr (.inr (.inr ()))] [] 229 jr0 h
    refine jGo_blk qX11_priority_12 ?_
    refine st_gr jo_0 jr_0_5 ?_
    refine st_gr jo_29 jr_29_3 ?_
    refine st_ar jo_33 (by decide) (show 0 ≤ a1 by omega) (show a1 < ((16 : Nat) : Int) by omega) (fun u4 eu4 => ?_)
    replace eu4 : u4 = jr0 33 a1 := eu4
    have qu4 : u4 = 36 + 3 * a1 := eu4.trans (jhul_33 a1 (by omega) (by omega)).1
    have hu4 : jHl u4 := by rw [eu4]; exact (jhul_33 a1 (by omega) (by omega)).2
    refine st_cv (na := 0) (st := [.inr (.inr (.inl u4))]) hu4.1 rfl rfl rfl (c_X4_isUnderWay u4 h hu4) rfl ?_
    rintro _ _ _ ⟨rfl, rfl, t5, rfl, ht5, zt5⟩ kt5
    replace kt5 : -2147483648 ≤ t5 ∧ t5 ≤ 2147483647 := kt5
    replace ht5 : 0 ≤ t5 ∧ t5 ≤ 1 := ht5
    replace zt5 : (t5 = 1 ∧ (h u4 3 = 0 ∨ h u4 3 = 1)) ∨ (t5 = 0 ∧ ¬ (h u4 3 = 0 ∨ h u4 3 = 1)) := zt5
    refine And.intro (fun c7 => ?_) (fun c7 => ?_)
    · replace c7 : ¬ t5 = 0 := c7
      show jGo E l 62 229 229 _ 32 [.inr (.inr (.inl 0)), .inl a1, .inl a2, .inr (.inr (.inr ())), .inr (.inr (.inr ()))] [] 229 jr0 h
      refine jGo_blk qX11_priority_32 ?_
      refine st_cs (na := 3) (st := [.inl 99, .inl 0, .inl a2]) rfl rfl rfl (c_X11_outside a2 0 99 h) rfl ?_
      rintro _ _ _ ⟨rfl, rfl, t8, rfl, ht8, zt8⟩ kt8
      replace kt8 : -2147483648 ≤ t8 ∧ t8 ≤ 2147483647 := kt8
      replace ht8 : -6 ≤ t8 ∧ t8 ≤ 0 := ht8
      replace zt8 : (t8 = -4 ∧ a2 < (0 : Int)) ∨ (t8 = -6 ∧ (0 : Int) ≤ a2 ∧ (99 : Int) < a2) ∨ (t8 = 0 ∧ (0 : Int) ≤ a2 ∧ a2 ≤ (99 : Int)) := zt8
      show jGo E l 62 229 229 _ 39 [.inr (.inr (.inl 0)), .inl a1, .inl a2, .inr (.inr (.inr ())), .inr (.inr (.inr ()))] [.inl t8] 229 jr0 h
      refine jGo_blk qX11_priority_39 ?_
      refine And.intro (fun c10 => ?_) (fun c10 => ?_)
      · replace c10 : t8 = 0 := c10
        show jGo E l 62 229 229 _ 50 [.inr (.inr (.inl 0)), .inl a1, .inl a2, .inl t8, .inr (.inr (.inr ()))] [] 229 jr0 h
        refine jGo_blk qX11_priority_50 ?_
        refine st_gr jo_0 jr_0_11 ?_
        refine st_cv (na := 0) (st := [.inr (.inr (.inl 111))]) jo_111 rfl rfl rfl (c_X7_forget h) rfl ?_
        rintro _ _ g12 ⟨rfl, ft11, rfl, zt11⟩ kt11
        have fg12 : jfr w_X11_priority h g12 := jfr_tr f0 ft11 ws_X7_forget__X11_priority
        replace zt11 : g12 111 9 = 0 ∧ g12 111 10 = 0 ∧ g12 111 11 = 0 := zt11
        refine st_gr jo_0 jr_0_5 ?_
        refine st_gr jo_29 jr_29_3 ?_
        refine st_ar jo_33 (by decide) (show 0 ≤ a1 by omega) (show a1 < ((16 : Nat) : Int) by omega) (fun u13 eu13 => ?_)
        replace eu13 : u13 = jr0 33 a1 := eu13
        have qu13 : u13 = 36 + 3 * a1 := eu13.trans (jhul_33 a1 (by omega) (by omega)).1
        have hu13 : jHl u13 := by rw [eu13]; exact (jhul_33 a1 (by omega) (by omega)).2
        refine st_gi hu13.1 (fun v14 ev14 b15 => ?_)
        replace ev14 : v14 = g12 u13 1 := ev14
        replace b15 := (jbf_4_1 hu13.1 _).1 b15
        refine st_gr jo_0 jr_0_5 ?_
        refine st_gr jo_29 jr_29_3 ?_
        refine st_ar jo_33 (by decide) (show 0 ≤ a1 by omega) (show a1 < ((16 : Nat) : Int) by omega) (fun u16 eu16 => ?_)
        replace eu16 : u16 = jr0 33 a1 := eu16
        have qu16 : u16 = 36 + 3 * a1 := eu16.trans (jhul_33 a1 (by omega) (by omega)).1
        have hu16 : jHl u16 := by rw [eu16]; exact (jhul_33 a1 (by omega) (by omega)).2
        refine st_pi hu16.1 (fun hx => (jbf_4_1 hu16.1 _).2 (show 0 ≤ a2 ∧ a2 ≤ 99 by omega)) (fun g17 eg17 => ?_)
        replace eg17 : g17 = jup g12 u16 1 a2 := eg17
        have fg17 : jfr w_X11_priority h g17 := jfr_up fg12 eg17 (by unfold w_X11_priority; omega)
        have e18 : g17 u16 1 = a2 := jup_s eg17
        have e19 : g12 u13 1 = h u13 1 := (ft11 u13 1 (by unfold w_X7_forget; omega))
        have e20 : h u13 1 = h (36 + 3 * a1) 1 := by rw [qu13]
        have e21 : h u4 3 = h (36 + 3 * a1) 3 := by rw [qu4]
        have e22 : h u13 3 = h (36 + 3 * a1) 3 := by rw [qu13]
        have e23 : h u16 3 = h (36 + 3 * a1) 3 := by rw [qu16]
        have rv24 : v14 = h (36 + 3 * a1) 1 := by omega
        subst rv24
        have hq25 : ∀ i k : Int, ¬ i = 1 → ¬ i = 111 → g17 i k = (jup h (36 + 3 * a1) 1 a2) i k := fun i k p1 p2 => ((congrFun (congrFun eg17 i) k).trans (jup_cc (by omega) (by omega) (by first | rfl | omega | exact congrArg jw32 (by omega)) (ft11 i k (by unfold w_X7_forget; omega))))
        exact st_r0 (ls := []) ⟨rfl, rfl, fg17, (h (36 + 3 * a1) 1), rfl, (by omega), (by refine ⟨by unfold P_X11_priority; exact Or.inr (Or.inr (Or.inr (Or.inr ⟨by omega, by omega, hq25⟩))), Or.inl ?_⟩; exact ⟨((jup_o eg17 (by first | exact fun q => absurd q.1 (by decide) | exact fun q => absurd q.2 (by decide) | omega))).trans zt11.1, ((jup_o eg17 (by first | exact fun q => absurd q.1 (by decide) | exact fun q => absurd q.2 (by decide) | omega))).trans zt11.2.1, ((jup_o eg17 (by first | exact fun q => absurd q.1 (by decide) | exact fun q => absurd q.2 (by decide) | omega))).trans zt11.2.2⟩)⟩
      · replace c10 : ¬ t8 = 0 := by first | exact c10 | exact Int.not_le.mp c10 | exact Int.not_lt.mp c10 | exact Decidable.not_not.mp c10
        refine st_cv (na := 1) (st := [.inl t8, .inr (.inr (.inl 0))]) jo_0 rfl rfl rfl (c_X11_refused t8 h (by omega)) rfl ?_
        rintro _ _ g27 ⟨rfl, ft26, t26, rfl, ht26, zt26⟩ kt26
        replace kt26 : -2147483648 ≤ t26 ∧ t26 ≤ 2147483647 := kt26
        replace ht26 : -7 ≤ t26 ∧ t26 ≤ -1 := ht26
        have fg27 : jfr w_X11_priority h g27 := jfr_tr f0 ft26 ws_X11_refused__X11_priority
        replace zt26 : t26 = t8 := zt26
        have e28 : h u4 3 = h (36 + 3 * a1) 3 := by rw [qu4]
        have hs29 : ∀ i k : Int, ¬ i = 1 → ¬ i = 111 → g27 i k = h i k := fun i k p1 p2 => (ft26 i k (by unfold w_X11_refused; omega))
        exact st_r0 (ls := []) ⟨rfl, rfl, fg27, t26, rfl, (by omega), (by refine ⟨by unfold P_X11_priority; by_cases zz : t26 = -4 <;> first | exact Or.inl ⟨by omega, hs29⟩ | exact Or.inr (Or.inl ⟨by omega, hs29⟩) | exact Or.inr (Or.inr (Or.inl ⟨by omega, hs29⟩)) | exact Or.inr (Or.inr (Or.inr (Or.inl ⟨by omega, hs29⟩))), Or.inr ⟨by omega, fun i k p1 => (ft26 i k (by first | exact p1 | (unfold w_X11_refused; omega)))⟩⟩)⟩
    · replace c7 : t5 = 0 := by first | exact c7 | exact Int.not_le.mp c7 | exact Int.not_lt.mp c7 | exact Decidable.not_not.mp c7
      show jGo E l 62 229 229 _ 39 [.inr (.inr (.inl 0)), .inl a1, .inl a2, .inr (.inr (.inr ())), .inr (.inr (.inr ()))] [.inl (-3)] 229 jr0 h
      refine jGo_blk qX11_priority_39 ?_
      refine And.intro (fun c30 => ?_) (fun c30 => ?_)
      · replace c30 : (-3 : Int) = 0 := c30
        exfalso; omega
      · replace c30 : ¬ (-3 : Int) = 0 := by first | exact c30 | exact Int.not_le.mp c30 | exact Int.not_lt.mp c30 | exact Decidable.not_not.mp c30
        refine st_cv (na := 1) (st := [.inl (-3), .inr (.inr (.inl 0))]) jo_0 rfl rfl rfl (c_X11_refused (-3) h (by omega)) rfl ?_
        rintro _ _ g32 ⟨rfl, ft31, t31, rfl, ht31, zt31⟩ kt31
        replace kt31 : -2147483648 ≤ t31 ∧ t31 ≤ 2147483647 := kt31
        replace ht31 : -7 ≤ t31 ∧ t31 ≤ -1 := ht31
        have fg32 : jfr w_X11_priority h g32 := jfr_tr f0 ft31 ws_X11_refused__X11_priority
        replace zt31 : t31 = (-3 : Int) := zt31
        have e33 : h u4 3 = h (36 + 3 * a1) 3 := by rw [qu4]
        have hs34 : ∀ i k : Int, ¬ i = 1 → ¬ i = 111 → g32 i k = h i k := fun i k p1 p2 => (ft31 i k (by unfold w_X11_refused; omega))
        exact st_r0 (ls := []) ⟨rfl, rfl, fg32, t31, rfl, (by omega), (by refine ⟨by unfold P_X11_priority; by_cases zz : t31 = -4 <;> first | exact Or.inl ⟨by omega, hs34⟩ | exact Or.inr (Or.inl ⟨by omega, hs34⟩) | exact Or.inr (Or.inr (Or.inl ⟨by omega, hs34⟩)) | exact Or.inr (Or.inr (Or.inr (Or.inl ⟨by omega, hs34⟩))), Or.inr ⟨by omega, fun i k p1 => (ft31 i k (by first | exact p1 | (unfold w_X11_refused; omega)))⟩⟩)⟩
  · replace c3 : t1 = 0 := by first | exact c3 | exact Int.not_le.mp c3 | exact Int.not_lt.mp c3 | exact Decidable.not_not.mp c3
    show jGo E l 62 229 229 _ 39 [.inr (.inr (.inl 0)), .inl a1, .inl a2, .inr (.inr (.inr ())), .inr (.inr (.inr ()))] [.inl (-1)] 229 jr0 h
    refine jGo_blk qX11_priority_39 ?_
    refine And.intro (fun c35 => ?_) (fun c35 => ?_)
    · replace c35 : (-1 : Int) = 0 := c35
      exfalso; omega
    · replace c35 : ¬ (-1 : Int) = 0 := by first | exact c35 | exact Int.not_le.mp c35 | exact Int.not_lt.mp c35 | exact Decidable.not_not.mp c35
      refine st_cv (na := 1) (st := [.inl (-1), .inr (.inr (.inl 0))]) jo_0 rfl rfl rfl (c_X11_refused (-1) h (by omega)) rfl ?_
      rintro _ _ g37 ⟨rfl, ft36, t36, rfl, ht36, zt36⟩ kt36
      replace kt36 : -2147483648 ≤ t36 ∧ t36 ≤ 2147483647 := kt36
      replace ht36 : -7 ≤ t36 ∧ t36 ≤ -1 := ht36
      have fg37 : jfr w_X11_priority h g37 := jfr_tr f0 ft36 ws_X11_refused__X11_priority
      replace zt36 : t36 = (-1 : Int) := zt36
      have hs38 : ∀ i k : Int, ¬ i = 1 → ¬ i = 111 → g37 i k = h i k := fun i k p1 p2 => (ft36 i k (by unfold w_X11_refused; omega))
      exact st_r0 (ls := []) ⟨rfl, rfl, fg37, t36, rfl, (by omega), (by refine ⟨by unfold P_X11_priority; by_cases zz : t36 = -4 <;> first | exact Or.inl ⟨by omega, hs38⟩ | exact Or.inr (Or.inl ⟨by omega, hs38⟩) | exact Or.inr (Or.inr (Or.inl ⟨by omega, hs38⟩)) | exact Or.inr (Or.inr (Or.inr (Or.inl ⟨by omega, hs38⟩))), Or.inr ⟨by omega, fun i k p1 => (ft36 i k (by first | exact p1 | (unfold w_X11_refused; omega)))⟩⟩)⟩
