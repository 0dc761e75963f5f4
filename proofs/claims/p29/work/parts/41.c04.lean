def w_X11_decree (i k : Int) : Prop := (i = 1) ∨ (12 ≤ i ∧ i ≤ 14) ∨ (i = 11 ∧ k = 0) ∨ (i = 111 ∧ 9 ≤ k ∧ k ≤ 11)
theorem ws_X11_refused__X11_decree (i k : Int) (q : w_X11_refused i k) : w_X11_decree i k := by
  unfold w_X11_refused at q; unfold w_X11_decree
  exact (Or.inl (by omega))
theorem ws_X7_forget__X11_decree (i k : Int) (q : w_X7_forget i k) : w_X11_decree i k := by
  unfold w_X7_forget at q; unfold w_X11_decree
  exact (Or.inr (Or.inr (Or.inr (by omega))))
theorem ws_X2_insert__X11_decree (i k : Int) (q : w_X2_insert i k) : w_X11_decree i k := by
  unfold w_X2_insert at q; unfold w_X11_decree
  rcases q with q | q
  · exact (Or.inr (Or.inl (by omega)))
  · exact (Or.inr (Or.inr (Or.inl (by omega))))
def k_X11_decree (a1 : Int) (a2 : Int) (a3 : Int) (a4 : Int) (h : JH) (v : Option JV) (r' g : JH) : Prop := r' = jr0 ∧ jfr w_X11_decree h g ∧ ∃ x : Int, v = some (.inl x) ∧ (-7 ≤ x ∧ x ≤ 39) ∧ ((P_X11_decree a1 a2 a3 a4 x h g) ∧ jFg (x < 0) h g)
set_option maxHeartbeats 4000000 in
theorem c_X11_decree {E : JE} {l : Launch} (a1 : Int) (a2 : Int) (a3 : Int) (a4 : Int) (h : JH) : jMt E l 44 [.inr (.inr (.inl 0)), .inl a1, .inl a2, .inl a3, .inl a4] 229 jr0 h (k_X11_decree a1 a2 a3 a4 h) := by
  refine jMt0 (nL := 5) (ls := [.inr (.inr (.inl 0)), .inl a1, .inl a2, .inl a3, .inl a4]) (by decide +kernel) (by decide +kernel) (by decide +kernel) rfl rfl ?_
  have f0 : jfr w_X11_decree h h := jfr_rf _ _
  refine jGo_blk qX11_decree_0 ?_
  refine st_cs (na := 2) (st := [.inl 4, .inl a1]) rfl rfl rfl (c_X11_within a1 4 h) rfl ?_
  rintro _ _ _ ⟨rfl, rfl, t1, rfl, ht1, zt1⟩ kt1
  replace kt1 : -2147483648 ≤ t1 ∧ t1 ≤ 2147483647 := kt1
  replace ht1 : 0 ≤ t1 ∧ t1 ≤ 1 := ht1
  replace zt1 : (t1 = 1 ∧ 0 ≤ a1 ∧ a1 < (4 : Int)) ∨ (t1 = 0 ∧ ¬ (0 ≤ a1 ∧ a1 < (4 : Int))) := zt1
  refine And.intro (fun c3 => ?_) (fun c3 => ?_)
  · replace c3 : t1 = 0 := c3
    show jGo E l 44 229 229 _ 16 [.inr (.inr (.inl 0)), .inl a1, .inl a2, .inl a3, .inl a4] [] 229 jr0 h
    refine jGo_blk qX11_decree_16 ?_
    refine st_cv (na := 1) (st := [.inl (-1), .inr (.inr (.inl 0))]) jo_0 rfl rfl rfl (c_X11_refused (-1) h (by omega)) rfl ?_
    rintro _ _ g5 ⟨rfl, ft4, t4, rfl, ht4, zt4⟩ kt4
    replace kt4 : -2147483648 ≤ t4 ∧ t4 ≤ 2147483647 := kt4
    replace ht4 : -7 ≤ t4 ∧ t4 ≤ -1 := ht4
    have fg5 : jfr w_X11_decree h g5 := jfr_tr f0 ft4 ws_X11_refused__X11_decree
    replace zt4 : t4 = (-1 : Int) := zt4
    have e6 : g5 11 0 = h 11 0 := ft4 11 0 (by unfold w_X11_refused; omega)
    have hs7 : ∀ i k : Int, 12 ≤ i → i ≤ 14 → g5 i k = h i k := fun i k p1 p2 => (ft4 i k (by unfold w_X11_refused; omega))
    exact st_r0 (ls := []) ⟨rfl, rfl, fg5, t4, rfl, (by omega), (by refine ⟨by unfold P_X11_decree; first | exact Or.inl ⟨by omega, by omega, hs7⟩ | exact Or.inr (Or.inl ⟨by omega, by omega, hs7⟩) | exact Or.inr (Or.inr (Or.inl ⟨by omega, by omega, hs7⟩)), Or.inr ⟨by omega, fun i k p1 => (ft4 i k (by first | exact p1 | (unfold w_X11_refused; omega)))⟩⟩)⟩
  · replace c3 : ¬ t1 = 0 := by first | exact c3 | exact Int.not_le.mp c3 | exact Int.not_lt.mp c3 | exact Decidable.not_not.mp c3
    refine st_cs (na := 2) (st := [.inl 4, .inl a2]) rfl rfl rfl (c_X11_within a2 4 h) rfl ?_
    rintro _ _ _ ⟨rfl, rfl, t8, rfl, ht8, zt8⟩ kt8
    replace kt8 : -2147483648 ≤ t8 ∧ t8 ≤ 2147483647 := kt8
    replace ht8 : 0 ≤ t8 ∧ t8 ≤ 1 := ht8
    replace zt8 : (t8 = 1 ∧ 0 ≤ a2 ∧ a2 < (4 : Int)) ∨ (t8 = 0 ∧ ¬ (0 ≤ a2 ∧ a2 < (4 : Int))) := zt8
    refine And.intro (fun c10 => ?_) (fun c10 => ?_)
    · replace c10 : ¬ t8 = 0 := c10
      show jGo E l 44 229 229 _ 22 [.inr (.inr (.inl 0)), .inl a1, .inl a2, .inl a3, .inl a4] [] 229 jr0 h
      refine jGo_blk qX11_decree_22 ?_
      refine st_xi (by decide) jx_k3 (jx_l3 E) (show 0 ≤ a1 by omega) (show a1 < ((4 : Nat) : Int) by omega) (fun v11 ev11 => ?_)
      have bv11 : 0 ≤ v11 ∧ v11 ≤ 1 := by rw [ev11]; exact jx_w3 E a1 (by omega) (by omega)
      replace ev11 : v11 = jxv E (-3) a1 := ev11
      have dv11 := jx_d3 E a1 (by omega) (by omega)
      refine And.intro (fun c12 => ?_) (fun c12 => ?_)
      · replace c12 : a3 < v11 := c12
        show jGo E l 44 229 229 _ 40 [.inr (.inr (.inl 0)), .inl a1, .inl a2, .inl a3, .inl a4] [] 229 jr0 h
        refine jGo_blk qX11_decree_40 ?_
        refine st_cv (na := 1) (st := [.inl (-4), .inr (.inr (.inl 0))]) jo_0 rfl rfl rfl (c_X11_refused (-4) h (by omega)) rfl ?_
        rintro _ _ g14 ⟨rfl, ft13, t13, rfl, ht13, zt13⟩ kt13
        replace kt13 : -2147483648 ≤ t13 ∧ t13 ≤ 2147483647 := kt13
        replace ht13 : -7 ≤ t13 ∧ t13 ≤ -1 := ht13
        have fg14 : jfr w_X11_decree h g14 := jfr_tr f0 ft13 ws_X11_refused__X11_decree
        replace zt13 : t13 = (-4 : Int) := zt13
        have e15 : g14 11 0 = h 11 0 := ft13 11 0 (by unfold w_X11_refused; omega)
        have hs16 : ∀ i k : Int, 12 ≤ i → i ≤ 14 → g14 i k = h i k := fun i k p1 p2 => (ft13 i k (by unfold w_X11_refused; omega))
        exact st_r0 (ls := []) ⟨rfl, rfl, fg14, t13, rfl, (by omega), (by refine ⟨by unfold P_X11_decree; first | exact Or.inl ⟨by omega, by omega, hs16⟩ | exact Or.inr (Or.inl ⟨by omega, by omega, hs16⟩) | exact Or.inr (Or.inr (Or.inl ⟨by omega, by omega, hs16⟩)), Or.inr ⟨by omega, fun i k p1 => (ft13 i k (by first | exact p1 | (unfold w_X11_refused; omega)))⟩⟩)⟩
      · replace c12 : v11 ≤ a3 := by first | exact c12 | exact Int.not_le.mp c12 | exact Int.not_lt.mp c12 | exact Decidable.not_not.mp c12
        refine st_gi jo_0 (fun v17 ev17 b18 => ?_)
        replace ev17 : v17 = h 0 0 := ev17
        replace b18 := (jbf_11_0 jo_0 _).1 b18
        refine And.intro (fun c19 => ?_) (fun c19 => ?_)
        · replace c19 : v17 ≤ a4 := c19
          show jGo E l 44 229 229 _ 47 [.inr (.inr (.inl 0)), .inl a1, .inl a2, .inl a3, .inl a4] [] 229 jr0 h
          refine jGo_blk qX11_decree_47 ?_
          refine st_xi (by decide) jx_k4 (jx_l4 E) (show 0 ≤ a1 by omega) (show a1 < ((4 : Nat) : Int) by omega) (fun v20 ev20 => ?_)
          have bv20 : 9 ≤ v20 ∧ v20 ≤ 200 := by rw [ev20]; exact jx_w4 E a1 (by omega) (by omega)
          replace ev20 : v20 = jxv E (-4) a1 := ev20
          have dv20 := jx_d4 E a1 (by omega) (by omega)
          refine And.intro (fun c21 => ?_) (fun c21 => ?_)
          · replace c21 : v20 < a3 := c21
            show jGo E l 44 229 229 _ 76 [.inr (.inr (.inl 0)), .inl a1, .inl a2, .inl a3, .inl a4] [] 229 jr0 h
            refine jGo_blk qX11_decree_76 ?_
            refine st_cv (na := 1) (st := [.inl (-6), .inr (.inr (.inl 0))]) jo_0 rfl rfl rfl (c_X11_refused (-6) h (by omega)) rfl ?_
            rintro _ _ g23 ⟨rfl, ft22, t22, rfl, ht22, zt22⟩ kt22
            replace kt22 : -2147483648 ≤ t22 ∧ t22 ≤ 2147483647 := kt22
            replace ht22 : -7 ≤ t22 ∧ t22 ≤ -1 := ht22
            have fg23 : jfr w_X11_decree h g23 := jfr_tr f0 ft22 ws_X11_refused__X11_decree
            replace zt22 : t22 = (-6 : Int) := zt22
            have e24 : g23 11 0 = h 11 0 := ft22 11 0 (by unfold w_X11_refused; omega)
            have hs25 : ∀ i k : Int, 12 ≤ i → i ≤ 14 → g23 i k = h i k := fun i k p1 p2 => (ft22 i k (by unfold w_X11_refused; omega))
            exact st_r0 (ls := []) ⟨rfl, rfl, fg23, t22, rfl, (by omega), (by refine ⟨by unfold P_X11_decree; first | exact Or.inl ⟨by omega, by omega, hs25⟩ | exact Or.inr (Or.inl ⟨by omega, by omega, hs25⟩) | exact Or.inr (Or.inr (Or.inl ⟨by omega, by omega, hs25⟩)), Or.inr ⟨by omega, fun i k p1 => (ft22 i k (by first | exact p1 | (unfold w_X11_refused; omega)))⟩⟩)⟩
          · replace c21 : a3 ≤ v20 := by first | exact c21 | exact Int.not_le.mp c21 | exact Int.not_lt.mp c21 | exact Decidable.not_not.mp c21
            refine And.intro (fun c26 => ?_) (fun c26 => ?_)
            · replace c26 : 2000 < a4 := c26
              show jGo E l 44 229 229 _ 76 [.inr (.inr (.inl 0)), .inl a1, .inl a2, .inl a3, .inl a4] [] 229 jr0 h
              refine jGo_blk qX11_decree_76 ?_
              refine st_cv (na := 1) (st := [.inl (-6), .inr (.inr (.inl 0))]) jo_0 rfl rfl rfl (c_X11_refused (-6) h (by omega)) rfl ?_
              rintro _ _ g28 ⟨rfl, ft27, t27, rfl, ht27, zt27⟩ kt27
              replace kt27 : -2147483648 ≤ t27 ∧ t27 ≤ 2147483647 := kt27
              replace ht27 : -7 ≤ t27 ∧ t27 ≤ -1 := ht27
              have fg28 : jfr w_X11_decree h g28 := jfr_tr f0 ft27 ws_X11_refused__X11_decree
              replace zt27 : t27 = (-6 : Int) := zt27
              have e29 : g28 11 0 = h 11 0 := ft27 11 0 (by unfold w_X11_refused; omega)
              have hs30 : ∀ i k : Int, 12 ≤ i → i ≤ 14 → g28 i k = h i k := fun i k p1 p2 => (ft27 i k (by unfold w_X11_refused; omega))
              exact st_r0 (ls := []) ⟨rfl, rfl, fg28, t27, rfl, (by omega), (by refine ⟨by unfold P_X11_decree; first | exact Or.inl ⟨by omega, by omega, hs30⟩ | exact Or.inr (Or.inl ⟨by omega, by omega, hs30⟩) | exact Or.inr (Or.inr (Or.inl ⟨by omega, by omega, hs30⟩)), Or.inr ⟨by omega, fun i k p1 => (ft27 i k (by first | exact p1 | (unfold w_X11_refused; omega)))⟩⟩)⟩
            · replace c26 : a4 ≤ 2000 := by first | exact c26 | exact Int.not_le.mp c26 | exact Int.not_lt.mp c26 | exact Decidable.not_not.mp c26
              refine st_gr jo_0 jr_0_3 ?_
              refine st_gi jo_11 (fun v31 ev31 b32 => ?_)
              replace ev31 : v31 = h 11 0 := ev31
              replace b32 := (jbf_2_0 jo_11 _).1 b32
              refine And.intro (fun c33 => ?_) (fun c33 => ?_)
              · replace c33 : v31 < 40 := c33
                show jGo E l 44 229 229 _ 83 [.inr (.inr (.inl 0)), .inl a1, .inl a2, .inl a3, .inl a4] [] 229 jr0 h
                refine jGo_blk qX11_decree_83 ?_
                refine st_gr jo_0 jr_0_11 ?_
                refine st_cv (na := 0) (st := [.inr (.inr (.inl 111))]) jo_111 rfl rfl rfl (c_X7_forget h) rfl ?_
                rintro _ _ g35 ⟨rfl, ft34, rfl, zt34⟩ kt34
                have fg35 : jfr w_X11_decree h g35 := jfr_tr f0 ft34 ws_X7_forget__X11_decree
                replace zt34 : g35 111 9 = 0 ∧ g35 111 10 = 0 ∧ g35 111 11 = 0 := zt34
                have e36 : g35 11 0 = h 11 0 := ft34 11 0 (by unfold w_X7_forget; omega)
                refine st_gr jo_0 jr_0_3 ?_
                refine st_cs (na := 2) (st := [.inl a2, .inl a1, .inr (.inr (.inl 11))]) rfl rfl rfl (c_X2_slotOf a1 a2 g35 (by omega)) rfl ?_
                rintro _ _ _ ⟨rfl, rfl, t37, rfl, ht37, zt37⟩ kt37
                replace kt37 : -2147483648 ≤ t37 ∧ t37 ≤ 2147483647 := kt37
                replace ht37 : 0 ≤ t37 ∧ t37 ≤ 9 := ht37
                replace zt37 : t37 = jsl a1 a2 := zt37
                have e39 : g35 11 0 = h 11 0 := ft34 11 0 (by unfold w_X7_forget; omega)
                refine st_cv (na := 3) (st := [.inl a4, .inl a3, .inl t37, .inr (.inr (.inl 11))]) jo_11 rfl rfl rfl (c_X2_insert t37 a3 a4 g35 (by omega) (by omega) (by omega) (by omega)) rfl ?_
                rintro _ _ g41 ⟨rfl, ft40, rfl, zt40⟩ kt40
                have fg41 : jfr w_X11_decree h g41 := jfr_tr fg35 ft40 ws_X2_insert__X11_decree
                replace zt40 : jIns t37 a3 a4 g35 g41 := zt40
                have k9 := zt40.1
                refine st_gr jo_0 jr_0_3 ?_
                refine st_gi jo_11 (fun v42 ev42 b43 => ?_)
                replace ev42 : v42 = g41 11 0 := ev42
                replace b43 := (jbf_2_0 jo_11 _).1 b43
                have e44 : jw32 (v42 - 1) = v42 - 1 := jzj32 (by omega)
                have hc45 : jIns (jsl a1 a2) a3 a4 h g41 := jIns_fr (fun i k q1 q2 q3 => (ft34 i k (by unfold w_X7_forget; omega))) (by rw [← zt37]; exact zt40)
                exact st_r0 (ls := []) ⟨rfl, rfl, fg41, jw32 (v42 - 1), rfl, (by omega), (by refine ⟨by unfold P_X11_decree; exact Or.inr (Or.inr (Or.inr ⟨by omega, by omega, by omega, hc45⟩)), Or.inl ?_⟩; exact ⟨((ft40 111 9 (by unfold w_X2_insert; omega))).trans zt34.1, ((ft40 111 10 (by unfold w_X2_insert; omega))).trans zt34.2.1, ((ft40 111 11 (by unfold w_X2_insert; omega))).trans zt34.2.2⟩)⟩
              · replace c33 : 40 ≤ v31 := by first | exact c33 | exact Int.not_le.mp c33 | exact Int.not_lt.mp c33 | exact Decidable.not_not.mp c33
                show jGo E l 44 229 229 _ 76 [.inr (.inr (.inl 0)), .inl a1, .inl a2, .inl a3, .inl a4] [] 229 jr0 h
                refine jGo_blk qX11_decree_76 ?_
                refine st_cv (na := 1) (st := [.inl (-6), .inr (.inr (.inl 0))]) jo_0 rfl rfl rfl (c_X11_refused (-6) h (by omega)) rfl ?_
                rintro _ _ g47 ⟨rfl, ft46, t46, rfl, ht46, zt46⟩ kt46
                replace kt46 : -2147483648 ≤ t46 ∧ t46 ≤ 2147483647 := kt46
                replace ht46 : -7 ≤ t46 ∧ t46 ≤ -1 := ht46
                have fg47 : jfr w_X11_decree h g47 := jfr_tr f0 ft46 ws_X11_refused__X11_decree
                replace zt46 : t46 = (-6 : Int) := zt46
                have e48 : g47 11 0 = h 11 0 := ft46 11 0 (by unfold w_X11_refused; omega)
                have hs49 : ∀ i k : Int, 12 ≤ i → i ≤ 14 → g47 i k = h i k := fun i k p1 p2 => (ft46 i k (by unfold w_X11_refused; omega))
                exact st_r0 (ls := []) ⟨rfl, rfl, fg47, t46, rfl, (by omega), (by refine ⟨by unfold P_X11_decree; first | exact Or.inl ⟨by omega, by omega, hs49⟩ | exact Or.inr (Or.inl ⟨by omega, by omega, hs49⟩) | exact Or.inr (Or.inr (Or.inl ⟨by omega, by omega, hs49⟩)), Or.inr ⟨by omega, fun i k p1 => (ft46 i k (by first | exact p1 | (unfold w_X11_refused; omega)))⟩⟩)⟩
        · replace c19 : a4 < v17 := by first | exact c19 | exact Int.not_le.mp c19 | exact Int.not_lt.mp c19 | exact Decidable.not_not.mp c19
          show jGo E l 44 229 229 _ 40 [.inr (.inr (.inl 0)), .inl a1, .inl a2, .inl a3, .inl a4] [] 229 jr0 h
          refine jGo_blk qX11_decree_40 ?_
          refine st_cv (na := 1) (st := [.inl (-4), .inr (.inr (.inl 0))]) jo_0 rfl rfl rfl (c_X11_refused (-4) h (by omega)) rfl ?_
          rintro _ _ g51 ⟨rfl, ft50, t50, rfl, ht50, zt50⟩ kt50
          replace kt50 : -2147483648 ≤ t50 ∧ t50 ≤ 2147483647 := kt50
          replace ht50 : -7 ≤ t50 ∧ t50 ≤ -1 := ht50
          have fg51 : jfr w_X11_decree h g51 := jfr_tr f0 ft50 ws_X11_refused__X11_decree
          replace zt50 : t50 = (-4 : Int) := zt50
          have e52 : g51 11 0 = h 11 0 := ft50 11 0 (by unfold w_X11_refused; omega)
          have hs53 : ∀ i k : Int, 12 ≤ i → i ≤ 14 → g51 i k = h i k := fun i k p1 p2 => (ft50 i k (by unfold w_X11_refused; omega))
          exact st_r0 (ls := []) ⟨rfl, rfl, fg51, t50, rfl, (by omega), (by refine ⟨by unfold P_X11_decree; first | exact Or.inl ⟨by omega, by omega, hs53⟩ | exact Or.inr (Or.inl ⟨by omega, by omega, hs53⟩) | exact Or.inr (Or.inr (Or.inl ⟨by omega, by omega, hs53⟩)), Or.inr ⟨by omega, fun i k p1 => (ft50 i k (by first | exact p1 | (unfold w_X11_refused; omega)))⟩⟩)⟩
    · replace c10 : t8 = 0 := by first | exact c10 | exact Int.not_le.mp c10 | exact Int.not_lt.mp c10 | exact Decidable.not_not.mp c10
      show jGo E l 44 229 229 _ 16 [.inr (.inr (.inl 0)), .inl a1, .inl a2, .inl a3, .inl a4] [] 229 jr0 h
      refine jGo_blk qX11_decree_16 ?_
      refine st_cv (na := 1) (st := [.inl (-1), .inr (.inr (.inl 0))]) jo_0 rfl rfl rfl (c_X11_refused (-1) h (by omega)) rfl ?_
      rintro _ _ g55 ⟨rfl, ft54, t54, rfl, ht54, zt54⟩ kt54
      replace kt54 : -2147483648 ≤ t54 ∧ t54 ≤ 2147483647 := kt54
      replace ht54 : -7 ≤ t54 ∧ t54 ≤ -1 := ht54
      have fg55 : jfr w_X11_decree h g55 := jfr_tr f0 ft54 ws_X11_refused__X11_decree
      replace zt54 : t54 = (-1 : Int) := zt54
      have e56 : g55 11 0 = h 11 0 := ft54 11 0 (by unfold w_X11_refused; omega)
      have hs57 : ∀ i k : Int, 12 ≤ i → i ≤ 14 → g55 i k = h i k := fun i k p1 p2 => (ft54 i k (by unfold w_X11_refused; omega))
      exact st_r0 (ls := []) ⟨rfl, rfl, fg55, t54, rfl, (by omega), (by refine ⟨by unfold P_X11_decree; first | exact Or.inl ⟨by omega, by omega, hs57⟩ | exact Or.inr (Or.inl ⟨by omega, by omega, hs57⟩) | exact Or.inr (Or.inr (Or.inl ⟨by omega, by omega, hs57⟩)), Or.inr ⟨by omega, fun i k p1 => (ft54 i k (by first | exact p1 | (unfold w_X11_refused; omega)))⟩⟩)⟩
