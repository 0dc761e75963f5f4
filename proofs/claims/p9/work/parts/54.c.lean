def w_X11_growth (i k : Int) : Prop := (i = 1) ∨ (i = 90)
def k_X11_growth (a1 : Int) (a2 : Int) (h : JH) (v : Option JV) (r' g : JH) : Prop := r' = jr0 ∧ jfr w_X11_growth h g ∧ ∃ x : Int, v = some (.inl x) ∧ (-7 ≤ x ∧ x ≤ 9) ∧ (P_X11_growth a1 a2 x h g)
set_option maxHeartbeats 4000000 in
theorem c_X11_growth {E : JE} {l : Launch} (a1 : Int) (a2 : Int) (h : JH) : jMt E l 98 [.inr (.inr (.inl 0)), .inl a1, .inl a2] 229 jr0 h (k_X11_growth a1 a2 h) := by
  refine jMt0 (nL := 5) (ls := [.inr (.inr (.inl 0)), .inl a1, .inl a2, .inr (.inr (.inr ())), .inr (.inr (.inr ()))]) (by decide +kernel) (by decide +kernel) (by decide +kernel) rfl rfl ?_
  have f0 : jfr w_X11_growth h h := jfr_rf _ _
  refine jGo_blk qX11_growth_0 ?_
  refine st_cs (na := 2) (st := [.inl 3, .inl a1]) rfl rfl rfl (c_X11_within a1 3 h) rfl ?_
  rintro _ _ _ ⟨rfl, rfl, t1, rfl, ht1, zt1⟩ kt1
  replace kt1 : -2147483648 ≤ t1 ∧ t1 ≤ 2147483647 := kt1
  replace ht1 : 0 ≤ t1 ∧ t1 ≤ 1 := ht1
  replace zt1 : (t1 = 1 ∧ 0 ≤ a1 ∧ a1 < (3 : Int)) ∨ (t1 = 0 ∧ ¬ (0 ≤ a1 ∧ a1 < (3 : Int))) := zt1
  refine And.intro (fun c3 => ?_) (fun c3 => ?_)
  · replace c3 : ¬ t1 = 0 := c3
    show jGo E l 98 229 229 _ 12 [.inr (.inr (.inl 0)), .inl a1, .inl a2, .inr (.inr (.inr ())), .inr (.inr (.inr ()))] [] 229 jr0 h
    refine jGo_blk qX11_growth_12 ?_
    refine st_cs (na := 3) (st := [.inl 9, .inl 0, .inl a2]) rfl rfl rfl (c_X11_outside a2 0 9 h) rfl ?_
    rintro _ _ _ ⟨rfl, rfl, t4, rfl, ht4, zt4⟩ kt4
    replace kt4 : -2147483648 ≤ t4 ∧ t4 ≤ 2147483647 := kt4
    replace ht4 : -6 ≤ t4 ∧ t4 ≤ 0 := ht4
    replace zt4 : (t4 = -4 ∧ a2 < (0 : Int)) ∨ (t4 = -6 ∧ (0 : Int) ≤ a2 ∧ (9 : Int) < a2) ∨ (t4 = 0 ∧ (0 : Int) ≤ a2 ∧ a2 ≤ (9 : Int)) := zt4
    show jGo E l 98 229 229 _ 19 [.inr (.inr (.inl 0)), .inl a1, .inl a2, .inr (.inr (.inr ())), .inr (.inr (.inr ()))] [.inl t4] 229 jr0 h
    refine jGo_blk qX11_growth_19 ?_
    refine And.intro (fun c6 => ?_) (fun c6 => ?_)
    · replace c6 : t4 = 0 := c6
      show jGo E l 98 229 229 _ 30 [.inr (.inr (.inl 0)), .inl a1, .inl a2, .inl t4, .inr (.inr (.inr ()))] [] 229 jr0 h
      refine jGo_blk qX11_growth_30 ?_
      refine st_gr jo_0 jr_0_6 ?_
      refine st_gr jo_84 jr_84_6 ?_
      refine st_ai jo_90 (show 0 ≤ a1 by omega) (show a1 < ((3 : Nat) : Int) by omega) (fun v7 ev7 b8 => ?_)
      replace ev7 : v7 = h 90 a1 := ev7
      replace b8 := (jba_90 a1 _).1 b8
      refine st_gr jo_0 jr_0_6 ?_
      refine st_gr jo_84 jr_84_6 ?_
      refine st_si jo_90 (show 0 ≤ a1 by omega) (show a1 < ((3 : Nat) : Int) by omega) (fun hx => (jba_90 _ _).2 (show 0 ≤ a2 ∧ a2 ≤ 9 by omega)) (fun g9 eg9 => ?_)
      replace eg9 : g9 = jup h 90 a1 a2 := eg9
      have fg9 : jfr w_X11_growth h g9 := jfr_up f0 eg9 (by unfold w_X11_growth; omega)
      have e10 : g9 90 a1 = a2 := jup_s eg9
      have hs11 : g9 90 a1 = a2 := by
        exact jup_s eg9
      have hs12 : ∀ i k : Int, 90 ≤ i → i ≤ 90 → ¬ (i = 90 ∧ k = a1) → g9 i k = h i k := fun i k p1 p2 p3 => (jup_o eg9 (by omega))
      exact st_r0 (ls := []) ⟨rfl, rfl, fg9, v7, rfl, (by omega), (by unfold P_X11_growth; first | exact Or.inr (Or.inr (Or.inr ⟨by omega, ⟨hs11, hs12⟩⟩)))⟩
    · replace c6 : ¬ t4 = 0 := by first | exact c6 | exact Int.not_le.mp c6 | exact Int.not_lt.mp c6 | exact Decidable.not_not.mp c6
      refine st_cv (na := 1) (st := [.inl t4, .inr (.inr (.inl 0))]) jo_0 rfl rfl rfl (c_X11_refused t4 h (by omega)) rfl ?_
      rintro _ _ g14 ⟨rfl, ft13, t13, rfl, ht13, zt13⟩ kt13
      replace kt13 : -2147483648 ≤ t13 ∧ t13 ≤ 2147483647 := kt13
      replace ht13 : -7 ≤ t13 ∧ t13 ≤ -1 := ht13
      have fg14 : jfr w_X11_growth h g14 := jfr_tr f0 ft13 (fun i k q => by unfold w_X11_refused at q; unfold w_X11_growth; omega)
      replace zt13 : t13 = t4 := zt13
      have hs15 : ∀ i k : Int, 90 ≤ i → i ≤ 90 → g14 i k = h i k := fun i k p1 p2 => (ft13 i k (by unfold w_X11_refused; omega))
      exact st_r0 (ls := []) ⟨rfl, rfl, fg14, t13, rfl, (by omega), (by unfold P_X11_growth; by_cases zz : t13 = -4 <;> first | exact Or.inl ⟨by omega, hs15⟩ | exact Or.inr (Or.inl ⟨by omega, hs15⟩) | exact Or.inr (Or.inr (Or.inl ⟨by omega, hs15⟩)))⟩
  · replace c3 : t1 = 0 := by first | exact c3 | exact Int.not_le.mp c3 | exact Int.not_lt.mp c3 | exact Decidable.not_not.mp c3
    show jGo E l 98 229 229 _ 19 [.inr (.inr (.inl 0)), .inl a1, .inl a2, .inr (.inr (.inr ())), .inr (.inr (.inr ()))] [.inl (-1)] 229 jr0 h
    refine jGo_blk qX11_growth_19 ?_
    refine And.intro (fun c16 => ?_) (fun c16 => ?_)
    · replace c16 : (-1 : Int) = 0 := c16
      exfalso; omega
    · replace c16 : ¬ (-1 : Int) = 0 := by first | exact c16 | exact Int.not_le.mp c16 | exact Int.not_lt.mp c16 | exact Decidable.not_not.mp c16
      refine st_cv (na := 1) (st := [.inl (-1), .inr (.inr (.inl 0))]) jo_0 rfl rfl rfl (c_X11_refused (-1) h (by omega)) rfl ?_
      rintro _ _ g18 ⟨rfl, ft17, t17, rfl, ht17, zt17⟩ kt17
      replace kt17 : -2147483648 ≤ t17 ∧ t17 ≤ 2147483647 := kt17
      replace ht17 : -7 ≤ t17 ∧ t17 ≤ -1 := ht17
      have fg18 : jfr w_X11_growth h g18 := jfr_tr f0 ft17 (fun i k q => by unfold w_X11_refused at q; unfold w_X11_growth; omega)
      replace zt17 : t17 = (-1 : Int) := zt17
      have hs19 : ∀ i k : Int, 90 ≤ i → i ≤ 90 → g18 i k = h i k := fun i k p1 p2 => (ft17 i k (by unfold w_X11_refused; omega))
      exact st_r0 (ls := []) ⟨rfl, rfl, fg18, t17, rfl, (by omega), (by unfold P_X11_growth; by_cases zz : t17 = -4 <;> first | exact Or.inl ⟨by omega, hs19⟩ | exact Or.inr (Or.inl ⟨by omega, hs19⟩) | exact Or.inr (Or.inr (Or.inl ⟨by omega, hs19⟩)))⟩

def w_X12_growth (i k : Int) : Prop := (i = 204) ∨ (i = 219)
def k_X12_growth (a1 : Int) (a2 : Int) (h : JH) (v : Option JV) (r' g : JH) : Prop := r' = jr0 ∧ jfr w_X12_growth h g ∧ ∃ x : Int, v = some (.inl x) ∧ (-7 ≤ x ∧ x ≤ 9) ∧ (P_X12_growth a1 a2 x h g)
set_option maxHeartbeats 4000000 in
theorem c_X12_growth {E : JE} {l : Launch} (a1 : Int) (a2 : Int) (h : JH) : jMt E l 99 [.inr (.inr (.inl 176)), .inl a1, .inl a2] 229 jr0 h (k_X12_growth a1 a2 h) := by
  refine jMt0 (nL := 4) (ls := [.inr (.inr (.inl 176)), .inl a1, .inl a2, .inr (.inr (.inr ()))]) (by decide +kernel) (by decide +kernel) (by decide +kernel) rfl rfl ?_
  have f0 : jfr w_X12_growth h h := jfr_rf _ _
  refine jGo_blk qX12_growth_0 ?_
  refine st_cs (na := 3) (st := [.inl 2, .inl 0, .inl a1]) rfl rfl rfl (c_X12_in a1 0 2 h) rfl ?_
  rintro _ _ _ ⟨rfl, rfl, t1, rfl, ht1, zt1⟩ kt1
  replace kt1 : -2147483648 ≤ t1 ∧ t1 ≤ 2147483647 := kt1
  replace ht1 : 0 ≤ t1 ∧ t1 ≤ 1 := ht1
  replace zt1 : (t1 = 1 ∧ (0 : Int) ≤ a1 ∧ a1 ≤ (2 : Int)) ∨ (t1 = 0 ∧ ¬ ((0 : Int) ≤ a1 ∧ a1 ≤ (2 : Int))) := zt1
  refine And.intro (fun c3 => ?_) (fun c3 => ?_)
  · replace c3 : ¬ t1 = 0 := c3
    show jGo E l 99 229 229 _ 15 [.inr (.inr (.inl 176)), .inl a1, .inl a2, .inr (.inr (.inr ()))] [] 229 jr0 h
    refine jGo_blk qX12_growth_15 ?_
    refine And.intro (fun c4 => ?_) (fun c4 => ?_)
    · replace c4 : 0 ≤ a2 := c4
      show jGo E l 99 229 229 _ 26 [.inr (.inr (.inl 176)), .inl a1, .inl a2, .inr (.inr (.inr ()))] [] 229 jr0 h
      refine jGo_blk qX12_growth_26 ?_
      refine And.intro (fun c5 => ?_) (fun c5 => ?_)
      · replace c5 : a2 ≤ 9 := c5
        show jGo E l 99 229 229 _ 39 [.inr (.inr (.inl 176)), .inl a1, .inl a2, .inr (.inr (.inr ()))] [] 229 jr0 h
        refine jGo_blk qX12_growth_39 ?_
        refine st_gr jo_176 jr_176_33 ?_
        refine st_ai jo_204 (show 0 ≤ a1 by omega) (show a1 < ((3 : Nat) : Int) by omega) (fun v6 ev6 b7 => ?_)
        replace ev6 : v6 = h 204 a1 := ev6
        replace b7 := (jba_204 a1 _).1 b7
        refine st_gr jo_176 jr_176_33 ?_
        refine st_si jo_204 (show 0 ≤ a1 by omega) (show a1 < ((3 : Nat) : Int) by omega) (fun hx => (jba_204 _ _).2 (show 0 ≤ a2 ∧ a2 ≤ 9 by omega)) (fun g8 eg8 => ?_)
        replace eg8 : g8 = jup h 204 a1 a2 := eg8
        have fg8 : jfr w_X12_growth h g8 := jfr_up f0 eg8 (by unfold w_X12_growth; omega)
        have e9 : g8 204 a1 = a2 := jup_s eg8
        have hs10 : g8 204 a1 = a2 := by
          exact jup_s eg8
        have hs11 : ∀ i k : Int, 204 ≤ i → i ≤ 204 → ¬ (i = 204 ∧ k = a1) → g8 i k = h i k := fun i k p1 p2 p3 => (jup_o eg8 (by omega))
        exact st_r0 (ls := []) ⟨rfl, rfl, fg8, v6, rfl, (by omega), (by unfold P_X12_growth; first | exact Or.inr (Or.inr (Or.inr ⟨by omega, ⟨hs10, hs11⟩⟩)))⟩
      · replace c5 : 9 < a2 := by first | exact c5 | exact Int.not_le.mp c5 | exact Int.not_lt.mp c5 | exact Decidable.not_not.mp c5
        refine st_cv (na := 1) (st := [.inl (-6), .inr (.inr (.inl 176))]) jo_176 rfl rfl rfl (c_X12_refuse (-6) h (by omega)) rfl ?_
        rintro _ _ g13 ⟨rfl, ft12, t12, rfl, ht12, zt12⟩ kt12
        replace kt12 : -2147483648 ≤ t12 ∧ t12 ≤ 2147483647 := kt12
        replace ht12 : -7 ≤ t12 ∧ t12 ≤ -1 := ht12
        have fg13 : jfr w_X12_growth h g13 := jfr_tr f0 ft12 (fun i k q => by unfold w_X12_refuse at q; unfold w_X12_growth; omega)
        replace zt12 : t12 = (-6 : Int) := zt12
        have hs14 : ∀ i k : Int, 204 ≤ i → i ≤ 204 → g13 i k = h i k := fun i k p1 p2 => (ft12 i k (by unfold w_X12_refuse; omega))
        exact st_r0 (ls := []) ⟨rfl, rfl, fg13, t12, rfl, (by omega), (by unfold P_X12_growth; by_cases zz : t12 = -4 <;> first | exact Or.inl ⟨by omega, hs14⟩ | exact Or.inr (Or.inl ⟨by omega, hs14⟩) | exact Or.inr (Or.inr (Or.inl ⟨by omega, hs14⟩)))⟩
    · replace c4 : a2 < 0 := by first | exact c4 | exact Int.not_le.mp c4 | exact Int.not_lt.mp c4 | exact Decidable.not_not.mp c4
      refine st_cv (na := 1) (st := [.inl (-4), .inr (.inr (.inl 176))]) jo_176 rfl rfl rfl (c_X12_refuse (-4) h (by omega)) rfl ?_
      rintro _ _ g16 ⟨rfl, ft15, t15, rfl, ht15, zt15⟩ kt15
      replace kt15 : -2147483648 ≤ t15 ∧ t15 ≤ 2147483647 := kt15
      replace ht15 : -7 ≤ t15 ∧ t15 ≤ -1 := ht15
      have fg16 : jfr w_X12_growth h g16 := jfr_tr f0 ft15 (fun i k q => by unfold w_X12_refuse at q; unfold w_X12_growth; omega)
      replace zt15 : t15 = (-4 : Int) := zt15
      have hs17 : ∀ i k : Int, 204 ≤ i → i ≤ 204 → g16 i k = h i k := fun i k p1 p2 => (ft15 i k (by unfold w_X12_refuse; omega))
      exact st_r0 (ls := []) ⟨rfl, rfl, fg16, t15, rfl, (by omega), (by unfold P_X12_growth; by_cases zz : t15 = -4 <;> first | exact Or.inl ⟨by omega, hs17⟩ | exact Or.inr (Or.inl ⟨by omega, hs17⟩) | exact Or.inr (Or.inr (Or.inl ⟨by omega, hs17⟩)))⟩
  · replace c3 : t1 = 0 := by first | exact c3 | exact Int.not_le.mp c3 | exact Int.not_lt.mp c3 | exact Decidable.not_not.mp c3
    refine st_cv (na := 1) (st := [.inl (-1), .inr (.inr (.inl 176))]) jo_176 rfl rfl rfl (c_X12_refuse (-1) h (by omega)) rfl ?_
    rintro _ _ g19 ⟨rfl, ft18, t18, rfl, ht18, zt18⟩ kt18
    replace kt18 : -2147483648 ≤ t18 ∧ t18 ≤ 2147483647 := kt18
    replace ht18 : -7 ≤ t18 ∧ t18 ≤ -1 := ht18
    have fg19 : jfr w_X12_growth h g19 := jfr_tr f0 ft18 (fun i k q => by unfold w_X12_refuse at q; unfold w_X12_growth; omega)
    replace zt18 : t18 = (-1 : Int) := zt18
    have hs20 : ∀ i k : Int, 204 ≤ i → i ≤ 204 → g19 i k = h i k := fun i k p1 p2 => (ft18 i k (by unfold w_X12_refuse; omega))
    exact st_r0 (ls := []) ⟨rfl, rfl, fg19, t18, rfl, (by omega), (by unfold P_X12_growth; by_cases zz : t18 = -4 <;> first | exact Or.inl ⟨by omega, hs20⟩ | exact Or.inr (Or.inl ⟨by omega, hs20⟩) | exact Or.inr (Or.inr (Or.inl ⟨by omega, hs20⟩)))⟩

def w_X3_plant (i k : Int) : Prop := (85 ≤ i ∧ i ≤ 89) ∨ (i = 84 ∧ k = 0)
def k_X3_plant (a1 : Int) (a2 : Int) (a3 : Int) (h : JH) (v : Option JV) (r' g : JH) : Prop := r' = jr0 ∧ jfr w_X3_plant h g ∧ ∃ x : Int, v = some (.inl x) ∧ (0 ≤ x ∧ x ≤ 39) ∧ ((∀ t : Int, g 87 t = h 87 t ∨ (1 ≤ g 87 t ∧ g 87 t ≤ 500)) ∧ x = h 84 0 ∧ g 84 0 = h 84 0 + 1)
set_option maxHeartbeats 4000000 in
theorem c_X3_plant {E : JE} {l : Launch} (a1 : Int) (a2 : Int) (a3 : Int) (h : JH) (p1 : 0 ≤ a1 ∧ a1 ≤ 2) (p2 : -9 ≤ a2 ∧ a2 ≤ 9) (p3 : 1 ≤ a3 ∧ a3 ≤ 500) (q0 : h 84 0 ≤ 39) : jMt E l 100 [.inr (.inr (.inl 84)), .inl a1, .inl a2, .inl a3] 229 jr0 h (k_X3_plant a1 a2 a3 h) := by
  refine jMt0 (nL := 4) (ls := [.inr (.inr (.inl 84)), .inl a1, .inl a2, .inl a3]) (by decide +kernel) (by decide +kernel) (by decide +kernel) rfl rfl ?_
  have f0 : jfr w_X3_plant h h := jfr_rf _ _
  refine jGo_blk qX3_plant_0 ?_
  refine st_gr jo_84 jr_84_1 ?_
  refine st_gi jo_84 (fun v1 ev1 b2 => ?_)
  replace ev1 : v1 = h 84 0 := ev1
  replace b2 := (jbf_3_0 jo_84 _).1 b2
  refine st_si jo_85 (show 0 ≤ v1 by omega) (show v1 < ((40 : Nat) : Int) by omega) (fun hx => (jba_85 _ _).2 (show 0 ≤ a1 ∧ a1 ≤ 2 by omega)) (fun g3 eg3 => ?_)
  replace eg3 : g3 = jup h 85 v1 a1 := eg3
  have fg3 : jfr w_X3_plant h g3 := jfr_up f0 eg3 (by unfold w_X3_plant; omega)
  have e4 : g3 85 v1 = a1 := jup_s eg3
  refine st_gr jo_84 jr_84_2 ?_
  refine st_gi jo_84 (fun v5 ev5 b6 => ?_)
  replace ev5 : v5 = g3 84 0 := ev5
  replace b6 := (jbf_3_0 jo_84 _).1 b6
  have e7 : g3 84 0 = h 84 0 := jup_o eg3 (by omega)
  refine st_si jo_86 (show 0 ≤ v5 by omega) (show v5 < ((40 : Nat) : Int) by omega) (fun hx => (jba_86 _ _).2 (show -9 ≤ a2 ∧ a2 ≤ 9 by omega)) (fun g8 eg8 => ?_)
  replace eg8 : g8 = jup g3 86 v5 a2 := eg8
  have fg8 : jfr w_X3_plant h g8 := jfr_up fg3 eg8 (by unfold w_X3_plant; omega)
  have e9 : g8 86 v5 = a2 := jup_s eg8
  refine st_gr jo_84 jr_84_3 ?_
  refine st_gi jo_84 (fun v10 ev10 b11 => ?_)
  replace ev10 : v10 = g8 84 0 := ev10
  replace b11 := (jbf_3_0 jo_84 _).1 b11
  have e12 : g8 84 0 = g3 84 0 := jup_o eg8 (by omega)
  refine st_si jo_87 (show 0 ≤ v10 by omega) (show v10 < ((40 : Nat) : Int) by omega) (fun hx => (jba_87 _ _).2 hx) (fun g13 eg13 => ?_)
  replace eg13 : g13 = jup g8 87 v10 a3 := eg13
  have fg13 : jfr w_X3_plant h g13 := jfr_up fg8 eg13 (by unfold w_X3_plant; omega)
  have e14 : g13 87 v10 = a3 := jup_s eg13
  refine st_gr jo_84 jr_84_4 ?_
  refine st_gi jo_84 (fun v15 ev15 b16 => ?_)
  replace ev15 : v15 = g13 84 0 := ev15
  replace b16 := (jbf_3_0 jo_84 _).1 b16
  have e17 : g13 84 0 = g8 84 0 := jup_o eg13 (by omega)
  refine st_si jo_88 (show 0 ≤ v15 by omega) (show v15 < ((40 : Nat) : Int) by omega) (fun hx => (jba_88 _ _).2 (show -9 ≤ (-9) ∧ (-9) ≤ 15 by omega)) (fun g18 eg18 => ?_)
  replace eg18 : g18 = jup g13 88 v15 (-9) := eg18
  have fg18 : jfr w_X3_plant h g18 := jfr_up fg13 eg18 (by unfold w_X3_plant; omega)
  have e19 : g18 88 v15 = (-9) := jup_s eg18
  refine st_gr jo_84 jr_84_5 ?_
  refine st_gi jo_84 (fun v20 ev20 b21 => ?_)
  replace ev20 : v20 = g18 84 0 := ev20
  replace b21 := (jbf_3_0 jo_84 _).1 b21
  have e22 : g18 84 0 = g13 84 0 := jup_o eg18 (by omega)
  refine st_si jo_89 (show 0 ≤ v20 by omega) (show v20 < ((40 : Nat) : Int) by omega) (fun hx => (jba_89 _ _).2 (show -9 ≤ (-9) ∧ (-9) ≤ 5 by omega)) (fun g23 eg23 => ?_)
  replace eg23 : g23 = jup g18 89 v20 (-9) := eg23
  have fg23 : jfr w_X3_plant h g23 := jfr_up fg18 eg23 (by unfold w_X3_plant; omega)
  have e24 : g23 89 v20 = (-9) := jup_s eg23
  refine st_gi jo_84 (fun v25 ev25 b26 => ?_)
  replace ev25 : v25 = g23 84 0 := ev25
  replace b26 := (jbf_3_0 jo_84 _).1 b26
  have e27 : g23 84 0 = g18 84 0 := jup_o eg23 (by omega)
  have e28 : jw32 (v25 + 1) = v25 + 1 := j32e (by omega) (by omega)
  refine st_pi jo_84 (fun hx => (jbf_3_0 jo_84 _).2 (show 0 ≤ jw32 (v25 + 1) ∧ jw32 (v25 + 1) ≤ 40 by omega)) (fun g29 eg29 => ?_)
  replace eg29 : g29 = jup g23 84 0 (jw32 (v25 + 1)) := eg29
  have fg29 : jfr w_X3_plant h g29 := jfr_up fg23 eg29 (by unfold w_X3_plant; omega)
  have e30 : g29 84 0 = jw32 (v25 + 1) := jup_s eg29
  refine st_gi jo_84 (fun v31 ev31 b32 => ?_)
  replace ev31 : v31 = g29 84 0 := ev31
  replace b32 := (jbf_3_0 jo_84 _).1 b32
  have e33 : jw32 (v31 - 1) = v31 - 1 := j32e (by omega) (by omega)
  have hp34 : ∀ t : Int, g29 87 t = h 87 t ∨ (1 ≤ g29 87 t ∧ g29 87 t ≤ 500) := by
    intro t
    rw [jup_o eg29 (by omega)]
    rw [jup_o eg23 (by omega)]
    rw [jup_o eg18 (by omega)]
    by_cases q : t = v10
    · subst q; rw [jup_s eg13]; exact Or.inr ⟨by omega, by omega⟩
    rw [jup_o eg13 (by omega)]
    rw [jup_o eg8 (by omega)]
    rw [jup_o eg3 (by omega)]
    exact Or.inl rfl
  exact st_r0 (ls := []) ⟨rfl, rfl, fg29, jw32 (v31 - 1), rfl, (by omega), (by exact ⟨hp34, by omega, by omega⟩)⟩

def w_X11_tree (i k : Int) : Prop := (i = 1) ∨ (85 ≤ i ∧ i ≤ 89) ∨ (i = 84 ∧ k = 0)
def k_X11_tree (a1 : Int) (a2 : Int) (a3 : Int) (h : JH) (v : Option JV) (r' g : JH) : Prop := r' = jr0 ∧ jfr w_X11_tree h g ∧ ∃ x : Int, v = some (.inl x) ∧ (-7 ≤ x ∧ x ≤ 39) ∧ ((∀ t : Int, g 87 t = h 87 t ∨ (1 ≤ g 87 t ∧ g 87 t ≤ 500)) ∧ P_X11_tree a1 a2 a3 x h g)
set_option maxHeartbeats 4000000 in
theorem c_X11_tree {E : JE} {l : Launch} (a1 : Int) (a2 : Int) (a3 : Int) (h : JH) : jMt E l 101 [.inr (.inr (.inl 0)), .inl a1, .inl a2, .inl a3] 229 jr0 h (k_X11_tree a1 a2 a3 h) := by
  refine jMt0 (nL := 4) (ls := [.inr (.inr (.inl 0)), .inl a1, .inl a2, .inl a3]) (by decide +kernel) (by decide +kernel) (by decide +kernel) rfl rfl ?_
  have f0 : jfr w_X11_tree h h := jfr_rf _ _
  refine jGo_blk qX11_tree_0 ?_
  refine st_cs (na := 2) (st := [.inl 3, .inl a1]) rfl rfl rfl (c_X11_within a1 3 h) rfl ?_
  rintro _ _ _ ⟨rfl, rfl, t1, rfl, ht1, zt1⟩ kt1
  replace kt1 : -2147483648 ≤ t1 ∧ t1 ≤ 2147483647 := kt1
  replace ht1 : 0 ≤ t1 ∧ t1 ≤ 1 := ht1
  replace zt1 : (t1 = 1 ∧ 0 ≤ a1 ∧ a1 < (3 : Int)) ∨ (t1 = 0 ∧ ¬ (0 ≤ a1 ∧ a1 < (3 : Int))) := zt1
  refine And.intro (fun c3 => ?_) (fun c3 => ?_)
  · replace c3 : ¬ t1 = 0 := c3
    show jGo E l 101 229 229 _ 14 [.inr (.inr (.inl 0)), .inl a1, .inl a2, .inl a3] [] 229 jr0 h
    refine jGo_blk qX11_tree_14 ?_
    refine And.intro (fun c4 => ?_) (fun c4 => ?_)
    · replace c4 : a2 < (-9) := c4
      show jGo E l 101 229 229 _ 25 [.inr (.inr (.inl 0)), .inl a1, .inl a2, .inl a3] [] 229 jr0 h
      refine jGo_blk qX11_tree_25 ?_
      refine st_cv (na := 1) (st := [.inl (-4), .inr (.inr (.inl 0))]) jo_0 rfl rfl rfl (c_X11_refused (-4) h (by omega)) rfl ?_
      rintro _ _ g6 ⟨rfl, ft5, t5, rfl, ht5, zt5⟩ kt5
      replace kt5 : -2147483648 ≤ t5 ∧ t5 ≤ 2147483647 := kt5
      replace ht5 : -7 ≤ t5 ∧ t5 ≤ -1 := ht5
      have fg6 : jfr w_X11_tree h g6 := jfr_tr f0 ft5 (fun i k q => by unfold w_X11_refused at q; unfold w_X11_tree; omega)
      replace zt5 : t5 = (-4 : Int) := zt5
      have e7 : g6 84 0 = h 84 0 := ft5 84 0 (by unfold w_X11_refused; omega)
      exact st_r0 (ls := []) ⟨rfl, rfl, fg6, t5, rfl, (by omega), (by exact ⟨fun t => Or.inl (ft5 87 t (by unfold w_X11_refused; omega)), by unfold P_X11_tree; first | exact Or.inl ⟨by omega, by omega⟩ | exact Or.inr (Or.inl ⟨by omega, by omega⟩) | exact Or.inr (Or.inr (Or.inl ⟨by omega, by omega⟩)) | exact Or.inr (Or.inr (Or.inr ⟨by omega, by omega, by omega⟩))⟩)⟩
    · replace c4 : (-9) ≤ a2 := by first | exact c4 | exact Int.not_le.mp c4 | exact Int.not_lt.mp c4 | exact Decidable.not_not.mp c4
      refine And.intro (fun c8 => ?_) (fun c8 => ?_)
      · replace c8 : 1 ≤ a3 := c8
        show jGo E l 101 229 229 _ 32 [.inr (.inr (.inl 0)), .inl a1, .inl a2, .inl a3] [] 229 jr0 h
        refine jGo_blk qX11_tree_32 ?_
        refine And.intro (fun c9 => ?_) (fun c9 => ?_)
        · replace c9 : 9 < a2 := c9
          show jGo E l 101 229 229 _ 57 [.inr (.inr (.inl 0)), .inl a1, .inl a2, .inl a3] [] 229 jr0 h
          refine jGo_blk qX11_tree_57 ?_
          refine st_cv (na := 1) (st := [.inl (-6), .inr (.inr (.inl 0))]) jo_0 rfl rfl rfl (c_X11_refused (-6) h (by omega)) rfl ?_
          rintro _ _ g11 ⟨rfl, ft10, t10, rfl, ht10, zt10⟩ kt10
          replace kt10 : -2147483648 ≤ t10 ∧ t10 ≤ 2147483647 := kt10
          replace ht10 : -7 ≤ t10 ∧ t10 ≤ -1 := ht10
          have fg11 : jfr w_X11_tree h g11 := jfr_tr f0 ft10 (fun i k q => by unfold w_X11_refused at q; unfold w_X11_tree; omega)
          replace zt10 : t10 = (-6 : Int) := zt10
          have e12 : g11 84 0 = h 84 0 := ft10 84 0 (by unfold w_X11_refused; omega)
          exact st_r0 (ls := []) ⟨rfl, rfl, fg11, t10, rfl, (by omega), (by exact ⟨fun t => Or.inl (ft10 87 t (by unfold w_X11_refused; omega)), by unfold P_X11_tree; first | exact Or.inl ⟨by omega, by omega⟩ | exact Or.inr (Or.inl ⟨by omega, by omega⟩) | exact Or.inr (Or.inr (Or.inl ⟨by omega, by omega⟩)) | exact Or.inr (Or.inr (Or.inr ⟨by omega, by omega, by omega⟩))⟩)⟩
        · replace c9 : a2 ≤ 9 := by first | exact c9 | exact Int.not_le.mp c9 | exact Int.not_lt.mp c9 | exact Decidable.not_not.mp c9
          refine And.intro (fun c13 => ?_) (fun c13 => ?_)
          · replace c13 : 500 < a3 := c13
            show jGo E l 101 229 229 _ 57 [.inr (.inr (.inl 0)), .inl a1, .inl a2, .inl a3] [] 229 jr0 h
            refine jGo_blk qX11_tree_57 ?_
            refine st_cv (na := 1) (st := [.inl (-6), .inr (.inr (.inl 0))]) jo_0 rfl rfl rfl (c_X11_refused (-6) h (by omega)) rfl ?_
            rintro _ _ g15 ⟨rfl, ft14, t14, rfl, ht14, zt14⟩ kt14
            replace kt14 : -2147483648 ≤ t14 ∧ t14 ≤ 2147483647 := kt14
            replace ht14 : -7 ≤ t14 ∧ t14 ≤ -1 := ht14
            have fg15 : jfr w_X11_tree h g15 := jfr_tr f0 ft14 (fun i k q => by unfold w_X11_refused at q; unfold w_X11_tree; omega)
            replace zt14 : t14 = (-6 : Int) := zt14
            have e16 : g15 84 0 = h 84 0 := ft14 84 0 (by unfold w_X11_refused; omega)
            exact st_r0 (ls := []) ⟨rfl, rfl, fg15, t14, rfl, (by omega), (by exact ⟨fun t => Or.inl (ft14 87 t (by unfold w_X11_refused; omega)), by unfold P_X11_tree; first | exact Or.inl ⟨by omega, by omega⟩ | exact Or.inr (Or.inl ⟨by omega, by omega⟩) | exact Or.inr (Or.inr (Or.inl ⟨by omega, by omega⟩)) | exact Or.inr (Or.inr (Or.inr ⟨by omega, by omega, by omega⟩))⟩)⟩
          · replace c13 : a3 ≤ 500 := by first | exact c13 | exact Int.not_le.mp c13 | exact Int.not_lt.mp c13 | exact Decidable.not_not.mp c13
            refine st_gr jo_0 jr_0_6 ?_
            refine st_gi jo_84 (fun v17 ev17 b18 => ?_)
            replace ev17 : v17 = h 84 0 := ev17
            replace b18 := (jbf_3_0 jo_84 _).1 b18
            refine And.intro (fun c19 => ?_) (fun c19 => ?_)
            · replace c19 : v17 < 40 := c19
              show jGo E l 101 229 229 _ 64 [.inr (.inr (.inl 0)), .inl a1, .inl a2, .inl a3] [] 229 jr0 h
              refine jGo_blk qX11_tree_64 ?_
              refine st_gr jo_0 jr_0_6 ?_
              refine st_cv (na := 3) (st := [.inl a3, .inl a2, .inl a1, .inr (.inr (.inl 84))]) jo_84 rfl rfl rfl (c_X3_plant a1 a2 a3 h (by omega) (by omega) (by omega) (by omega)) rfl ?_
              rintro _ _ g21 ⟨rfl, ft20, t20, rfl, ht20, zt20⟩ kt20
              replace kt20 : -2147483648 ≤ t20 ∧ t20 ≤ 2147483647 := kt20
              replace ht20 : 0 ≤ t20 ∧ t20 ≤ 39 := ht20
              have fg21 : jfr w_X11_tree h g21 := jfr_tr f0 ft20 (fun i k q => by unfold w_X3_plant at q; unfold w_X11_tree; omega)
              replace zt20 : (∀ t : Int, g21 87 t = h 87 t ∨ (1 ≤ g21 87 t ∧ g21 87 t ≤ 500)) ∧ t20 = h 84 0 ∧ g21 84 0 = h 84 0 + 1 := zt20
              exact st_r0 (ls := []) ⟨rfl, rfl, fg21, t20, rfl, (by omega), (by exact ⟨zt20.1, by have q9 := zt20.2; unfold P_X11_tree; first | exact Or.inl ⟨by omega, by omega⟩ | exact Or.inr (Or.inl ⟨by omega, by omega⟩) | exact Or.inr (Or.inr (Or.inl ⟨by omega, by omega⟩)) | exact Or.inr (Or.inr (Or.inr ⟨by omega, by omega, by omega⟩))⟩)⟩
            · replace c19 : 40 ≤ v17 := by first | exact c19 | exact Int.not_le.mp c19 | exact Int.not_lt.mp c19 | exact Decidable.not_not.mp c19
              show jGo E l 101 229 229 _ 57 [.inr (.inr (.inl 0)), .inl a1, .inl a2, .inl a3] [] 229 jr0 h
              refine jGo_blk qX11_tree_57 ?_
              refine st_cv (na := 1) (st := [.inl (-6), .inr (.inr (.inl 0))]) jo_0 rfl rfl rfl (c_X11_refused (-6) h (by omega)) rfl ?_
              rintro _ _ g23 ⟨rfl, ft22, t22, rfl, ht22, zt22⟩ kt22
              replace kt22 : -2147483648 ≤ t22 ∧ t22 ≤ 2147483647 := kt22
              replace ht22 : -7 ≤ t22 ∧ t22 ≤ -1 := ht22
              have fg23 : jfr w_X11_tree h g23 := jfr_tr f0 ft22 (fun i k q => by unfold w_X11_refused at q; unfold w_X11_tree; omega)
              replace zt22 : t22 = (-6 : Int) := zt22
              have e24 : g23 84 0 = h 84 0 := ft22 84 0 (by unfold w_X11_refused; omega)
              exact st_r0 (ls := []) ⟨rfl, rfl, fg23, t22, rfl, (by omega), (by exact ⟨fun t => Or.inl (ft22 87 t (by unfold w_X11_refused; omega)), by unfold P_X11_tree; first | exact Or.inl ⟨by omega, by omega⟩ | exact Or.inr (Or.inl ⟨by omega, by omega⟩) | exact Or.inr (Or.inr (Or.inl ⟨by omega, by omega⟩)) | exact Or.inr (Or.inr (Or.inr ⟨by omega, by omega, by omega⟩))⟩)⟩
      · replace c8 : a3 < 1 := by first | exact c8 | exact Int.not_le.mp c8 | exact Int.not_lt.mp c8 | exact Decidable.not_not.mp c8
        show jGo E l 101 229 229 _ 25 [.inr (.inr (.inl 0)), .inl a1, .inl a2, .inl a3] [] 229 jr0 h
        refine jGo_blk qX11_tree_25 ?_
        refine st_cv (na := 1) (st := [.inl (-4), .inr (.inr (.inl 0))]) jo_0 rfl rfl rfl (c_X11_refused (-4) h (by omega)) rfl ?_
        rintro _ _ g26 ⟨rfl, ft25, t25, rfl, ht25, zt25⟩ kt25
        replace kt25 : -2147483648 ≤ t25 ∧ t25 ≤ 2147483647 := kt25
        replace ht25 : -7 ≤ t25 ∧ t25 ≤ -1 := ht25
        have fg26 : jfr w_X11_tree h g26 := jfr_tr f0 ft25 (fun i k q => by unfold w_X11_refused at q; unfold w_X11_tree; omega)
        replace zt25 : t25 = (-4 : Int) := zt25
        have e27 : g26 84 0 = h 84 0 := ft25 84 0 (by unfold w_X11_refused; omega)
        exact st_r0 (ls := []) ⟨rfl, rfl, fg26, t25, rfl, (by omega), (by exact ⟨fun t => Or.inl (ft25 87 t (by unfold w_X11_refused; omega)), by unfold P_X11_tree; first | exact Or.inl ⟨by omega, by omega⟩ | exact Or.inr (Or.inl ⟨by omega, by omega⟩) | exact Or.inr (Or.inr (Or.inl ⟨by omega, by omega⟩)) | exact Or.inr (Or.inr (Or.inr ⟨by omega, by omega, by omega⟩))⟩)⟩
  · replace c3 : t1 = 0 := by first | exact c3 | exact Int.not_le.mp c3 | exact Int.not_lt.mp c3 | exact Decidable.not_not.mp c3
    refine st_cv (na := 1) (st := [.inl (-1), .inr (.inr (.inl 0))]) jo_0 rfl rfl rfl (c_X11_refused (-1) h (by omega)) rfl ?_
    rintro _ _ g29 ⟨rfl, ft28, t28, rfl, ht28, zt28⟩ kt28
    replace kt28 : -2147483648 ≤ t28 ∧ t28 ≤ 2147483647 := kt28
    replace ht28 : -7 ≤ t28 ∧ t28 ≤ -1 := ht28
    have fg29 : jfr w_X11_tree h g29 := jfr_tr f0 ft28 (fun i k q => by unfold w_X11_refused at q; unfold w_X11_tree; omega)
    replace zt28 : t28 = (-1 : Int) := zt28
    have e30 : g29 84 0 = h 84 0 := ft28 84 0 (by unfold w_X11_refused; omega)
    exact st_r0 (ls := []) ⟨rfl, rfl, fg29, t28, rfl, (by omega), (by exact ⟨fun t => Or.inl (ft28 87 t (by unfold w_X11_refused; omega)), by unfold P_X11_tree; first | exact Or.inl ⟨by omega, by omega⟩ | exact Or.inr (Or.inl ⟨by omega, by omega⟩) | exact Or.inr (Or.inr (Or.inl ⟨by omega, by omega⟩)) | exact Or.inr (Or.inr (Or.inr ⟨by omega, by omega, by omega⟩))⟩)⟩

def w_X12_tree (i k : Int) : Prop := (205 ≤ i ∧ i ≤ 209) ∨ (i = 219) ∨ (i = 176 ∧ k = 34)
def k_X12_tree (a1 : Int) (a2 : Int) (a3 : Int) (h : JH) (v : Option JV) (r' g : JH) : Prop := r' = jr0 ∧ jfr w_X12_tree h g ∧ ∃ x : Int, v = some (.inl x) ∧ (-7 ≤ x ∧ x ≤ 39) ∧ (P_X12_tree a1 a2 a3 x h g)
set_option maxHeartbeats 4000000 in
theorem c_X12_tree {E : JE} {l : Launch} (a1 : Int) (a2 : Int) (a3 : Int) (h : JH) : jMt E l 102 [.inr (.inr (.inl 176)), .inl a1, .inl a2, .inl a3] 229 jr0 h (k_X12_tree a1 a2 a3 h) := by
  refine jMt0 (nL := 4) (ls := [.inr (.inr (.inl 176)), .inl a1, .inl a2, .inl a3]) (by decide +kernel) (by decide +kernel) (by decide +kernel) rfl rfl ?_
  have f0 : jfr w_X12_tree h h := jfr_rf _ _
  refine jGo_blk qX12_tree_0 ?_
  refine st_cs (na := 3) (st := [.inl 2, .inl 0, .inl a1]) rfl rfl rfl (c_X12_in a1 0 2 h) rfl ?_
  rintro _ _ _ ⟨rfl, rfl, t1, rfl, ht1, zt1⟩ kt1
  replace kt1 : -2147483648 ≤ t1 ∧ t1 ≤ 2147483647 := kt1
  replace ht1 : 0 ≤ t1 ∧ t1 ≤ 1 := ht1
  replace zt1 : (t1 = 1 ∧ (0 : Int) ≤ a1 ∧ a1 ≤ (2 : Int)) ∨ (t1 = 0 ∧ ¬ ((0 : Int) ≤ a1 ∧ a1 ≤ (2 : Int))) := zt1
  refine And.intro (fun c3 => ?_) (fun c3 => ?_)
  · replace c3 : ¬ t1 = 0 := c3
    show jGo E l 102 229 229 _ 15 [.inr (.inr (.inl 176)), .inl a1, .inl a2, .inl a3] [] 229 jr0 h
    refine jGo_blk qX12_tree_15 ?_
    refine And.intro (fun c4 => ?_) (fun c4 => ?_)
    · replace c4 : a2 < (-9) := c4
      show jGo E l 102 229 229 _ 26 [.inr (.inr (.inl 176)), .inl a1, .inl a2, .inl a3] [] 229 jr0 h
      refine jGo_blk qX12_tree_26 ?_
      refine st_cv (na := 1) (st := [.inl (-4), .inr (.inr (.inl 176))]) jo_176 rfl rfl rfl (c_X12_refuse (-4) h (by omega)) rfl ?_
      rintro _ _ g6 ⟨rfl, ft5, t5, rfl, ht5, zt5⟩ kt5
      replace kt5 : -2147483648 ≤ t5 ∧ t5 ≤ 2147483647 := kt5
      replace ht5 : -7 ≤ t5 ∧ t5 ≤ -1 := ht5
      have fg6 : jfr w_X12_tree h g6 := jfr_tr f0 ft5 (fun i k q => by unfold w_X12_refuse at q; unfold w_X12_tree; omega)
      replace zt5 : t5 = (-4 : Int) := zt5
      have e7 : g6 176 34 = h 176 34 := ft5 176 34 (by unfold w_X12_refuse; omega)
      exact st_r0 (ls := []) ⟨rfl, rfl, fg6, t5, rfl, (by omega), (by unfold P_X12_tree; first | exact Or.inl ⟨by omega, by omega⟩ | exact Or.inr (Or.inl ⟨by omega, by omega⟩) | exact Or.inr (Or.inr (Or.inl ⟨by omega, by omega⟩)) | exact Or.inr (Or.inr (Or.inr ⟨by omega, by omega, by omega⟩)))⟩
    · replace c4 : (-9) ≤ a2 := by first | exact c4 | exact Int.not_le.mp c4 | exact Int.not_lt.mp c4 | exact Decidable.not_not.mp c4
      refine And.intro (fun c8 => ?_) (fun c8 => ?_)
      · replace c8 : 1 ≤ a3 := c8
        show jGo E l 102 229 229 _ 33 [.inr (.inr (.inl 176)), .inl a1, .inl a2, .inl a3] [] 229 jr0 h
        refine jGo_blk qX12_tree_33 ?_
        refine And.intro (fun c9 => ?_) (fun c9 => ?_)
        · replace c9 : 9 < a2 := c9
          show jGo E l 102 229 229 _ 55 [.inr (.inr (.inl 176)), .inl a1, .inl a2, .inl a3] [] 229 jr0 h
          refine jGo_blk qX12_tree_55 ?_
          refine st_cv (na := 1) (st := [.inl (-6), .inr (.inr (.inl 176))]) jo_176 rfl rfl rfl (c_X12_refuse (-6) h (by omega)) rfl ?_
          rintro _ _ g11 ⟨rfl, ft10, t10, rfl, ht10, zt10⟩ kt10
          replace kt10 : -2147483648 ≤ t10 ∧ t10 ≤ 2147483647 := kt10
          replace ht10 : -7 ≤ t10 ∧ t10 ≤ -1 := ht10
          have fg11 : jfr w_X12_tree h g11 := jfr_tr f0 ft10 (fun i k q => by unfold w_X12_refuse at q; unfold w_X12_tree; omega)
          replace zt10 : t10 = (-6 : Int) := zt10
          have e12 : g11 176 34 = h 176 34 := ft10 176 34 (by unfold w_X12_refuse; omega)
          exact st_r0 (ls := []) ⟨rfl, rfl, fg11, t10, rfl, (by omega), (by unfold P_X12_tree; first | exact Or.inl ⟨by omega, by omega⟩ | exact Or.inr (Or.inl ⟨by omega, by omega⟩) | exact Or.inr (Or.inr (Or.inl ⟨by omega, by omega⟩)) | exact Or.inr (Or.inr (Or.inr ⟨by omega, by omega, by omega⟩)))⟩
        · replace c9 : a2 ≤ 9 := by first | exact c9 | exact Int.not_le.mp c9 | exact Int.not_lt.mp c9 | exact Decidable.not_not.mp c9
          refine And.intro (fun c13 => ?_) (fun c13 => ?_)
          · replace c13 : 500 < a3 := c13
            show jGo E l 102 229 229 _ 55 [.inr (.inr (.inl 176)), .inl a1, .inl a2, .inl a3] [] 229 jr0 h
            refine jGo_blk qX12_tree_55 ?_
            refine st_cv (na := 1) (st := [.inl (-6), .inr (.inr (.inl 176))]) jo_176 rfl rfl rfl (c_X12_refuse (-6) h (by omega)) rfl ?_
            rintro _ _ g15 ⟨rfl, ft14, t14, rfl, ht14, zt14⟩ kt14
            replace kt14 : -2147483648 ≤ t14 ∧ t14 ≤ 2147483647 := kt14
            replace ht14 : -7 ≤ t14 ∧ t14 ≤ -1 := ht14
            have fg15 : jfr w_X12_tree h g15 := jfr_tr f0 ft14 (fun i k q => by unfold w_X12_refuse at q; unfold w_X12_tree; omega)
            replace zt14 : t14 = (-6 : Int) := zt14
            have e16 : g15 176 34 = h 176 34 := ft14 176 34 (by unfold w_X12_refuse; omega)
            exact st_r0 (ls := []) ⟨rfl, rfl, fg15, t14, rfl, (by omega), (by unfold P_X12_tree; first | exact Or.inl ⟨by omega, by omega⟩ | exact Or.inr (Or.inl ⟨by omega, by omega⟩) | exact Or.inr (Or.inr (Or.inl ⟨by omega, by omega⟩)) | exact Or.inr (Or.inr (Or.inr ⟨by omega, by omega, by omega⟩)))⟩
          · replace c13 : a3 ≤ 500 := by first | exact c13 | exact Int.not_le.mp c13 | exact Int.not_lt.mp c13 | exact Decidable.not_not.mp c13
            refine st_gi jo_176 (fun v17 ev17 b18 => ?_)
            replace ev17 : v17 = h 176 34 := ev17
            replace b18 := (jbf_12_34 jo_176 _).1 b18
            refine And.intro (fun c19 => ?_) (fun c19 => ?_)
            · replace c19 : ¬ v17 = 40 := c19
              show jGo E l 102 229 229 _ 62 [.inr (.inr (.inl 176)), .inl a1, .inl a2, .inl a3] [] 229 jr0 h
              refine jGo_blk qX12_tree_62 ?_
              refine st_gr jo_176 jr_176_35 ?_
              refine st_gi jo_176 (fun v20 ev20 b21 => ?_)
              replace ev20 : v20 = h 176 34 := ev20
              replace b21 := (jbf_12_34 jo_176 _).1 b21
              refine st_si jo_205 (show 0 ≤ v20 by omega) (show v20 < ((40 : Nat) : Int) by omega) (fun hx => (jba_205 _ _).2 (show 0 ≤ a1 ∧ a1 ≤ 2 by omega)) (fun g22 eg22 => ?_)
              replace eg22 : g22 = jup h 205 v20 a1 := eg22
              have fg22 : jfr w_X12_tree h g22 := jfr_up f0 eg22 (by unfold w_X12_tree; omega)
              have e23 : g22 205 v20 = a1 := jup_s eg22
              refine st_gr jo_176 jr_176_36 ?_
              refine st_gi jo_176 (fun v24 ev24 b25 => ?_)
              replace ev24 : v24 = g22 176 34 := ev24
              replace b25 := (jbf_12_34 jo_176 _).1 b25
              have e26 : g22 176 34 = h 176 34 := jup_o eg22 (by omega)
              refine st_si jo_206 (show 0 ≤ v24 by omega) (show v24 < ((40 : Nat) : Int) by omega) (fun hx => (jba_206 _ _).2 (show -9 ≤ a2 ∧ a2 ≤ 9 by omega)) (fun g27 eg27 => ?_)
              replace eg27 : g27 = jup g22 206 v24 a2 := eg27
              have fg27 : jfr w_X12_tree h g27 := jfr_up fg22 eg27 (by unfold w_X12_tree; omega)
              have e28 : g27 206 v24 = a2 := jup_s eg27
              refine st_gr jo_176 jr_176_37 ?_
              refine st_gi jo_176 (fun v29 ev29 b30 => ?_)
              replace ev29 : v29 = g27 176 34 := ev29
              replace b30 := (jbf_12_34 jo_176 _).1 b30
              have e31 : g27 176 34 = g22 176 34 := jup_o eg27 (by omega)
              refine st_si jo_207 (show 0 ≤ v29 by omega) (show v29 < ((40 : Nat) : Int) by omega) (fun hx => (jba_207 _ _).2 hx) (fun g32 eg32 => ?_)
              replace eg32 : g32 = jup g27 207 v29 a3 := eg32
              have fg32 : jfr w_X12_tree h g32 := jfr_up fg27 eg32 (by unfold w_X12_tree; omega)
              have e33 : g32 207 v29 = a3 := jup_s eg32
              refine st_gr jo_176 jr_176_38 ?_
              refine st_gi jo_176 (fun v34 ev34 b35 => ?_)
              replace ev34 : v34 = g32 176 34 := ev34
              replace b35 := (jbf_12_34 jo_176 _).1 b35
              have e36 : g32 176 34 = g27 176 34 := jup_o eg32 (by omega)
              refine st_si jo_208 (show 0 ≤ v34 by omega) (show v34 < ((40 : Nat) : Int) by omega) (fun hx => (jba_208 _ _).2 (show -1 ≤ (-1) ∧ (-1) ≤ 15 by omega)) (fun g37 eg37 => ?_)
              replace eg37 : g37 = jup g32 208 v34 (-1) := eg37
              have fg37 : jfr w_X12_tree h g37 := jfr_up fg32 eg37 (by unfold w_X12_tree; omega)
              have e38 : g37 208 v34 = (-1) := jup_s eg37
              refine st_gr jo_176 jr_176_39 ?_
              refine st_gi jo_176 (fun v39 ev39 b40 => ?_)
              replace ev39 : v39 = g37 176 34 := ev39
              replace b40 := (jbf_12_34 jo_176 _).1 b40
              have e41 : g37 176 34 = g32 176 34 := jup_o eg37 (by omega)
              refine st_si jo_209 (show 0 ≤ v39 by omega) (show v39 < ((40 : Nat) : Int) by omega) (fun hx => (jba_209 _ _).2 (show -1 ≤ (-1) ∧ (-1) ≤ 5 by omega)) (fun g42 eg42 => ?_)
              replace eg42 : g42 = jup g37 209 v39 (-1) := eg42
              have fg42 : jfr w_X12_tree h g42 := jfr_up fg37 eg42 (by unfold w_X12_tree; omega)
              have e43 : g42 209 v39 = (-1) := jup_s eg42
              refine st_gi jo_176 (fun v44 ev44 b45 => ?_)
              replace ev44 : v44 = g42 176 34 := ev44
              replace b45 := (jbf_12_34 jo_176 _).1 b45
              have e46 : g42 176 34 = g37 176 34 := jup_o eg42 (by omega)
              have e47 : jw32 (v44 + 1) = v44 + 1 := j32e (by omega) (by omega)
              refine st_pi jo_176 (fun hx => (jbf_12_34 jo_176 _).2 (show 0 ≤ jw32 (v44 + 1) ∧ jw32 (v44 + 1) ≤ 40 by omega)) (fun g48 eg48 => ?_)
              replace eg48 : g48 = jup g42 176 34 (jw32 (v44 + 1)) := eg48
              have fg48 : jfr w_X12_tree h g48 := jfr_up fg42 eg48 (by unfold w_X12_tree; omega)
              have e49 : g48 176 34 = jw32 (v44 + 1) := jup_s eg48
              refine st_gi jo_176 (fun v50 ev50 b51 => ?_)
              replace ev50 : v50 = g48 176 34 := ev50
              replace b51 := (jbf_12_34 jo_176 _).1 b51
              have e52 : jw32 (v50 - 1) = v50 - 1 := j32e (by omega) (by omega)
              exact st_r0 (ls := []) ⟨rfl, rfl, fg48, jw32 (v50 - 1), rfl, (by omega), (by unfold P_X12_tree; first | exact Or.inl ⟨by omega, by omega⟩ | exact Or.inr (Or.inl ⟨by omega, by omega⟩) | exact Or.inr (Or.inr (Or.inl ⟨by omega, by omega⟩)) | exact Or.inr (Or.inr (Or.inr ⟨by omega, by omega, by omega⟩)))⟩
            · replace c19 : v17 = 40 := by first | exact c19 | exact Int.not_le.mp c19 | exact Int.not_lt.mp c19 | exact Decidable.not_not.mp c19
              show jGo E l 102 229 229 _ 55 [.inr (.inr (.inl 176)), .inl a1, .inl a2, .inl a3] [] 229 jr0 h
              refine jGo_blk qX12_tree_55 ?_
              refine st_cv (na := 1) (st := [.inl (-6), .inr (.inr (.inl 176))]) jo_176 rfl rfl rfl (c_X12_refuse (-6) h (by omega)) rfl ?_
              rintro _ _ g54 ⟨rfl, ft53, t53, rfl, ht53, zt53⟩ kt53
              replace kt53 : -2147483648 ≤ t53 ∧ t53 ≤ 2147483647 := kt53
              replace ht53 : -7 ≤ t53 ∧ t53 ≤ -1 := ht53
              have fg54 : jfr w_X12_tree h g54 := jfr_tr f0 ft53 (fun i k q => by unfold w_X12_refuse at q; unfold w_X12_tree; omega)
              replace zt53 : t53 = (-6 : Int) := zt53
              have e55 : g54 176 34 = h 176 34 := ft53 176 34 (by unfold w_X12_refuse; omega)
              exact st_r0 (ls := []) ⟨rfl, rfl, fg54, t53, rfl, (by omega), (by unfold P_X12_tree; first | exact Or.inl ⟨by omega, by omega⟩ | exact Or.inr (Or.inl ⟨by omega, by omega⟩) | exact Or.inr (Or.inr (Or.inl ⟨by omega, by omega⟩)) | exact Or.inr (Or.inr (Or.inr ⟨by omega, by omega, by omega⟩)))⟩
      · replace c8 : a3 < 1 := by first | exact c8 | exact Int.not_le.mp c8 | exact Int.not_lt.mp c8 | exact Decidable.not_not.mp c8
        show jGo E l 102 229 229 _ 26 [.inr (.inr (.inl 176)), .inl a1, .inl a2, .inl a3] [] 229 jr0 h
        refine jGo_blk qX12_tree_26 ?_
        refine st_cv (na := 1) (st := [.inl (-4), .inr (.inr (.inl 176))]) jo_176 rfl rfl rfl (c_X12_refuse (-4) h (by omega)) rfl ?_
        rintro _ _ g57 ⟨rfl, ft56, t56, rfl, ht56, zt56⟩ kt56
        replace kt56 : -2147483648 ≤ t56 ∧ t56 ≤ 2147483647 := kt56
        replace ht56 : -7 ≤ t56 ∧ t56 ≤ -1 := ht56
        have fg57 : jfr w_X12_tree h g57 := jfr_tr f0 ft56 (fun i k q => by unfold w_X12_refuse at q; unfold w_X12_tree; omega)
        replace zt56 : t56 = (-4 : Int) := zt56
        have e58 : g57 176 34 = h 176 34 := ft56 176 34 (by unfold w_X12_refuse; omega)
        exact st_r0 (ls := []) ⟨rfl, rfl, fg57, t56, rfl, (by omega), (by unfold P_X12_tree; first | exact Or.inl ⟨by omega, by omega⟩ | exact Or.inr (Or.inl ⟨by omega, by omega⟩) | exact Or.inr (Or.inr (Or.inl ⟨by omega, by omega⟩)) | exact Or.inr (Or.inr (Or.inr ⟨by omega, by omega, by omega⟩)))⟩
  · replace c3 : t1 = 0 := by first | exact c3 | exact Int.not_le.mp c3 | exact Int.not_lt.mp c3 | exact Decidable.not_not.mp c3
    refine st_cv (na := 1) (st := [.inl (-1), .inr (.inr (.inl 176))]) jo_176 rfl rfl rfl (c_X12_refuse (-1) h (by omega)) rfl ?_
    rintro _ _ g60 ⟨rfl, ft59, t59, rfl, ht59, zt59⟩ kt59
    replace kt59 : -2147483648 ≤ t59 ∧ t59 ≤ 2147483647 := kt59
    replace ht59 : -7 ≤ t59 ∧ t59 ≤ -1 := ht59
    have fg60 : jfr w_X12_tree h g60 := jfr_tr f0 ft59 (fun i k q => by unfold w_X12_refuse at q; unfold w_X12_tree; omega)
    replace zt59 : t59 = (-1 : Int) := zt59
    have e61 : g60 176 34 = h 176 34 := ft59 176 34 (by unfold w_X12_refuse; omega)
    exact st_r0 (ls := []) ⟨rfl, rfl, fg60, t59, rfl, (by omega), (by unfold P_X12_tree; first | exact Or.inl ⟨by omega, by omega⟩ | exact Or.inr (Or.inl ⟨by omega, by omega⟩) | exact Or.inr (Or.inr (Or.inl ⟨by omega, by omega⟩)) | exact Or.inr (Or.inr (Or.inr ⟨by omega, by omega, by omega⟩)))⟩

def w_X8_add (i k : Int) : Prop := (92 ≤ i ∧ i ≤ 96)
def k_X8_add (a1 : Int) (a2 : Int) (a3 : Int) (a4 : Int) (a5 : Int) (h : JH) (v : Option JV) (r' g : JH) : Prop := r' = jr0 ∧ jfr w_X8_add h g ∧ ∃ x : Int, v = some (.inl x) ∧ (0 ≤ x ∧ x ≤ 5) ∧ (x = h 92 a1 ∧ g 92 a1 = h 92 a1 + 1 ∧ ∀ i k : Int, 92 ≤ i → i ≤ 92 → ¬ (i = 92 ∧ k = a1) → g i k = h i k)
set_option maxHeartbeats 4000000 in
theorem c_X8_add {E : JE} {l : Launch} (a1 : Int) (a2 : Int) (a3 : Int) (a4 : Int) (a5 : Int) (h : JH) (p1 : 0 ≤ a1 ∧ a1 ≤ 2) (p2 : 0 ≤ a2 ∧ a2 ≤ 2) (p3 : -9 ≤ a3 ∧ a3 ≤ 9) (p4 : 0 ≤ a4 ∧ a4 ≤ 9) (p5 : 1 ≤ a5 ∧ a5 ≤ 500) (q0 : h 92 a1 ≤ 5) : jMt E l 103 [.inr (.inr (.inl 91)), .inl a1, .inl a2, .inl a3, .inl a4, .inl a5] 229 jr0 h (k_X8_add a1 a2 a3 a4 a5 h) := by
  refine jMt0 (nL := 7) (ls := [.inr (.inr (.inl 91)), .inl a1, .inl a2, .inl a3, .inl a4, .inl a5, .inr (.inr (.inr ()))]) (by decide +kernel) (by decide +kernel) (by decide +kernel) rfl rfl ?_
  have f0 : jfr w_X8_add h h := jfr_rf _ _
  refine jGo_blk qX8_add_0 ?_
  have e1 : jw32 (a1 * 6) = a1 * 6 := j32e (by omega) (by omega)
  refine st_gr jo_91 jr_91_0 ?_
  refine st_ai jo_92 (show 0 ≤ a1 by omega) (show a1 < ((3 : Nat) : Int) by omega) (fun v2 ev2 b3 => ?_)
  replace ev2 : v2 = h 92 a1 := ev2
  replace b3 := (jba_92 a1 _).1 b3
  have e4 : jw32 ((jw32 (a1 * 6)) + v2) = (jw32 (a1 * 6)) + v2 := j32e (by omega) (by omega)
  refine st_gr jo_91 jr_91_1 ?_
  refine st_si jo_93 (show 0 ≤ jw32 ((jw32 (a1 * 6)) + v2) by omega) (show jw32 ((jw32 (a1 * 6)) + v2) < ((18 : Nat) : Int) by omega) (fun hx => (jba_93 _ _).2 (show 0 ≤ a2 ∧ a2 ≤ 2 by omega)) (fun g5 eg5 => ?_)
  replace eg5 : g5 = jup h 93 (jw32 ((jw32 (a1 * 6)) + v2)) a2 := eg5
  have fg5 : jfr w_X8_add h g5 := jfr_up f0 eg5 (by unfold w_X8_add; omega)
  have e6 : g5 93 (jw32 ((jw32 (a1 * 6)) + v2)) = a2 := jup_s eg5
  refine st_gr jo_91 jr_91_2 ?_
  refine st_si jo_94 (show 0 ≤ jw32 ((jw32 (a1 * 6)) + v2) by omega) (show jw32 ((jw32 (a1 * 6)) + v2) < ((18 : Nat) : Int) by omega) (fun hx => (jba_94 _ _).2 (show -9 ≤ a3 ∧ a3 ≤ 9 by omega)) (fun g7 eg7 => ?_)
  replace eg7 : g7 = jup g5 94 (jw32 ((jw32 (a1 * 6)) + v2)) a3 := eg7
  have fg7 : jfr w_X8_add h g7 := jfr_up fg5 eg7 (by unfold w_X8_add; omega)
  have e8 : g7 94 (jw32 ((jw32 (a1 * 6)) + v2)) = a3 := jup_s eg7
  refine st_gr jo_91 jr_91_3 ?_
  refine st_si jo_95 (show 0 ≤ jw32 ((jw32 (a1 * 6)) + v2) by omega) (show jw32 ((jw32 (a1 * 6)) + v2) < ((18 : Nat) : Int) by omega) (fun hx => (jba_95 _ _).2 (show 0 ≤ a4 ∧ a4 ≤ 9 by omega)) (fun g9 eg9 => ?_)
  replace eg9 : g9 = jup g7 95 (jw32 ((jw32 (a1 * 6)) + v2)) a4 := eg9
  have fg9 : jfr w_X8_add h g9 := jfr_up fg7 eg9 (by unfold w_X8_add; omega)
  have e10 : g9 95 (jw32 ((jw32 (a1 * 6)) + v2)) = a4 := jup_s eg9
  refine st_gr jo_91 jr_91_4 ?_
  refine st_si jo_96 (show 0 ≤ jw32 ((jw32 (a1 * 6)) + v2) by omega) (show jw32 ((jw32 (a1 * 6)) + v2) < ((18 : Nat) : Int) by omega) (fun hx => (jba_96 _ _).2 (show 0 ≤ a5 ∧ a5 ≤ 500 by omega)) (fun g11 eg11 => ?_)
  replace eg11 : g11 = jup g9 96 (jw32 ((jw32 (a1 * 6)) + v2)) a5 := eg11
  have fg11 : jfr w_X8_add h g11 := jfr_up fg9 eg11 (by unfold w_X8_add; omega)
  have e12 : g11 96 (jw32 ((jw32 (a1 * 6)) + v2)) = a5 := jup_s eg11
  refine st_gr jo_91 jr_91_0 ?_
  refine st_ai jo_92 (show 0 ≤ a1 by omega) (show a1 < ((3 : Nat) : Int) by omega) (fun v13 ev13 b14 => ?_)
  replace ev13 : v13 = g11 92 a1 := ev13
  replace b14 := (jba_92 a1 _).1 b14
  have e15 : g11 92 a1 = g9 92 a1 := jup_o eg11 (by omega)
  have e16 : g9 92 a1 = g7 92 a1 := jup_o eg9 (by omega)
  have e17 : g7 92 a1 = g5 92 a1 := jup_o eg7 (by omega)
  have e18 : g5 92 a1 = h 92 a1 := jup_o eg5 (by omega)
  have e19 : jw32 (v13 + 1) = v13 + 1 := j32e (by omega) (by omega)
  refine st_si jo_92 (show 0 ≤ a1 by omega) (show a1 < ((3 : Nat) : Int) by omega) (fun hx => (jba_92 _ _).2 (show 0 ≤ jw32 (v13 + 1) ∧ jw32 (v13 + 1) ≤ 6 by omega)) (fun g20 eg20 => ?_)
  replace eg20 : g20 = jup g11 92 a1 (jw32 (v13 + 1)) := eg20
  have fg20 : jfr w_X8_add h g20 := jfr_up fg11 eg20 (by unfold w_X8_add; omega)
  have e21 : g20 92 a1 = jw32 (v13 + 1) := jup_s eg20
  refine st_gr jo_91 jr_91_0 ?_
  refine st_ai jo_92 (show 0 ≤ a1 by omega) (show a1 < ((3 : Nat) : Int) by omega) (fun v22 ev22 b23 => ?_)
  replace ev22 : v22 = g20 92 a1 := ev22
  replace b23 := (jba_92 a1 _).1 b23
  have e24 : jw32 (v22 - 1) = v22 - 1 := j32e (by omega) (by omega)
  have e25 : g11 92 a1 = h 92 a1 := ((jup_o eg11 (by omega)).trans ((jup_o eg9 (by omega)).trans ((jup_o eg7 (by omega)).trans (jup_o eg5 (by omega)))))
  have hs26 : g20 92 a1 = h 92 a1 + 1 := by
    exact (jup_s eg20).trans (show jw32 (v13 + 1) = h 92 a1 + 1 by omega)
  have hs27 : ∀ i k : Int, 92 ≤ i → i ≤ 92 → ¬ (i = 92 ∧ k = a1) → g20 i k = h i k := fun i k p1 p2 p3 => ((jup_o eg20 (by omega)).trans ((jup_o eg11 (by omega)).trans ((jup_o eg9 (by omega)).trans ((jup_o eg7 (by omega)).trans (jup_o eg5 (by omega))))))
  exact st_r0 (ls := []) ⟨rfl, rfl, fg20, jw32 (v22 - 1), rfl, (by omega), (by exact ⟨by omega, hs26, hs27⟩)⟩

def w_X11_part (i k : Int) : Prop := (i = 1) ∨ (92 ≤ i ∧ i ≤ 96)
def k_X11_part (a1 : Int) (a2 : Int) (a3 : Int) (a4 : Int) (a5 : Int) (h : JH) (v : Option JV) (r' g : JH) : Prop := r' = jr0 ∧ jfr w_X11_part h g ∧ ∃ x : Int, v = some (.inl x) ∧ (-7 ≤ x ∧ x ≤ 5) ∧ (P_X11_part a1 a2 a3 a4 a5 x h g)
set_option maxHeartbeats 4000000 in
theorem c_X11_part {E : JE} {l : Launch} (a1 : Int) (a2 : Int) (a3 : Int) (a4 : Int) (a5 : Int) (h : JH) : jMt E l 104 [.inr (.inr (.inl 0)), .inl a1, .inl a2, .inl a3, .inl a4, .inl a5] 229 jr0 h (k_X11_part a1 a2 a3 a4 a5 h) := by
  refine jMt0 (nL := 6) (ls := [.inr (.inr (.inl 0)), .inl a1, .inl a2, .inl a3, .inl a4, .inl a5]) (by decide +kernel) (by decide +kernel) (by decide +kernel) rfl rfl ?_
  have f0 : jfr w_X11_part h h := jfr_rf _ _
  refine jGo_blk qX11_part_0 ?_
  refine st_cs (na := 2) (st := [.inl 3, .inl a1]) rfl rfl rfl (c_X11_within a1 3 h) rfl ?_
  rintro _ _ _ ⟨rfl, rfl, t1, rfl, ht1, zt1⟩ kt1
  replace kt1 : -2147483648 ≤ t1 ∧ t1 ≤ 2147483647 := kt1
  replace ht1 : 0 ≤ t1 ∧ t1 ≤ 1 := ht1
  replace zt1 : (t1 = 1 ∧ 0 ≤ a1 ∧ a1 < (3 : Int)) ∨ (t1 = 0 ∧ ¬ (0 ≤ a1 ∧ a1 < (3 : Int))) := zt1
  refine And.intro (fun c3 => ?_) (fun c3 => ?_)
  · replace c3 : t1 = 0 := c3
    show jGo E l 104 229 229 _ 16 [.inr (.inr (.inl 0)), .inl a1, .inl a2, .inl a3, .inl a4, .inl a5] [] 229 jr0 h
    refine jGo_blk qX11_part_16 ?_
    refine st_cv (na := 1) (st := [.inl (-1), .inr (.inr (.inl 0))]) jo_0 rfl rfl rfl (c_X11_refused (-1) h (by omega)) rfl ?_
    rintro _ _ g5 ⟨rfl, ft4, t4, rfl, ht4, zt4⟩ kt4
    replace kt4 : -2147483648 ≤ t4 ∧ t4 ≤ 2147483647 := kt4
    replace ht4 : -7 ≤ t4 ∧ t4 ≤ -1 := ht4
    have fg5 : jfr w_X11_part h g5 := jfr_tr f0 ft4 (fun i k q => by unfold w_X11_refused at q; unfold w_X11_part; omega)
    replace zt4 : t4 = (-1 : Int) := zt4
    have hs6 : ∀ i k : Int, 92 ≤ i → i ≤ 92 → g5 i k = h i k := fun i k p1 p2 => (ft4 i k (by unfold w_X11_refused; omega))
    exact st_r0 (ls := []) ⟨rfl, rfl, fg5, t4, rfl, (by omega), (by unfold P_X11_part; by_cases zz : t4 = -4 <;> first | exact Or.inl ⟨by omega, hs6⟩ | exact Or.inr (Or.inl ⟨by omega, hs6⟩) | exact Or.inr (Or.inr (Or.inl ⟨by omega, hs6⟩)))⟩
  · replace c3 : ¬ t1 = 0 := by first | exact c3 | exact Int.not_le.mp c3 | exact Int.not_lt.mp c3 | exact Decidable.not_not.mp c3
    refine st_cs (na := 2) (st := [.inl 3, .inl a2]) rfl rfl rfl (c_X11_within a2 3 h) rfl ?_
    rintro _ _ _ ⟨rfl, rfl, t7, rfl, ht7, zt7⟩ kt7
    replace kt7 : -2147483648 ≤ t7 ∧ t7 ≤ 2147483647 := kt7
    replace ht7 : 0 ≤ t7 ∧ t7 ≤ 1 := ht7
    replace zt7 : (t7 = 1 ∧ 0 ≤ a2 ∧ a2 < (3 : Int)) ∨ (t7 = 0 ∧ ¬ (0 ≤ a2 ∧ a2 < (3 : Int))) := zt7
    refine And.intro (fun c9 => ?_) (fun c9 => ?_)
    · replace c9 : ¬ t7 = 0 := c9
      show jGo E l 104 229 229 _ 22 [.inr (.inr (.inl 0)), .inl a1, .inl a2, .inl a3, .inl a4, .inl a5] [] 229 jr0 h
      refine jGo_blk qX11_part_22 ?_
      refine And.intro (fun c10 => ?_) (fun c10 => ?_)
      · replace c10 : a3 < (-9) := c10
        show jGo E l 104 229 229 _ 39 [.inr (.inr (.inl 0)), .inl a1, .inl a2, .inl a3, .inl a4, .inl a5] [] 229 jr0 h
        refine jGo_blk qX11_part_39 ?_
        refine st_cv (na := 1) (st := [.inl (-4), .inr (.inr (.inl 0))]) jo_0 rfl rfl rfl (c_X11_refused (-4) h (by omega)) rfl ?_
        rintro _ _ g12 ⟨rfl, ft11, t11, rfl, ht11, zt11⟩ kt11
        replace kt11 : -2147483648 ≤ t11 ∧ t11 ≤ 2147483647 := kt11
        replace ht11 : -7 ≤ t11 ∧ t11 ≤ -1 := ht11
        have fg12 : jfr w_X11_part h g12 := jfr_tr f0 ft11 (fun i k q => by unfold w_X11_refused at q; unfold w_X11_part; omega)
        replace zt11 : t11 = (-4 : Int) := zt11
        have hs13 : ∀ i k : Int, 92 ≤ i → i ≤ 92 → g12 i k = h i k := fun i k p1 p2 => (ft11 i k (by unfold w_X11_refused; omega))
        exact st_r0 (ls := []) ⟨rfl, rfl, fg12, t11, rfl, (by omega), (by unfold P_X11_part; by_cases zz : t11 = -4 <;> first | exact Or.inl ⟨by omega, hs13⟩ | exact Or.inr (Or.inl ⟨by omega, hs13⟩) | exact Or.inr (Or.inr (Or.inl ⟨by omega, hs13⟩)))⟩
      · replace c10 : (-9) ≤ a3 := by first | exact c10 | exact Int.not_le.mp c10 | exact Int.not_lt.mp c10 | exact Decidable.not_not.mp c10
        refine And.intro (fun c14 => ?_) (fun c14 => ?_)
        · replace c14 : a4 < 0 := c14
          show jGo E l 104 229 229 _ 39 [.inr (.inr (.inl 0)), .inl a1, .inl a2, .inl a3, .inl a4, .inl a5] [] 229 jr0 h
          refine jGo_blk qX11_part_39 ?_
          refine st_cv (na := 1) (st := [.inl (-4), .inr (.inr (.inl 0))]) jo_0 rfl rfl rfl (c_X11_refused (-4) h (by omega)) rfl ?_
          rintro _ _ g16 ⟨rfl, ft15, t15, rfl, ht15, zt15⟩ kt15
          replace kt15 : -2147483648 ≤ t15 ∧ t15 ≤ 2147483647 := kt15
          replace ht15 : -7 ≤ t15 ∧ t15 ≤ -1 := ht15
          have fg16 : jfr w_X11_part h g16 := jfr_tr f0 ft15 (fun i k q => by unfold w_X11_refused at q; unfold w_X11_part; omega)
          replace zt15 : t15 = (-4 : Int) := zt15
          have hs17 : ∀ i k : Int, 92 ≤ i → i ≤ 92 → g16 i k = h i k := fun i k p1 p2 => (ft15 i k (by unfold w_X11_refused; omega))
          exact st_r0 (ls := []) ⟨rfl, rfl, fg16, t15, rfl, (by omega), (by unfold P_X11_part; by_cases zz : t15 = -4 <;> first | exact Or.inl ⟨by omega, hs17⟩ | exact Or.inr (Or.inl ⟨by omega, hs17⟩) | exact Or.inr (Or.inr (Or.inl ⟨by omega, hs17⟩)))⟩
        · replace c14 : 0 ≤ a4 := by first | exact c14 | exact Int.not_le.mp c14 | exact Int.not_lt.mp c14 | exact Decidable.not_not.mp c14
          refine And.intro (fun c18 => ?_) (fun c18 => ?_)
          · replace c18 : 1 ≤ a5 := c18
            show jGo E l 104 229 229 _ 46 [.inr (.inr (.inl 0)), .inl a1, .inl a2, .inl a3, .inl a4, .inl a5] [] 229 jr0 h
            refine jGo_blk qX11_part_46 ?_
            refine And.intro (fun c19 => ?_) (fun c19 => ?_)
            · replace c19 : 9 < a3 := c19
              show jGo E l 104 229 229 _ 81 [.inr (.inr (.inl 0)), .inl a1, .inl a2, .inl a3, .inl a4, .inl a5] [] 229 jr0 h
              refine jGo_blk qX11_part_81 ?_
              refine st_cv (na := 1) (st := [.inl (-6), .inr (.inr (.inl 0))]) jo_0 rfl rfl rfl (c_X11_refused (-6) h (by omega)) rfl ?_
              rintro _ _ g21 ⟨rfl, ft20, t20, rfl, ht20, zt20⟩ kt20
              replace kt20 : -2147483648 ≤ t20 ∧ t20 ≤ 2147483647 := kt20
              replace ht20 : -7 ≤ t20 ∧ t20 ≤ -1 := ht20
              have fg21 : jfr w_X11_part h g21 := jfr_tr f0 ft20 (fun i k q => by unfold w_X11_refused at q; unfold w_X11_part; omega)
              replace zt20 : t20 = (-6 : Int) := zt20
              have hs22 : ∀ i k : Int, 92 ≤ i → i ≤ 92 → g21 i k = h i k := fun i k p1 p2 => (ft20 i k (by unfold w_X11_refused; omega))
              exact st_r0 (ls := []) ⟨rfl, rfl, fg21, t20, rfl, (by omega), (by unfold P_X11_part; by_cases zz : t20 = -4 <;> first | exact Or.inl ⟨by omega, hs22⟩ | exact Or.inr (Or.inl ⟨by omega, hs22⟩) | exact Or.inr (Or.inr (Or.inl ⟨by omega, hs22⟩)))⟩
            · replace c19 : a3 ≤ 9 := by first | exact c19 | exact Int.not_le.mp c19 | exact Int.not_lt.mp c19 | exact Decidable.not_not.mp c19
              refine And.intro (fun c23 => ?_) (fun c23 => ?_)
              · replace c23 : 9 < a4 := c23
                show jGo E l 104 229 229 _ 81 [.inr (.inr (.inl 0)), .inl a1, .inl a2, .inl a3, .inl a4, .inl a5] [] 229 jr0 h
                refine jGo_blk qX11_part_81 ?_
                refine st_cv (na := 1) (st := [.inl (-6), .inr (.inr (.inl 0))]) jo_0 rfl rfl rfl (c_X11_refused (-6) h (by omega)) rfl ?_
                rintro _ _ g25 ⟨rfl, ft24, t24, rfl, ht24, zt24⟩ kt24
                replace kt24 : -2147483648 ≤ t24 ∧ t24 ≤ 2147483647 := kt24
                replace ht24 : -7 ≤ t24 ∧ t24 ≤ -1 := ht24
                have fg25 : jfr w_X11_part h g25 := jfr_tr f0 ft24 (fun i k q => by unfold w_X11_refused at q; unfold w_X11_part; omega)
                replace zt24 : t24 = (-6 : Int) := zt24
                have hs26 : ∀ i k : Int, 92 ≤ i → i ≤ 92 → g25 i k = h i k := fun i k p1 p2 => (ft24 i k (by unfold w_X11_refused; omega))
                exact st_r0 (ls := []) ⟨rfl, rfl, fg25, t24, rfl, (by omega), (by unfold P_X11_part; by_cases zz : t24 = -4 <;> first | exact Or.inl ⟨by omega, hs26⟩ | exact Or.inr (Or.inl ⟨by omega, hs26⟩) | exact Or.inr (Or.inr (Or.inl ⟨by omega, hs26⟩)))⟩
              · replace c23 : a4 ≤ 9 := by first | exact c23 | exact Int.not_le.mp c23 | exact Int.not_lt.mp c23 | exact Decidable.not_not.mp c23
                refine And.intro (fun c27 => ?_) (fun c27 => ?_)
                · replace c27 : 500 < a5 := c27
                  show jGo E l 104 229 229 _ 81 [.inr (.inr (.inl 0)), .inl a1, .inl a2, .inl a3, .inl a4, .inl a5] [] 229 jr0 h
                  refine jGo_blk qX11_part_81 ?_
                  refine st_cv (na := 1) (st := [.inl (-6), .inr (.inr (.inl 0))]) jo_0 rfl rfl rfl (c_X11_refused (-6) h (by omega)) rfl ?_
                  rintro _ _ g29 ⟨rfl, ft28, t28, rfl, ht28, zt28⟩ kt28
                  replace kt28 : -2147483648 ≤ t28 ∧ t28 ≤ 2147483647 := kt28
                  replace ht28 : -7 ≤ t28 ∧ t28 ≤ -1 := ht28
                  have fg29 : jfr w_X11_part h g29 := jfr_tr f0 ft28 (fun i k q => by unfold w_X11_refused at q; unfold w_X11_part; omega)
                  replace zt28 : t28 = (-6 : Int) := zt28
                  have hs30 : ∀ i k : Int, 92 ≤ i → i ≤ 92 → g29 i k = h i k := fun i k p1 p2 => (ft28 i k (by unfold w_X11_refused; omega))
                  exact st_r0 (ls := []) ⟨rfl, rfl, fg29, t28, rfl, (by omega), (by unfold P_X11_part; by_cases zz : t28 = -4 <;> first | exact Or.inl ⟨by omega, hs30⟩ | exact Or.inr (Or.inl ⟨by omega, hs30⟩) | exact Or.inr (Or.inr (Or.inl ⟨by omega, hs30⟩)))⟩
                · replace c27 : a5 ≤ 500 := by first | exact c27 | exact Int.not_le.mp c27 | exact Int.not_lt.mp c27 | exact Decidable.not_not.mp c27
                  refine st_gr jo_0 jr_0_7 ?_
                  refine st_gr jo_91 jr_91_0 ?_
                  refine st_ai jo_92 (show 0 ≤ a1 by omega) (show a1 < ((3 : Nat) : Int) by omega) (fun v31 ev31 b32 => ?_)
                  replace ev31 : v31 = h 92 a1 := ev31
                  replace b32 := (jba_92 a1 _).1 b32
                  refine And.intro (fun c33 => ?_) (fun c33 => ?_)
                  · replace c33 : v31 < 6 := c33
                    show jGo E l 104 229 229 _ 88 [.inr (.inr (.inl 0)), .inl a1, .inl a2, .inl a3, .inl a4, .inl a5] [] 229 jr0 h
                    refine jGo_blk qX11_part_88 ?_
                    refine st_gr jo_0 jr_0_7 ?_
                    refine st_cv (na := 5) (st := [.inl a5, .inl a4, .inl a3, .inl a2, .inl a1, .inr (.inr (.inl 91))]) jo_91 rfl rfl rfl (c_X8_add a1 a2 a3 a4 a5 h (by omega) (by omega) (by omega) (by omega) (by omega) (by omega)) rfl ?_
                    rintro _ _ g35 ⟨rfl, ft34, t34, rfl, ht34, zt34⟩ kt34
                    replace kt34 : -2147483648 ≤ t34 ∧ t34 ≤ 2147483647 := kt34
                    replace ht34 : 0 ≤ t34 ∧ t34 ≤ 5 := ht34
                    have fg35 : jfr w_X11_part h g35 := jfr_tr f0 ft34 (fun i k q => by unfold w_X8_add at q; unfold w_X11_part; omega)
                    replace zt34 : t34 = h 92 a1 ∧ g35 92 a1 = h 92 a1 + 1 ∧ ∀ i k : Int, 92 ≤ i → i ≤ 92 → ¬ (i = 92 ∧ k = a1) → g35 i k = h i k := zt34
                    exact st_r0 (ls := []) ⟨rfl, rfl, fg35, t34, rfl, (by omega), (by unfold P_X11_part; exact Or.inr (Or.inr (Or.inr ⟨by omega, zt34.2.1, zt34.2.2⟩)))⟩
                  · replace c33 : 6 ≤ v31 := by first | exact c33 | exact Int.not_le.mp c33 | exact Int.not_lt.mp c33 | exact Decidable.not_not.mp c33
                    show jGo E l 104 229 229 _ 81 [.inr (.inr (.inl 0)), .inl a1, .inl a2, .inl a3, .inl a4, .inl a5] [] 229 jr0 h
                    refine jGo_blk qX11_part_81 ?_
                    refine st_cv (na := 1) (st := [.inl (-6), .inr (.inr (.inl 0))]) jo_0 rfl rfl rfl (c_X11_refused (-6) h (by omega)) rfl ?_
                    rintro _ _ g37 ⟨rfl, ft36, t36, rfl, ht36, zt36⟩ kt36
                    replace kt36 : -2147483648 ≤ t36 ∧ t36 ≤ 2147483647 := kt36
                    replace ht36 : -7 ≤ t36 ∧ t36 ≤ -1 := ht36
                    have fg37 : jfr w_X11_part h g37 := jfr_tr f0 ft36 (fun i k q => by unfold w_X11_refused at q; unfold w_X11_part; omega)
                    replace zt36 : t36 = (-6 : Int) := zt36
                    have hs38 : ∀ i k : Int, 92 ≤ i → i ≤ 92 → g37 i k = h i k := fun i k p1 p2 => (ft36 i k (by unfold w_X11_refused; omega))
                    exact st_r0 (ls := []) ⟨rfl, rfl, fg37, t36, rfl, (by omega), (by unfold P_X11_part; by_cases zz : t36 = -4 <;> first | exact Or.inl ⟨by omega, hs38⟩ | exact Or.inr (Or.inl ⟨by omega, hs38⟩) | exact Or.inr (Or.inr (Or.inl ⟨by omega, hs38⟩)))⟩
          · replace c18 : a5 < 1 := by first | exact c18 | exact Int.not_le.mp c18 | exact Int.not_lt.mp c18 | exact Decidable.not_not.mp c18
            show jGo E l 104 229 229 _ 39 [.inr (.inr (.inl 0)), .inl a1, .inl a2, .inl a3, .inl a4, .inl a5] [] 229 jr0 h
            refine jGo_blk qX11_part_39 ?_
            refine st_cv (na := 1) (st := [.inl (-4), .inr (.inr (.inl 0))]) jo_0 rfl rfl rfl (c_X11_refused (-4) h (by omega)) rfl ?_
            rintro _ _ g40 ⟨rfl, ft39, t39, rfl, ht39, zt39⟩ kt39
            replace kt39 : -2147483648 ≤ t39 ∧ t39 ≤ 2147483647 := kt39
            replace ht39 : -7 ≤ t39 ∧ t39 ≤ -1 := ht39
            have fg40 : jfr w_X11_part h g40 := jfr_tr f0 ft39 (fun i k q => by unfold w_X11_refused at q; unfold w_X11_part; omega)
            replace zt39 : t39 = (-4 : Int) := zt39
            have hs41 : ∀ i k : Int, 92 ≤ i → i ≤ 92 → g40 i k = h i k := fun i k p1 p2 => (ft39 i k (by unfold w_X11_refused; omega))
            exact st_r0 (ls := []) ⟨rfl, rfl, fg40, t39, rfl, (by omega), (by unfold P_X11_part; by_cases zz : t39 = -4 <;> first | exact Or.inl ⟨by omega, hs41⟩ | exact Or.inr (Or.inl ⟨by omega, hs41⟩) | exact Or.inr (Or.inr (Or.inl ⟨by omega, hs41⟩)))⟩
    · replace c9 : t7 = 0 := by first | exact c9 | exact Int.not_le.mp c9 | exact Int.not_lt.mp c9 | exact Decidable.not_not.mp c9
      show jGo E l 104 229 229 _ 16 [.inr (.inr (.inl 0)), .inl a1, .inl a2, .inl a3, .inl a4, .inl a5] [] 229 jr0 h
      refine jGo_blk qX11_part_16 ?_
      refine st_cv (na := 1) (st := [.inl (-1), .inr (.inr (.inl 0))]) jo_0 rfl rfl rfl (c_X11_refused (-1) h (by omega)) rfl ?_
      rintro _ _ g43 ⟨rfl, ft42, t42, rfl, ht42, zt42⟩ kt42
      replace kt42 : -2147483648 ≤ t42 ∧ t42 ≤ 2147483647 := kt42
      replace ht42 : -7 ≤ t42 ∧ t42 ≤ -1 := ht42
      have fg43 : jfr w_X11_part h g43 := jfr_tr f0 ft42 (fun i k q => by unfold w_X11_refused at q; unfold w_X11_part; omega)
      replace zt42 : t42 = (-1 : Int) := zt42
      have hs44 : ∀ i k : Int, 92 ≤ i → i ≤ 92 → g43 i k = h i k := fun i k p1 p2 => (ft42 i k (by unfold w_X11_refused; omega))
      exact st_r0 (ls := []) ⟨rfl, rfl, fg43, t42, rfl, (by omega), (by unfold P_X11_part; by_cases zz : t42 = -4 <;> first | exact Or.inl ⟨by omega, hs44⟩ | exact Or.inr (Or.inl ⟨by omega, hs44⟩) | exact Or.inr (Or.inr (Or.inl ⟨by omega, hs44⟩)))⟩
