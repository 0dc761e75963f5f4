def w_X11_refusedAside (i k : Int) : Prop := (i = 1)
theorem ws_X11_refused__X11_refusedAside (i k : Int) (q : w_X11_refused i k) : w_X11_refusedAside i k := by
  unfold w_X11_refused at q; unfold w_X11_refusedAside
  exact (by omega)
def k_X11_refusedAside (a1 : Int) (h : JH) (v : Option JV) (r' g : JH) : Prop := r' = jr0 ∧ jfr w_X11_refusedAside h g ∧ ∃ x : Int, v = some (.inl x) ∧ (2000000001 ≤ x ∧ x ≤ 2000000007) ∧ (x = 2000000000 - a1)
set_option maxHeartbeats 4000000 in
theorem c_X11_refusedAside {E : JE} {l : Launch} (a1 : Int) (h : JH) (p1 : -7 ≤ a1 ∧ a1 ≤ -1) : jMt E l 34 [.inr (.inr (.inl 0)), .inl a1] 229 jr0 h (k_X11_refusedAside a1 h) := by
  refine jMt0 (nL := 2) (ls := [.inr (.inr (.inl 0)), .inl a1]) (by decide +kernel) (by decide +kernel) (by decide +kernel) rfl rfl ?_
  have f0 : jfr w_X11_refusedAside h h := jfr_rf _ _
  refine jGo_blk qX11_refusedAside_0 ?_
  refine st_cv (na := 1) (st := [.inl a1, .inr (.inr (.inl 0)), .inl 2000000000]) jo_0 rfl rfl rfl (c_X11_refused a1 h (by omega)) rfl ?_
  rintro _ _ g2 ⟨rfl, ft1, t1, rfl, ht1, zt1⟩ kt1
  replace kt1 : -2147483648 ≤ t1 ∧ t1 ≤ 2147483647 := kt1
  replace ht1 : -7 ≤ t1 ∧ t1 ≤ -1 := ht1
  have fg2 : jfr w_X11_refusedAside h g2 := jfr_tr f0 ft1 ws_X11_refused__X11_refusedAside
  replace zt1 : t1 = a1 := zt1
  have e3 : jw32 (2000000000 - t1) = 2000000000 - t1 := jzj32 (by omega)
  exact st_r0 (ls := []) ⟨rfl, rfl, fg2, jw32 (2000000000 - t1), rfl, (by omega), (by omega)⟩

def w_X11_lead (i k : Int) : Prop := (i = 1) ∨ (i = 4) ∨ (i = 111 ∧ 9 ≤ k ∧ k ≤ 11)
theorem ws_X11_refusedAside__X11_lead (i k : Int) (q : w_X11_refusedAside i k) : w_X11_lead i k := by
  unfold w_X11_refusedAside at q; unfold w_X11_lead
  exact (Or.inl (by omega))
theorem ws_X7_forget__X11_lead (i k : Int) (q : w_X7_forget i k) : w_X11_lead i k := by
  unfold w_X7_forget at q; unfold w_X11_lead
  exact (Or.inr (Or.inr (by omega)))
def k_X11_lead (a1 : Int) (a2 : Int) (h : JH) (v : Option JV) (r' g : JH) : Prop := r' = jr0 ∧ jfr w_X11_lead h g ∧ ∃ x : Int, v = some (.inl x) ∧ (-1 ≤ x ∧ x ≤ 2000000007) ∧ ((P_X11_lead a1 a2 x h g) ∧ jFg (2000000000 < x) h g)
set_option maxHeartbeats 4000000 in
theorem c_X11_lead {E : JE} {l : Launch} (a1 : Int) (a2 : Int) (h : JH) : jMt E l 35 [.inr (.inr (.inl 0)), .inl a1, .inl a2] 229 jr0 h (k_X11_lead a1 a2 h) := by
  refine jMt0 (nL := 4) (ls := [.inr (.inr (.inl 0)), .inl a1, .inl a2, .inr (.inr (.inr ()))]) (by decide +kernel) (by decide +kernel) (by decide +kernel) rfl rfl ?_
  have f0 : jfr w_X11_lead h h := jfr_rf _ _
  refine jGo_blk qX11_lead_0 ?_
  refine st_cs (na := 2) (st := [.inl 4, .inl a1]) rfl rfl rfl (c_X11_within a1 4 h) rfl ?_
  rintro _ _ _ ⟨rfl, rfl, t1, rfl, ht1, zt1⟩ kt1
  replace kt1 : -2147483648 ≤ t1 ∧ t1 ≤ 2147483647 := kt1
  replace ht1 : 0 ≤ t1 ∧ t1 ≤ 1 := ht1
  replace zt1 : (t1 = 1 ∧ 0 ≤ a1 ∧ a1 < (4 : Int)) ∨ (t1 = 0 ∧ ¬ (0 ≤ a1 ∧ a1 < (4 : Int))) := zt1
  refine And.intro (fun c3 => ?_) (fun c3 => ?_)
  · replace c3 : t1 = 0 := c3
    show jGo E l 35 229 229 _ 21 [.inr (.inr (.inl 0)), .inl a1, .inl a2, .inr (.inr (.inr ()))] [] 229 jr0 h
    refine jGo_blk qX11_lead_21 ?_
    refine st_cv (na := 1) (st := [.inl (-1), .inr (.inr (.inl 0))]) jo_0 rfl rfl rfl (c_X11_refusedAside (-1) h (by omega)) rfl ?_
    rintro _ _ g5 ⟨rfl, ft4, t4, rfl, ht4, zt4⟩ kt4
    replace kt4 : -2147483648 ≤ t4 ∧ t4 ≤ 2147483647 := kt4
    replace ht4 : 2000000001 ≤ t4 ∧ t4 ≤ 2000000007 := ht4
    have fg5 : jfr w_X11_lead h g5 := jfr_tr f0 ft4 ws_X11_refusedAside__X11_lead
    replace zt4 : t4 = 2000000000 - (-1 : Int) := zt4
    have hs6 : ∀ i k : Int, 4 ≤ i → i ≤ 4 → g5 i k = h i k := fun i k p1 p2 => (ft4 i k (by unfold w_X11_refusedAside; omega))
    exact st_r0 (ls := []) ⟨rfl, rfl, fg5, t4, rfl, (by omega), (by refine ⟨by unfold P_X11_lead; by_cases zz : t4 = -4 <;> first | exact Or.inl ⟨by omega, hs6⟩, Or.inr ⟨by omega, fun i k p1 => (ft4 i k (by first | exact p1 | (unfold w_X11_refusedAside; omega)))⟩⟩)⟩
  · replace c3 : ¬ t1 = 0 := by first | exact c3 | exact Int.not_le.mp c3 | exact Int.not_lt.mp c3 | exact Decidable.not_not.mp c3
    refine And.intro (fun c7 => ?_) (fun c7 => ?_)
    · replace c7 : a2 = (-1) := c7
      show jGo E l 35 229 229 _ 27 [.inr (.inr (.inl 0)), .inl a1, .inl a2, .inr (.inr (.inr ()))] [] 229 jr0 h
      refine jGo_blk qX11_lead_27 ?_
      refine st_gr jo_0 jr_0_11 ?_
      refine st_cv (na := 0) (st := [.inr (.inr (.inl 111))]) jo_111 rfl rfl rfl (c_X7_forget h) rfl ?_
      rintro _ _ g9 ⟨rfl, ft8, rfl, zt8⟩ kt8
      have fg9 : jfr w_X11_lead h g9 := jfr_tr f0 ft8 ws_X7_forget__X11_lead
      replace zt8 : g9 111 9 = 0 ∧ g9 111 10 = 0 ∧ g9 111 11 = 0 := zt8
      refine st_gr jo_0 jr_0_2 ?_
      refine st_gr jo_2 jr_2_1 ?_
      refine st_ai jo_4 (show 0 ≤ a1 by omega) (show a1 < ((4 : Nat) : Int) by omega) (fun v10 ev10 b11 => ?_)
      replace ev10 : v10 = g9 4 a1 := ev10
      replace b11 := (jba_4 a1 _).1 b11
      refine st_gr jo_0 jr_0_2 ?_
      refine st_gr jo_2 jr_2_1 ?_
      refine st_si jo_4 (show 0 ≤ a1 by omega) (show a1 < ((4 : Nat) : Int) by omega) (fun hx => (jba_4 _ _).2 (show -1 ≤ a2 ∧ a2 ≤ 3 by omega)) (fun g12 eg12 => ?_)
      replace eg12 : g12 = jup g9 4 a1 a2 := eg12
      have fg12 : jfr w_X11_lead h g12 := jfr_up fg9 eg12 (by unfold w_X11_lead; omega)
      have e13 : g12 4 a1 = a2 := jup_s eg12
      have e14 : g9 4 a1 = h 4 a1 := (ft8 4 a1 (by unfold w_X7_forget; omega))
      have hs15 : g12 4 a1 = a2 := by
        exact jup_s eg12
      have hs16 : ∀ i k : Int, 4 ≤ i → i ≤ 4 → ¬ (i = 4 ∧ k = a1) → g12 i k = h i k := fun i k p1 p2 p3 => ((jup_o eg12 (by first | exact fun q => absurd q.1 (by decide) | exact fun q => absurd q.2 (by decide) | omega)).trans (ft8 i k (by unfold w_X7_forget; omega)))
      exact st_r0 (ls := []) ⟨rfl, rfl, fg12, v10, rfl, (by omega), (by refine ⟨by unfold P_X11_lead; first | exact Or.inr ⟨by omega, ⟨hs15, hs16⟩⟩, Or.inl ?_⟩; exact ⟨((jup_o eg12 (by first | exact fun q => absurd q.1 (by decide) | exact fun q => absurd q.2 (by decide) | omega))).trans zt8.1, ((jup_o eg12 (by first | exact fun q => absurd q.1 (by decide) | exact fun q => absurd q.2 (by decide) | omega))).trans zt8.2.1, ((jup_o eg12 (by first | exact fun q => absurd q.1 (by decide) | exact fun q => absurd q.2 (by decide) | omega))).trans zt8.2.2⟩)⟩
    · replace c7 : ¬ a2 = (-1) := by first | exact c7 | exact Int.not_le.mp c7 | exact Int.not_lt.mp c7 | exact Decidable.not_not.mp c7
      refine st_cs (na := 2) (st := [.inl 4, .inl a2]) rfl rfl rfl (c_X11_within a2 4 h) rfl ?_
      rintro _ _ _ ⟨rfl, rfl, t17, rfl, ht17, zt17⟩ kt17
      replace kt17 : -2147483648 ≤ t17 ∧ t17 ≤ 2147483647 := kt17
      replace ht17 : 0 ≤ t17 ∧ t17 ≤ 1 := ht17
      replace zt17 : (t17 = 1 ∧ 0 ≤ a2 ∧ a2 < (4 : Int)) ∨ (t17 = 0 ∧ ¬ (0 ≤ a2 ∧ a2 < (4 : Int))) := zt17
      refine And.intro (fun c19 => ?_) (fun c19 => ?_)
      · replace c19 : ¬ t17 = 0 := c19
        show jGo E l 35 229 229 _ 27 [.inr (.inr (.inl 0)), .inl a1, .inl a2, .inr (.inr (.inr ()))] [] 229 jr0 h
        refine jGo_blk qX11_lead_27 ?_
        refine st_gr jo_0 jr_0_11 ?_
        refine st_cv (na := 0) (st := [.inr (.inr (.inl 111))]) jo_111 rfl rfl rfl (c_X7_forget h) rfl ?_
        rintro _ _ g21 ⟨rfl, ft20, rfl, zt20⟩ kt20
        have fg21 : jfr w_X11_lead h g21 := jfr_tr f0 ft20 ws_X7_forget__X11_lead
        replace zt20 : g21 111 9 = 0 ∧ g21 111 10 = 0 ∧ g21 111 11 = 0 := zt20
        refine st_gr jo_0 jr_0_2 ?_
        refine st_gr jo_2 jr_2_1 ?_
        refine st_ai jo_4 (show 0 ≤ a1 by omega) (show a1 < ((4 : Nat) : Int) by omega) (fun v22 ev22 b23 => ?_)
        replace ev22 : v22 = g21 4 a1 := ev22
        replace b23 := (jba_4 a1 _).1 b23
        refine st_gr jo_0 jr_0_2 ?_
        refine st_gr jo_2 jr_2_1 ?_
        refine st_si jo_4 (show 0 ≤ a1 by omega) (show a1 < ((4 : Nat) : Int) by omega) (fun hx => (jba_4 _ _).2 (show -1 ≤ a2 ∧ a2 ≤ 3 by omega)) (fun g24 eg24 => ?_)
        replace eg24 : g24 = jup g21 4 a1 a2 := eg24
        have fg24 : jfr w_X11_lead h g24 := jfr_up fg21 eg24 (by unfold w_X11_lead; omega)
        have e25 : g24 4 a1 = a2 := jup_s eg24
        have e26 : g21 4 a1 = h 4 a1 := (ft20 4 a1 (by unfold w_X7_forget; omega))
        have hs27 : g24 4 a1 = a2 := by
          exact jup_s eg24
        have hs28 : ∀ i k : Int, 4 ≤ i → i ≤ 4 → ¬ (i = 4 ∧ k = a1) → g24 i k = h i k := fun i k p1 p2 p3 => ((jup_o eg24 (by first | exact fun q => absurd q.1 (by decide) | exact fun q => absurd q.2 (by decide) | omega)).trans (ft20 i k (by unfold w_X7_forget; omega)))
        exact st_r0 (ls := []) ⟨rfl, rfl, fg24, v22, rfl, (by omega), (by refine ⟨by unfold P_X11_lead; first | exact Or.inr ⟨by omega, ⟨hs27, hs28⟩⟩, Or.inl ?_⟩; exact ⟨((jup_o eg24 (by first | exact fun q => absurd q.1 (by decide) | exact fun q => absurd q.2 (by decide) | omega))).trans zt20.1, ((jup_o eg24 (by first | exact fun q => absurd q.1 (by decide) | exact fun q => absurd q.2 (by decide) | omega))).trans zt20.2.1, ((jup_o eg24 (by first | exact fun q => absurd q.1 (by decide) | exact fun q => absurd q.2 (by decide) | omega))).trans zt20.2.2⟩)⟩
      · replace c19 : t17 = 0 := by first | exact c19 | exact Int.not_le.mp c19 | exact Int.not_lt.mp c19 | exact Decidable.not_not.mp c19
        show jGo E l 35 229 229 _ 21 [.inr (.inr (.inl 0)), .inl a1, .inl a2, .inr (.inr (.inr ()))] [] 229 jr0 h
        refine jGo_blk qX11_lead_21 ?_
        refine st_cv (na := 1) (st := [.inl (-1), .inr (.inr (.inl 0))]) jo_0 rfl rfl rfl (c_X11_refusedAside (-1) h (by omega)) rfl ?_
        rintro _ _ g30 ⟨rfl, ft29, t29, rfl, ht29, zt29⟩ kt29
        replace kt29 : -2147483648 ≤ t29 ∧ t29 ≤ 2147483647 := kt29
        replace ht29 : 2000000001 ≤ t29 ∧ t29 ≤ 2000000007 := ht29
        have fg30 : jfr w_X11_lead h g30 := jfr_tr f0 ft29 ws_X11_refusedAside__X11_lead
        replace zt29 : t29 = 2000000000 - (-1 : Int) := zt29
        have hs31 : ∀ i k : Int, 4 ≤ i → i ≤ 4 → g30 i k = h i k := fun i k p1 p2 => (ft29 i k (by unfold w_X11_refusedAside; omega))
        exact st_r0 (ls := []) ⟨rfl, rfl, fg30, t29, rfl, (by omega), (by refine ⟨by unfold P_X11_lead; by_cases zz : t29 = -4 <;> first | exact Or.inl ⟨by omega, hs31⟩, Or.inr ⟨by omega, fun i k p1 => (ft29 i k (by first | exact p1 | (unfold w_X11_refusedAside; omega)))⟩⟩)⟩

def w_X12_refuseFar (i k : Int) : Prop := (i = 219)
def k_X12_refuseFar (a1 : Int) (h : JH) (v : Option JV) (r' g : JH) : Prop := r' = jr0 ∧ jfr w_X12_refuseFar h g ∧ ∃ x : Int, v = some (.inl x) ∧ (2000000001 ≤ x ∧ x ≤ 2000000007) ∧ (x = 2000000000 - a1)
set_option maxHeartbeats 4000000 in
theorem c_X12_refuseFar {E : JE} {l : Launch} (a1 : Int) (h : JH) (p1 : -7 ≤ a1 ∧ a1 ≤ -1) : jMt E l 36 [.inr (.inr (.inl 176)), .inl a1] 229 jr0 h (k_X12_refuseFar a1 h) := by
  refine jMt0 (nL := 2) (ls := [.inr (.inr (.inl 176)), .inl a1]) (by decide +kernel) (by decide +kernel) (by decide +kernel) rfl rfl ?_
  have f0 : jfr w_X12_refuseFar h h := jfr_rf _ _
  refine jGo_blk qX12_refuseFar_0 ?_
  refine st_gr jo_176 jr_176_50 ?_
  have e1 : jw32 (-a1) = -a1 := jzj32 (by omega)
  refine st_ai jo_219 (show 0 ≤ jw32 (-a1) by omega) (show jw32 (-a1) < ((8 : Nat) : Int) by omega) (fun v2 ev2 b3 => ?_)
  replace ev2 : v2 = h 219 (jw32 (-a1)) := ev2
  replace b3 := (jba_219 (jw32 (-a1)) _).1 b3
  refine st_si jo_219 (show 0 ≤ jw32 (-a1) by omega) (show jw32 (-a1) < ((8 : Nat) : Int) by omega) (fun hx => (jba_219 _ _).2 hx) (fun g4 eg4 => ?_)
  replace eg4 : g4 = jup h 219 (jw32 (-a1)) (jw32 (v2 + 1)) := eg4
  have fg4 : jfr w_X12_refuseFar h g4 := jfr_up f0 eg4 (by unfold w_X12_refuseFar; omega)
  have e5 : g4 219 (jw32 (-a1)) = jw32 (v2 + 1) := jup_s eg4
  have e6 : jw32 (2000000000 - a1) = 2000000000 - a1 := jzj32 (by omega)
  exact st_r0 (ls := []) ⟨rfl, rfl, fg4, jw32 (2000000000 - a1), rfl, (by omega), (by omega)⟩
theorem jzma_w_X12_refuseFar {i k : Int} (q : jma i k) : ¬ w_X12_refuseFar i k := by unfold jma at q; unfold w_X12_refuseFar; omega

def w_X12_lead (i k : Int) : Prop := (i = 178) ∨ (i = 219)
theorem ws_X12_refuseFar__X12_lead (i k : Int) (q : w_X12_refuseFar i k) : w_X12_lead i k := by
  unfold w_X12_refuseFar at q; unfold w_X12_lead
  exact (Or.inr (by omega))
def k_X12_lead (a1 : Int) (a2 : Int) (h : JH) (v : Option JV) (r' g : JH) : Prop := r' = jr0 ∧ jfr w_X12_lead h g ∧ ∃ x : Int, v = some (.inl x) ∧ (-1 ≤ x ∧ x ≤ 2000000007) ∧ ((P_X12_lead a1 a2 x h g) ∧ jRx (2000000000 < x) h g)
set_option maxHeartbeats 4000000 in
theorem c_X12_lead {E : JE} {l : Launch} (a1 : Int) (a2 : Int) (h : JH) : jMt E l 37 [.inr (.inr (.inl 176)), .inl a1, .inl a2] 229 jr0 h (k_X12_lead a1 a2 h) := by
  refine jMt0 (nL := 4) (ls := [.inr (.inr (.inl 176)), .inl a1, .inl a2, .inr (.inr (.inr ()))]) (by decide +kernel) (by decide +kernel) (by decide +kernel) rfl rfl ?_
  have f0 : jfr w_X12_lead h h := jfr_rf _ _
  refine jGo_blk qX12_lead_0 ?_
  refine st_cs (na := 3) (st := [.inl 3, .inl 0, .inl a1]) rfl rfl rfl (c_X12_in a1 0 3 h) rfl ?_
  rintro _ _ _ ⟨rfl, rfl, t1, rfl, ht1, zt1⟩ kt1
  replace kt1 : -2147483648 ≤ t1 ∧ t1 ≤ 2147483647 := kt1
  replace ht1 : 0 ≤ t1 ∧ t1 ≤ 1 := ht1
  replace zt1 : (t1 = 1 ∧ (0 : Int) ≤ a1 ∧ a1 ≤ (3 : Int)) ∨ (t1 = 0 ∧ ¬ ((0 : Int) ≤ a1 ∧ a1 ≤ (3 : Int))) := zt1
  refine And.intro (fun c3 => ?_) (fun c3 => ?_)
  · replace c3 : t1 = 0 := c3
    show jGo E l 37 229 229 _ 18 [.inr (.inr (.inl 176)), .inl a1, .inl a2, .inr (.inr (.inr ()))] [] 229 jr0 h
    refine jGo_blk qX12_lead_18 ?_
    refine st_cv (na := 1) (st := [.inl (-1), .inr (.inr (.inl 176))]) jo_176 rfl rfl rfl (c_X12_refuseFar (-1) h (by omega)) rfl ?_
    rintro _ _ g5 ⟨rfl, ft4, t4, rfl, ht4, zt4⟩ kt4
    replace kt4 : -2147483648 ≤ t4 ∧ t4 ≤ 2147483647 := kt4
    replace ht4 : 2000000001 ≤ t4 ∧ t4 ≤ 2000000007 := ht4
    have fg5 : jfr w_X12_lead h g5 := jfr_tr f0 ft4 ws_X12_refuseFar__X12_lead
    replace zt4 : t4 = 2000000000 - (-1 : Int) := zt4
    have hs6 : ∀ i k : Int, 178 ≤ i → i ≤ 178 → g5 i k = h i k := fun i k p1 p2 => (ft4 i k (by unfold w_X12_refuseFar; omega))
    exact st_r0 (ls := []) ⟨rfl, rfl, fg5, t4, rfl, (by omega), (by refine ⟨by unfold P_X12_lead; by_cases zz : t4 = -4 <;> first | exact Or.inl ⟨by omega, hs6⟩, fun _ i k q9 => ?_⟩; exact (ft4 i k (jzma_w_X12_refuseFar q9)))⟩
  · replace c3 : ¬ t1 = 0 := by first | exact c3 | exact Int.not_le.mp c3 | exact Int.not_lt.mp c3 | exact Decidable.not_not.mp c3
    refine st_cs (na := 3) (st := [.inl 3, .inl (-1), .inl a2]) rfl rfl rfl (c_X12_in a2 (-1) 3 h) rfl ?_
    rintro _ _ _ ⟨rfl, rfl, t7, rfl, ht7, zt7⟩ kt7
    replace kt7 : -2147483648 ≤ t7 ∧ t7 ≤ 2147483647 := kt7
    replace ht7 : 0 ≤ t7 ∧ t7 ≤ 1 := ht7
    replace zt7 : (t7 = 1 ∧ (-1 : Int) ≤ a2 ∧ a2 ≤ (3 : Int)) ∨ (t7 = 0 ∧ ¬ ((-1 : Int) ≤ a2 ∧ a2 ≤ (3 : Int))) := zt7
    refine And.intro (fun c9 => ?_) (fun c9 => ?_)
    · replace c9 : ¬ t7 = 0 := c9
      show jGo E l 37 229 229 _ 24 [.inr (.inr (.inl 176)), .inl a1, .inl a2, .inr (.inr (.inr ()))] [] 229 jr0 h
      refine jGo_blk qX12_lead_24 ?_
      refine st_gr jo_176 jr_176_2 ?_
      refine st_ai jo_178 (show 0 ≤ a1 by omega) (show a1 < ((4 : Nat) : Int) by omega) (fun v10 ev10 b11 => ?_)
      replace ev10 : v10 = h 178 a1 := ev10
      replace b11 := (jba_178 a1 _).1 b11
      refine st_gr jo_176 jr_176_2 ?_
      refine st_si jo_178 (show 0 ≤ a1 by omega) (show a1 < ((4 : Nat) : Int) by omega) (fun hx => (jba_178 _ _).2 (show -1 ≤ a2 ∧ a2 ≤ 3 by omega)) (fun g12 eg12 => ?_)
      replace eg12 : g12 = jup h 178 a1 a2 := eg12
      have fg12 : jfr w_X12_lead h g12 := jfr_up f0 eg12 (by unfold w_X12_lead; omega)
      have e13 : g12 178 a1 = a2 := jup_s eg12
      have hs14 : g12 178 a1 = a2 := by
        exact jup_s eg12
      have hs15 : ∀ i k : Int, 178 ≤ i → i ≤ 178 → ¬ (i = 178 ∧ k = a1) → g12 i k = h i k := fun i k p1 p2 p3 => (jup_o eg12 (by first | exact fun q => absurd q.1 (by decide) | exact fun q => absurd q.2 (by decide) | omega))
      exact st_r0 (ls := []) ⟨rfl, rfl, fg12, v10, rfl, (by omega), (by refine ⟨by unfold P_X12_lead; first | exact Or.inr ⟨by omega, ⟨hs14, hs15⟩⟩, fun b9 => absurd b9 (by omega)⟩)⟩
    · replace c9 : t7 = 0 := by first | exact c9 | exact Int.not_le.mp c9 | exact Int.not_lt.mp c9 | exact Decidable.not_not.mp c9
      show jGo E l 37 229 229 _ 18 [.inr (.inr (.inl 176)), .inl a1, .inl a2, .inr (.inr (.inr ()))] [] 229 jr0 h
      refine jGo_blk qX12_lead_18 ?_
      refine st_cv (na := 1) (st := [.inl (-1), .inr (.inr (.inl 176))]) jo_176 rfl rfl rfl (c_X12_refuseFar (-1) h (by omega)) rfl ?_
      rintro _ _ g17 ⟨rfl, ft16, t16, rfl, ht16, zt16⟩ kt16
      replace kt16 : -2147483648 ≤ t16 ∧ t16 ≤ 2147483647 := kt16
      replace ht16 : 2000000001 ≤ t16 ∧ t16 ≤ 2000000007 := ht16
      have fg17 : jfr w_X12_lead h g17 := jfr_tr f0 ft16 ws_X12_refuseFar__X12_lead
      replace zt16 : t16 = 2000000000 - (-1 : Int) := zt16
      have hs18 : ∀ i k : Int, 178 ≤ i → i ≤ 178 → g17 i k = h i k := fun i k p1 p2 => (ft16 i k (by unfold w_X12_refuseFar; omega))
      exact st_r0 (ls := []) ⟨rfl, rfl, fg17, t16, rfl, (by omega), (by refine ⟨by unfold P_X12_lead; by_cases zz : t16 = -4 <;> first | exact Or.inl ⟨by omega, hs18⟩, fun _ i k q9 => ?_⟩; exact (ft16 i k (jzma_w_X12_refuseFar q9)))⟩

def k_X1_handsOfDay (a1 : Int) (a2 : Int) (h : JH) (v : Option JV) (r' g : JH) : Prop := r' = jr0 ∧ h = g ∧ ∃ x : Int, v = some (.inl x) ∧ (0 ≤ x ∧ x ≤ 400) ∧ (x = jHd h a1 a2 ∧ -1 ≤ h 4 a1 ∧ h 4 a1 ≤ 3 ∧ (h 4 a1 < 0 ∨ h 10 (h 4 a1) ≤ 30))
set_option maxHeartbeats 4000000 in
theorem c_X1_handsOfDay {E : JE} {l : Launch} (a1 : Int) (a2 : Int) (h : JH) (p1 : 0 ≤ a1 ∧ a1 ≤ 3) (p2 : 0 ≤ a2 ∧ a2 ≤ 2400) : jMt E l 38 [.inr (.inr (.inl 2)), .inl a1, .inl a2] 229 jr0 h (k_X1_handsOfDay a1 a2 h) := by
  refine jMt0 (nL := 4) (ls := [.inr (.inr (.inl 2)), .inl a1, .inl a2, .inr (.inr (.inr ()))]) (by decide +kernel) (by decide +kernel) (by decide +kernel) rfl rfl ?_
  refine jGo_blk qX1_handsOfDay_0 ?_
  refine st_gr jo_2 jr_2_1 ?_
  refine st_ai jo_4 (show 0 ≤ a1 by omega) (show a1 < ((4 : Nat) : Int) by omega) (fun v1 ev1 b2 => ?_)
  replace ev1 : v1 = h 4 a1 := ev1
  replace b2 := (jba_4 a1 _).1 b2
  refine And.intro (fun c3 => ?_) (fun c3 => ?_)
  · replace c3 : v1 = (-1) := c3
    show jGo E l 38 229 229 _ 21 [.inr (.inr (.inl 2)), .inl a1, .inl a2, .inl v1] [] 229 jr0 h
    refine jGo_blk qX1_handsOfDay_21 ?_
    refine st_gr jo_2 jr_2_0 ?_
    refine st_ai jo_3 (show 0 ≤ a1 by omega) (show a1 < ((4 : Nat) : Int) by omega) (fun v4 ev4 b5 => ?_)
    replace ev4 : v4 = h 3 a1 := ev4
    replace b5 := (jba_3 a1 _).1 b5
    have hp6 : v4 = jHd h a1 a2 ∧ -1 ≤ h 4 a1 ∧ h 4 a1 ≤ 3 ∧ (h 4 a1 < 0 ∨ h 10 (h 4 a1) ≤ 30) := by
      unfold jHd; rw [← ev1]
      exact ⟨ev4.trans (if_pos (by omega)).symm, by omega, by omega, by omega⟩
    exact st_r0 (ls := []) ⟨rfl, rfl, rfl, v4, rfl, (by omega), (by exact hp6)⟩
  · replace c3 : ¬ v1 = (-1) := by first | exact c3 | exact Int.not_le.mp c3 | exact Int.not_lt.mp c3 | exact Decidable.not_not.mp c3
    refine st_gr jo_2 jr_2_3 ?_
    refine st_ai jo_10 (show 0 ≤ v1 by omega) (show v1 < ((4 : Nat) : Int) by omega) (fun v7 ev7 b8 => ?_)
    replace ev7 : v7 = h 10 v1 := ev7
    replace b8 := (jba_10 v1 _).1 b8
    refine And.intro (fun c9 => ?_) (fun c9 => ?_)
    · replace c9 : 0 < v7 := c9
      show jGo E l 38 229 229 _ 28 [.inr (.inr (.inl 2)), .inl a1, .inl a2, .inl v1] [] 229 jr0 h
      refine jGo_blk qX1_handsOfDay_28 ?_
      refine st_gr jo_2 jr_2_2 ?_
      refine st_ar jo_5 (by decide) (show 0 ≤ v1 by omega) (show v1 < ((4 : Nat) : Int) by omega) (fun u10 eu10 => ?_)
      replace eu10 : u10 = jr0 5 v1 := eu10
      have qu10 : u10 = 6 + v1 := eu10.trans (jrow_5 v1 (by omega) (by omega)).1
      have ou10 : jF 229 u10 1 30 := by rw [eu10]; exact (jrow_5 v1 (by omega) (by omega)).2.1
      have wu10 : ∀ j v : Int, jbd u10 j v ↔ (0 ≤ v ∧ v ≤ 400) := by rw [eu10]; exact (jrow_5 v1 (by omega) (by omega)).2.2
      refine st_gr jo_2 jr_2_3 ?_
      refine st_ai jo_10 (show 0 ≤ v1 by omega) (show v1 < ((4 : Nat) : Int) by omega) (fun v11 ev11 b12 => ?_)
      replace ev11 : v11 = h 10 v1 := ev11
      replace b12 := (jba_10 v1 _).1 b12
      refine And.intro (show v11 ≠ 0 by omega) ?_
      have e13 : True ∧ 0 ≤ a2.tmod v11 ∧ a2.tmod v11 < v11 := ⟨trivial, (jmd (by omega) (by omega)).2⟩
      refine st_ai ou10 (show 0 ≤ a2.tmod v11 by omega) (show a2.tmod v11 < ((30 : Nat) : Int) by omega) (fun v14 ev14 b15 => ?_)
      replace ev14 : v14 = h u10 (a2.tmod v11) := ev14
      replace b15 := (wu10 (a2.tmod v11) _).1 b15
      have hp16 : v14 = jHd h a1 a2 ∧ -1 ≤ h 4 a1 ∧ h 4 a1 ≤ 3 ∧ (h 4 a1 < 0 ∨ h 10 (h 4 a1) ≤ 30) := by
        unfold jHd; rw [← ev1]
        exact ⟨by rw [if_neg (by omega), ev14, qu10, ev11], by omega, by omega, by omega⟩
      exact st_r0 (ls := []) ⟨rfl, rfl, rfl, v14, rfl, (by omega), (by exact hp16)⟩
    · replace c9 : v7 ≤ 0 := by first | exact c9 | exact Int.not_le.mp c9 | exact Int.not_lt.mp c9 | exact Decidable.not_not.mp c9
      show jGo E l 38 229 229 _ 21 [.inr (.inr (.inl 2)), .inl a1, .inl a2, .inl v1] [] 229 jr0 h
      refine jGo_blk qX1_handsOfDay_21 ?_
      refine st_gr jo_2 jr_2_0 ?_
      refine st_ai jo_3 (show 0 ≤ a1 by omega) (show a1 < ((4 : Nat) : Int) by omega) (fun v17 ev17 b18 => ?_)
      replace ev17 : v17 = h 3 a1 := ev17
      replace b18 := (jba_3 a1 _).1 b18
      have hp19 : v17 = jHd h a1 a2 ∧ -1 ≤ h 4 a1 ∧ h 4 a1 ≤ 3 ∧ (h 4 a1 < 0 ∨ h 10 (h 4 a1) ≤ 30) := by
        unfold jHd; rw [← ev1]
        exact ⟨ev17.trans (if_pos (by omega)).symm, by omega, by omega, by omega⟩
      exact st_r0 (ls := []) ⟨rfl, rfl, rfl, v17, rfl, (by omega), (by exact hp19)⟩

def w_X11_handsOn (i k : Int) : Prop := (i = 1)
theorem ws_X11_refused__X11_handsOn (i k : Int) (q : w_X11_refused i k) : w_X11_handsOn i k := by
  unfold w_X11_refused at q; unfold w_X11_handsOn
  exact (by omega)
def k_X11_handsOn (a1 : Int) (a2 : Int) (h : JH) (v : Option JV) (r' g : JH) : Prop := r' = jr0 ∧ jfr w_X11_handsOn h g ∧ ∃ x : Int, v = some (.inl x) ∧ (-7 ≤ x ∧ x ≤ 400) ∧ (P_X11_handsOn a1 a2 x h)
set_option maxHeartbeats 4000000 in
theorem c_X11_handsOn {E : JE} {l : Launch} (a1 : Int) (a2 : Int) (h : JH) : jMt E l 39 [.inr (.inr (.inl 0)), .inl a1, .inl a2] 229 jr0 h (k_X11_handsOn a1 a2 h) := by
  refine jMt0 (nL := 4) (ls := [.inr (.inr (.inl 0)), .inl a1, .inl a2, .inr (.inr (.inr ()))]) (by decide +kernel) (by decide +kernel) (by decide +kernel) rfl rfl ?_
  have f0 : jfr w_X11_handsOn h h := jfr_rf _ _
  refine jGo_blk qX11_handsOn_0 ?_
  refine st_cs (na := 2) (st := [.inl 4, .inl a1]) rfl rfl rfl (c_X11_within a1 4 h) rfl ?_
  rintro _ _ _ ⟨rfl, rfl, t1, rfl, ht1, zt1⟩ kt1
  replace kt1 : -2147483648 ≤ t1 ∧ t1 ≤ 2147483647 := kt1
  replace ht1 : 0 ≤ t1 ∧ t1 ≤ 1 := ht1
  replace zt1 : (t1 = 1 ∧ 0 ≤ a1 ∧ a1 < (4 : Int)) ∨ (t1 = 0 ∧ ¬ (0 ≤ a1 ∧ a1 < (4 : Int))) := zt1
  refine And.intro (fun c3 => ?_) (fun c3 => ?_)
  · replace c3 : ¬ t1 = 0 := c3
    show jGo E l 39 229 229 _ 12 [.inr (.inr (.inl 0)), .inl a1, .inl a2, .inr (.inr (.inr ()))] [] 229 jr0 h
    refine jGo_blk qX11_handsOn_12 ?_
    refine st_cs (na := 3) (st := [.inl 2000, .inl 0, .inl a2]) rfl rfl rfl (c_X11_outside a2 0 2000 h) rfl ?_
    rintro _ _ _ ⟨rfl, rfl, t4, rfl, ht4, zt4⟩ kt4
    replace kt4 : -2147483648 ≤ t4 ∧ t4 ≤ 2147483647 := kt4
    replace ht4 : -6 ≤ t4 ∧ t4 ≤ 0 := ht4
    replace zt4 : (t4 = -4 ∧ a2 < (0 : Int)) ∨ (t4 = -6 ∧ (0 : Int) ≤ a2 ∧ (2000 : Int) < a2) ∨ (t4 = 0 ∧ (0 : Int) ≤ a2 ∧ a2 ≤ (2000 : Int)) := zt4
    show jGo E l 39 229 229 _ 20 [.inr (.inr (.inl 0)), .inl a1, .inl a2, .inr (.inr (.inr ()))] [.inl t4] 229 jr0 h
    refine jGo_blk qX11_handsOn_20 ?_
    refine And.intro (fun c6 => ?_) (fun c6 => ?_)
    · replace c6 : t4 = 0 := c6
      show jGo E l 39 229 229 _ 33 [.inr (.inr (.inl 0)), .inl a1, .inl a2, .inl t4] [] 229 jr0 h
      refine jGo_blk qX11_handsOn_33 ?_
      refine st_gr jo_0 jr_0_2 ?_
      refine st_cv (na := 2) (st := [.inl a2, .inl a1, .inr (.inr (.inl 2))]) jo_2 rfl rfl rfl (c_X1_handsOfDay a1 a2 h (by omega) (by omega)) rfl ?_
      rintro _ _ _ ⟨rfl, rfl, t7, rfl, ht7, zt7⟩ kt7
      replace kt7 : -2147483648 ≤ t7 ∧ t7 ≤ 2147483647 := kt7
      replace ht7 : 0 ≤ t7 ∧ t7 ≤ 400 := ht7
      replace zt7 : t7 = jHd h a1 a2 ∧ -1 ≤ h 4 a1 ∧ h 4 a1 ≤ 3 ∧ (h 4 a1 < 0 ∨ h 10 (h 4 a1) ≤ 30) := zt7
      show jGo E l 39 229 229 _ 42 [.inr (.inr (.inl 0)), .inl a1, .inl a2, .inl t4] [.inl t7] 229 jr0 h
      refine jGo_blk qX11_handsOn_42 ?_
      exact st_r0 (ls := []) ⟨rfl, rfl, f0, t7, rfl, (by omega), (by unfold P_X11_handsOn; by_cases zz : t7 = -4 <;> first | exact Or.inl (by omega) | exact Or.inr (Or.inl (by omega)) | exact Or.inr (Or.inr (Or.inl (by omega))) | exact Or.inr (Or.inr (Or.inr (by omega))))⟩
    · replace c6 : ¬ t4 = 0 := by first | exact c6 | exact Int.not_le.mp c6 | exact Int.not_lt.mp c6 | exact Decidable.not_not.mp c6
      refine st_cv (na := 1) (st := [.inl t4, .inr (.inr (.inl 0))]) jo_0 rfl rfl rfl (c_X11_refused t4 h (by omega)) rfl ?_
      rintro _ _ g10 ⟨rfl, ft9, t9, rfl, ht9, zt9⟩ kt9
      replace kt9 : -2147483648 ≤ t9 ∧ t9 ≤ 2147483647 := kt9
      replace ht9 : -7 ≤ t9 ∧ t9 ≤ -1 := ht9
      have fg10 : jfr w_X11_handsOn h g10 := jfr_tr f0 ft9 ws_X11_refused__X11_handsOn
      replace zt9 : t9 = t4 := zt9
      show jGo E l 39 229 229 _ 42 [.inr (.inr (.inl 0)), .inl a1, .inl a2, .inl t4] [.inl t9] 229 jr0 g10
      refine jGo_blk qX11_handsOn_42 ?_
      exact st_r0 (ls := []) ⟨rfl, rfl, fg10, t9, rfl, (by omega), (by unfold P_X11_handsOn; by_cases zz : t9 = -4 <;> first | exact Or.inl (by omega) | exact Or.inr (Or.inl (by omega)) | exact Or.inr (Or.inr (Or.inl (by omega))) | exact Or.inr (Or.inr (Or.inr (by omega))))⟩
  · replace c3 : t1 = 0 := by first | exact c3 | exact Int.not_le.mp c3 | exact Int.not_lt.mp c3 | exact Decidable.not_not.mp c3
    show jGo E l 39 229 229 _ 20 [.inr (.inr (.inl 0)), .inl a1, .inl a2, .inr (.inr (.inr ()))] [.inl (-1)] 229 jr0 h
    refine jGo_blk qX11_handsOn_20 ?_
    refine And.intro (fun c11 => ?_) (fun c11 => ?_)
    · replace c11 : (-1 : Int) = 0 := c11
      exfalso; omega
    · replace c11 : ¬ (-1 : Int) = 0 := by first | exact c11 | exact Int.not_le.mp c11 | exact Int.not_lt.mp c11 | exact Decidable.not_not.mp c11
      refine st_cv (na := 1) (st := [.inl (-1), .inr (.inr (.inl 0))]) jo_0 rfl rfl rfl (c_X11_refused (-1) h (by omega)) rfl ?_
      rintro _ _ g13 ⟨rfl, ft12, t12, rfl, ht12, zt12⟩ kt12
      replace kt12 : -2147483648 ≤ t12 ∧ t12 ≤ 2147483647 := kt12
      replace ht12 : -7 ≤ t12 ∧ t12 ≤ -1 := ht12
      have fg13 : jfr w_X11_handsOn h g13 := jfr_tr f0 ft12 ws_X11_refused__X11_handsOn
      replace zt12 : t12 = (-1 : Int) := zt12
      show jGo E l 39 229 229 _ 42 [.inr (.inr (.inl 0)), .inl a1, .inl a2, .inl (-1)] [.inl t12] 229 jr0 g13
      refine jGo_blk qX11_handsOn_42 ?_
      exact st_r0 (ls := []) ⟨rfl, rfl, fg13, t12, rfl, (by omega), (by unfold P_X11_handsOn; by_cases zz : t12 = -4 <;> first | exact Or.inl (by omega) | exact Or.inr (Or.inl (by omega)) | exact Or.inr (Or.inr (Or.inl (by omega))) | exact Or.inr (Or.inr (Or.inr (by omega))))⟩

def k_X12_handsAt (a1 : Int) (a2 : Int) (h : JH) (v : Option JV) (r' g : JH) : Prop := r' = jr0 ∧ h = g ∧ ∃ x : Int, v = some (.inl x) ∧ (0 ≤ x ∧ x ≤ 400) ∧ (x = jHm h a1 a2 ∧ -1 ≤ h 178 a1 ∧ h 178 a1 ≤ 3 ∧ (h 178 a1 < 0 ∨ h 179 (h 178 a1) ≤ 30))
set_option maxHeartbeats 4000000 in
theorem c_X12_handsAt {E : JE} {l : Launch} (a1 : Int) (a2 : Int) (h : JH) (p1 : 0 ≤ a1 ∧ a1 ≤ 3) (p2 : 0 ≤ a2 ∧ a2 ≤ 2400) : jMt E l 40 [.inr (.inr (.inl 176)), .inl a1, .inl a2] 229 jr0 h (k_X12_handsAt a1 a2 h) := by
  refine jMt0 (nL := 4) (ls := [.inr (.inr (.inl 176)), .inl a1, .inl a2, .inr (.inr (.inr ()))]) (by decide +kernel) (by decide +kernel) (by decide +kernel) rfl rfl ?_
  refine jGo_blk qX12_handsAt_0 ?_
  refine st_gr jo_176 jr_176_2 ?_
  refine st_ai jo_178 (show 0 ≤ a1 by omega) (show a1 < ((4 : Nat) : Int) by omega) (fun v1 ev1 b2 => ?_)
  replace ev1 : v1 = h 178 a1 := ev1
  replace b2 := (jba_178 a1 _).1 b2
  refine And.intro (fun c3 => ?_) (fun c3 => ?_)
  · replace c3 : v1 < 0 := c3
    show jGo E l 40 229 229 _ 41 [.inr (.inr (.inl 176)), .inl a1, .inl a2, .inl v1] [] 229 jr0 h
    refine jGo_blk qX12_handsAt_41 ?_
    refine st_gr jo_176 jr_176_1 ?_
    refine st_ai jo_177 (show 0 ≤ a1 by omega) (show a1 < ((4 : Nat) : Int) by omega) (fun v4 ev4 b5 => ?_)
    replace ev4 : v4 = h 177 a1 := ev4
    replace b5 := (jba_177 a1 _).1 b5
    show jGo E l 40 229 229 _ 47 [.inr (.inr (.inl 176)), .inl a1, .inl a2, .inl v1] [.inl v4] 229 jr0 h
    refine jGo_blk qX12_handsAt_47 ?_
    have hp6 : v4 = jHm h a1 a2 ∧ -1 ≤ h 178 a1 ∧ h 178 a1 ≤ 3 ∧ (h 178 a1 < 0 ∨ h 179 (h 178 a1) ≤ 30) := by
      unfold jHm; rw [← ev1]
      exact ⟨ev4.trans (if_pos (by omega)).symm, by omega, by omega, by omega⟩
    exact st_r0 (ls := []) ⟨rfl, rfl, rfl, v4, rfl, (by omega), (by exact hp6)⟩
  · replace c3 : 0 ≤ v1 := by first | exact c3 | exact Int.not_le.mp c3 | exact Int.not_lt.mp c3 | exact Decidable.not_not.mp c3
    refine st_gr jo_176 jr_176_3 ?_
    refine st_ai jo_179 (show 0 ≤ v1 by omega) (show v1 < ((4 : Nat) : Int) by omega) (fun v7 ev7 b8 => ?_)
    replace ev7 : v7 = h 179 v1 := ev7
    replace b8 := (jba_179 v1 _).1 b8
    refine And.intro (fun c9 => ?_) (fun c9 => ?_)
    · replace c9 : v7 ≤ 0 := c9
      show jGo E l 40 229 229 _ 41 [.inr (.inr (.inl 176)), .inl a1, .inl a2, .inl v1] [] 229 jr0 h
      refine jGo_blk qX12_handsAt_41 ?_
      refine st_gr jo_176 jr_176_1 ?_
      refine st_ai jo_177 (show 0 ≤ a1 by omega) (show a1 < ((4 : Nat) : Int) by omega) (fun v10 ev10 b11 => ?_)
      replace ev10 : v10 = h 177 a1 := ev10
      replace b11 := (jba_177 a1 _).1 b11
      show jGo E l 40 229 229 _ 47 [.inr (.inr (.inl 176)), .inl a1, .inl a2, .inl v1] [.inl v10] 229 jr0 h
      refine jGo_blk qX12_handsAt_47 ?_
      have hp12 : v10 = jHm h a1 a2 ∧ -1 ≤ h 178 a1 ∧ h 178 a1 ≤ 3 ∧ (h 178 a1 < 0 ∨ h 179 (h 178 a1) ≤ 30) := by
        unfold jHm; rw [← ev1]
        exact ⟨ev10.trans (if_pos (by omega)).symm, by omega, by omega, by omega⟩
      exact st_r0 (ls := []) ⟨rfl, rfl, rfl, v10, rfl, (by omega), (by exact hp12)⟩
    · replace c9 : 0 < v7 := by first | exact c9 | exact Int.not_le.mp c9 | exact Int.not_lt.mp c9 | exact Decidable.not_not.mp c9
      refine st_gr jo_176 jr_176_4 ?_
      have e13 : jw32 (30 * v1) = 30 * v1 := jzj32 (by omega)
      refine st_gr jo_176 jr_176_3 ?_
      refine st_ai jo_179 (show 0 ≤ v1 by omega) (show v1 < ((4 : Nat) : Int) by omega) (fun v14 ev14 b15 => ?_)
      replace ev14 : v14 = h 179 v1 := ev14
      replace b15 := (jba_179 v1 _).1 b15
      refine And.intro (show v14 ≠ 0 by omega) ?_
      have e16 : True ∧ 0 ≤ a2.tmod v14 ∧ a2.tmod v14 < v14 := ⟨trivial, (jmd (by omega) (by omega)).2⟩
      have e17 : jw32 ((jw32 (30 * v1)) + (a2.tmod v14)) = (jw32 (30 * v1)) + (a2.tmod v14) := jzj32 (by omega)
      refine st_ai jo_180 (show 0 ≤ jw32 ((jw32 (30 * v1)) + (a2.tmod v14)) by omega) (show jw32 ((jw32 (30 * v1)) + (a2.tmod v14)) < ((120 : Nat) : Int) by omega) (fun v18 ev18 b19 => ?_)
      replace ev18 : v18 = h 180 (jw32 ((jw32 (30 * v1)) + (a2.tmod v14))) := ev18
      replace b19 := (jba_180 (jw32 ((jw32 (30 * v1)) + (a2.tmod v14))) _).1 b19
      show jGo E l 40 229 229 _ 47 [.inr (.inr (.inl 176)), .inl a1, .inl a2, .inl v1] [.inl v18] 229 jr0 h
      refine jGo_blk qX12_handsAt_47 ?_
      have hp20 : v18 = jHm h a1 a2 ∧ -1 ≤ h 178 a1 ∧ h 178 a1 ≤ 3 ∧ (h 178 a1 < 0 ∨ h 179 (h 178 a1) ≤ 30) := by
        unfold jHm; rw [← ev1]
        exact ⟨by rw [if_neg (by omega), ev18, show jw32 ((jw32 (30 * v1)) + (a2.tmod v14)) = 30 * v1 + a2.tmod (h 179 v1) by rw [← ev14]; omega], by omega, by omega, by omega⟩
      exact st_r0 (ls := []) ⟨rfl, rfl, rfl, v18, rfl, (by omega), (by exact hp20)⟩

def w_X12_handsOn (i k : Int) : Prop := (i = 219)
theorem ws_X12_refuse__X12_handsOn (i k : Int) (q : w_X12_refuse i k) : w_X12_handsOn i k := by
  unfold w_X12_refuse at q; unfold w_X12_handsOn
  exact (by omega)
def k_X12_handsOn (a1 : Int) (a2 : Int) (h : JH) (v : Option JV) (r' g : JH) : Prop := r' = jr0 ∧ jfr w_X12_handsOn h g ∧ ∃ x : Int, v = some (.inl x) ∧ (-7 ≤ x ∧ x ≤ 400) ∧ (P_X12_handsOn a1 a2 x h)
set_option maxHeartbeats 4000000 in
theorem c_X12_handsOn {E : JE} {l : Launch} (a1 : Int) (a2 : Int) (h : JH) : jMt E l 41 [.inr (.inr (.inl 176)), .inl a1, .inl a2] 229 jr0 h (k_X12_handsOn a1 a2 h) := by
  refine jMt0 (nL := 3) (ls := [.inr (.inr (.inl 176)), .inl a1, .inl a2]) (by decide +kernel) (by decide +kernel) (by decide +kernel) rfl rfl ?_
  have f0 : jfr w_X12_handsOn h h := jfr_rf _ _
  refine jGo_blk qX12_handsOn_0 ?_
  refine st_cs (na := 3) (st := [.inl 3, .inl 0, .inl a1]) rfl rfl rfl (c_X12_in a1 0 3 h) rfl ?_
  rintro _ _ _ ⟨rfl, rfl, t1, rfl, ht1, zt1⟩ kt1
  replace kt1 : -2147483648 ≤ t1 ∧ t1 ≤ 2147483647 := kt1
  replace ht1 : 0 ≤ t1 ∧ t1 ≤ 1 := ht1
  replace zt1 : (t1 = 1 ∧ (0 : Int) ≤ a1 ∧ a1 ≤ (3 : Int)) ∨ (t1 = 0 ∧ ¬ ((0 : Int) ≤ a1 ∧ a1 ≤ (3 : Int))) := zt1
  refine And.intro (fun c3 => ?_) (fun c3 => ?_)
  · replace c3 : ¬ t1 = 0 := c3
    show jGo E l 41 229 229 _ 15 [.inr (.inr (.inl 176)), .inl a1, .inl a2] [] 229 jr0 h
    refine jGo_blk qX12_handsOn_15 ?_
    refine And.intro (fun c4 => ?_) (fun c4 => ?_)
    · replace c4 : 0 ≤ a2 := c4
      show jGo E l 41 229 229 _ 26 [.inr (.inr (.inl 176)), .inl a1, .inl a2] [] 229 jr0 h
      refine jGo_blk qX12_handsOn_26 ?_
      refine And.intro (fun c5 => ?_) (fun c5 => ?_)
      · replace c5 : a2 ≤ 2000 := c5
        show jGo E l 41 229 229 _ 42 [.inr (.inr (.inl 176)), .inl a1, .inl a2] [] 229 jr0 h
        refine jGo_blk qX12_handsOn_42 ?_
        refine st_cv (na := 2) (st := [.inl a2, .inl a1, .inr (.inr (.inl 176))]) jo_176 rfl rfl rfl (c_X12_handsAt a1 a2 h (by omega) (by omega)) rfl ?_
        rintro _ _ _ ⟨rfl, rfl, t6, rfl, ht6, zt6⟩ kt6
        replace kt6 : -2147483648 ≤ t6 ∧ t6 ≤ 2147483647 := kt6
        replace ht6 : 0 ≤ t6 ∧ t6 ≤ 400 := ht6
        replace zt6 : t6 = jHm h a1 a2 ∧ -1 ≤ h 178 a1 ∧ h 178 a1 ≤ 3 ∧ (h 178 a1 < 0 ∨ h 179 (h 178 a1) ≤ 30) := zt6
        have y8 := zt6.1
        show jGo E l 41 229 229 _ 48 [.inr (.inr (.inl 176)), .inl a1, .inl a2] [.inl t6] 229 jr0 h
        refine jGo_blk qX12_handsOn_48 ?_
        exact st_r0 (ls := []) ⟨rfl, rfl, f0, t6, rfl, (by omega), (by unfold P_X12_handsOn; by_cases zz : t6 = -4 <;> first | exact Or.inl (by omega) | exact Or.inr (Or.inl (by omega)) | exact Or.inr (Or.inr (Or.inl (by omega))) | exact Or.inr (Or.inr (Or.inr (by omega))))⟩
      · replace c5 : 2000 < a2 := by first | exact c5 | exact Int.not_le.mp c5 | exact Int.not_lt.mp c5 | exact Decidable.not_not.mp c5
        refine st_cv (na := 1) (st := [.inl (-6), .inr (.inr (.inl 176))]) jo_176 rfl rfl rfl (c_X12_refuse (-6) h (by omega)) rfl ?_
        rintro _ _ g10 ⟨rfl, ft9, t9, rfl, ht9, zt9⟩ kt9
        replace kt9 : -2147483648 ≤ t9 ∧ t9 ≤ 2147483647 := kt9
        replace ht9 : -7 ≤ t9 ∧ t9 ≤ -1 := ht9
        have fg10 : jfr w_X12_handsOn h g10 := jfr_tr f0 ft9 ws_X12_refuse__X12_handsOn
        replace zt9 : t9 = (-6 : Int) := zt9
        show jGo E l 41 229 229 _ 48 [.inr (.inr (.inl 176)), .inl a1, .inl a2] [.inl t9] 229 jr0 g10
        refine jGo_blk qX12_handsOn_48 ?_
        exact st_r0 (ls := []) ⟨rfl, rfl, fg10, t9, rfl, (by omega), (by unfold P_X12_handsOn; by_cases zz : t9 = -4 <;> first | exact Or.inl (by omega) | exact Or.inr (Or.inl (by omega)) | exact Or.inr (Or.inr (Or.inl (by omega))) | exact Or.inr (Or.inr (Or.inr (by omega))))⟩
    · replace c4 : a2 < 0 := by first | exact c4 | exact Int.not_le.mp c4 | exact Int.not_lt.mp c4 | exact Decidable.not_not.mp c4
      refine st_cv (na := 1) (st := [.inl (-4), .inr (.inr (.inl 176))]) jo_176 rfl rfl rfl (c_X12_refuse (-4) h (by omega)) rfl ?_
      rintro _ _ g12 ⟨rfl, ft11, t11, rfl, ht11, zt11⟩ kt11
      replace kt11 : -2147483648 ≤ t11 ∧ t11 ≤ 2147483647 := kt11
      replace ht11 : -7 ≤ t11 ∧ t11 ≤ -1 := ht11
      have fg12 : jfr w_X12_handsOn h g12 := jfr_tr f0 ft11 ws_X12_refuse__X12_handsOn
      replace zt11 : t11 = (-4 : Int) := zt11
      exact st_r0 (ls := []) ⟨rfl, rfl, fg12, t11, rfl, (by omega), (by unfold P_X12_handsOn; by_cases zz : t11 = -4 <;> first | exact Or.inl (by omega) | exact Or.inr (Or.inl (by omega)) | exact Or.inr (Or.inr (Or.inl (by omega))) | exact Or.inr (Or.inr (Or.inr (by omega))))⟩
  · replace c3 : t1 = 0 := by first | exact c3 | exact Int.not_le.mp c3 | exact Int.not_lt.mp c3 | exact Decidable.not_not.mp c3
    refine st_cv (na := 1) (st := [.inl (-1), .inr (.inr (.inl 176))]) jo_176 rfl rfl rfl (c_X12_refuse (-1) h (by omega)) rfl ?_
    rintro _ _ g14 ⟨rfl, ft13, t13, rfl, ht13, zt13⟩ kt13
    replace kt13 : -2147483648 ≤ t13 ∧ t13 ≤ 2147483647 := kt13
    replace ht13 : -7 ≤ t13 ∧ t13 ≤ -1 := ht13
    have fg14 : jfr w_X12_handsOn h g14 := jfr_tr f0 ft13 ws_X12_refuse__X12_handsOn
    replace zt13 : t13 = (-1 : Int) := zt13
    exact st_r0 (ls := []) ⟨rfl, rfl, fg14, t13, rfl, (by omega), (by unfold P_X12_handsOn; by_cases zz : t13 = -4 <;> first | exact Or.inl (by omega) | exact Or.inr (Or.inl (by omega)) | exact Or.inr (Or.inr (Or.inl (by omega))) | exact Or.inr (Or.inr (Or.inr (by omega))))⟩

def k_X2_slotOf (a0 : Int) (a1 : Int) (h : JH) (v : Option JV) (r' g : JH) : Prop := r' = jr0 ∧ h = g ∧ ∃ x : Int, v = some (.inl x) ∧ (0 ≤ x ∧ x ≤ 9) ∧ (x = jsl a0 a1)
set_option maxHeartbeats 4000000 in
theorem c_X2_slotOf {E : JE} {l : Launch} (a0 : Int) (a1 : Int) (h : JH) (p1 : 0 ≤ a1 ∧ a1 ≤ 3) : jMt E l 42 [.inl a0, .inl a1] 229 jr0 h (k_X2_slotOf a0 a1 h) := by
  refine jMt0 (nL := 2) (ls := [.inl a0, .inl a1]) (by decide +kernel) (by decide +kernel) (by decide +kernel) rfl rfl ?_
  refine jGo_blk qX2_slotOf_0 ?_
  refine And.intro (fun c1 => ?_) (And.intro (fun c1 => ?_) (And.intro (fun c1 => ?_) (And.intro (fun c1 => ?_) (trivial))))
  · replace c1 : a0 < 0 ∨ 2 < a0 := c1
    show jGo E l 42 229 229 _ 37 [.inl a0, .inl a1] [] 229 jr0 h
    refine jGo_blk qX2_slotOf_37 ?_
    exact st_r0 (ls := []) ⟨rfl, rfl, rfl, 9, rfl, (by omega), (by unfold jsl; omega)⟩
  · replace c1 : a0 = 0 := c1
    show jGo E l 42 229 229 _ 28 [.inl a0, .inl a1] [] 229 jr0 h
    refine jGo_blk qX2_slotOf_28 ?_
    exact st_r0 (ls := []) ⟨rfl, rfl, rfl, a1, rfl, (by omega), (by unfold jsl; omega)⟩
  · replace c1 : a0 = 1 := c1
    show jGo E l 42 229 229 _ 30 [.inl a0, .inl a1] [] 229 jr0 h
    refine jGo_blk qX2_slotOf_30 ?_
    have e2 : jw32 (4 + a1) = 4 + a1 := jzj32 (by omega)
    exact st_r0 (ls := []) ⟨rfl, rfl, rfl, jw32 (4 + a1), rfl, (by omega), (by unfold jsl; omega)⟩
  · replace c1 : a0 = 2 := c1
    show jGo E l 42 229 229 _ 34 [.inl a0, .inl a1] [] 229 jr0 h
    refine jGo_blk qX2_slotOf_34 ?_
    exact st_r0 (ls := []) ⟨rfl, rfl, rfl, 8, rfl, (by omega), (by unfold jsl; omega)⟩

def w_X2_insert (i k : Int) : Prop := (12 ≤ i ∧ i ≤ 14) ∨ (i = 11 ∧ k = 0)
def k_X2_insert (a1 : Int) (a2 : Int) (a3 : Int) (h : JH) (v : Option JV) (r' g : JH) : Prop := r' = jr0 ∧ jfr w_X2_insert h g ∧ v = none ∧ (jIns a1 a2 a3 h g)
set_option maxHeartbeats 4000000 in
theorem c_X2_insert {E : JE} {l : Launch} (a1 : Int) (a2 : Int) (a3 : Int) (h : JH) (p1 : 0 ≤ a1 ∧ a1 ≤ 9) (p2 : 0 ≤ a2 ∧ a2 ≤ 200) (p3 : 0 ≤ a3 ∧ a3 ≤ 2000) (q0 : h 11 0 ≤ 39) : jMt E l 43 [.inr (.inr (.inl 11)), .inl a1, .inl a2, .inl a3] 229 jr0 h (k_X2_insert a1 a2 a3 h) := by
  refine jMt0 (nL := 5) (ls := [.inr (.inr (.inl 11)), .inl a1, .inl a2, .inl a3, .inr (.inr (.inr ()))]) (by decide +kernel) (by decide +kernel) (by decide +kernel) rfl rfl ?_
  have f0 : jfr w_X2_insert h h := jfr_rf _ _
  have key : ∀ N : Nat, (∀ (x4 : Int) (g : JH), (0 ≤ x4 ∧ x4 ≤ 39) → (g 11 0 = h 11 0) → (x4 ≤ h 11 0 ∧ (∀ i j : Int, 12 ≤ i → i ≤ 14 → 0 ≤ j → j < x4 → g i j = h i j) ∧ (∀ i j : Int, 12 ≤ i → i ≤ 14 → x4 ≤ j → j < h 11 0 → g i (j + 1) = h i j) ∧ ∀ j : Int, x4 ≤ j → j < h 11 0 → a3 < h 14 j) → jfr w_X2_insert h g → (x4 - 0) < (N : Int) → jGo E l 43 229 229 (jRK (k_X2_insert a1 a2 a3 h)) 6 [.inr (.inr (.inl 11)), .inl a1, .inl a2, .inl a3, .inl x4] [] 229 jr0 g) := by
    intro N
    induction N with
    | zero => exact fun _ _ hi hx0 hx1 _ hN => absurd hN (by omega)
    | succ N ih =>
      intro x4 g hi hx0 hx1 hf hN
      refine jGo_blk qX2_insert_6 ?_
      refine And.intro (fun c1 => ?_) (fun c1 => ?_)
      · replace c1 : x4 ≤ 0 := c1
        show jGo E l 43 229 229 _ 78 [.inr (.inr (.inl 11)), .inl a1, .inl a2, .inl a3, .inl x4] [] 229 jr0 g
        refine jGo_blk qX2_insert_78 ?_
        refine st_gr jo_11 jr_11_1 ?_
        refine st_si jo_12 (show 0 ≤ x4 by omega) (show x4 < ((40 : Nat) : Int) by omega) (fun hx => (jba_12 _ _).2 (show 0 ≤ a1 ∧ a1 ≤ 9 by omega)) (fun g2 eg2 => ?_)
        replace eg2 : g2 = jup g 12 x4 a1 := eg2
        have fg2 : jfr w_X2_insert h g2 := jfr_up hf eg2 (by unfold w_X2_insert; omega)
        have e3 : g2 12 x4 = a1 := jup_s eg2
        refine st_gr jo_11 jr_11_2 ?_
        refine st_si jo_13 (show 0 ≤ x4 by omega) (show x4 < ((40 : Nat) : Int) by omega) (fun hx => (jba_13 _ _).2 (show 0 ≤ a2 ∧ a2 ≤ 200 by omega)) (fun g4 eg4 => ?_)
        replace eg4 : g4 = jup g2 13 x4 a2 := eg4
        have fg4 : jfr w_X2_insert h g4 := jfr_up fg2 eg4 (by unfold w_X2_insert; omega)
        have e5 : g4 13 x4 = a2 := jup_s eg4
        refine st_gr jo_11 jr_11_3 ?_
        refine st_si jo_14 (show 0 ≤ x4 by omega) (show x4 < ((40 : Nat) : Int) by omega) (fun hx => (jba_14 _ _).2 (show 0 ≤ a3 ∧ a3 ≤ 2000 by omega)) (fun g6 eg6 => ?_)
        replace eg6 : g6 = jup g4 14 x4 a3 := eg6
        have fg6 : jfr w_X2_insert h g6 := jfr_up fg4 eg6 (by unfold w_X2_insert; omega)
        have e7 : g6 14 x4 = a3 := jup_s eg6
        refine st_gi jo_11 (fun v8 ev8 b9 => ?_)
        replace ev8 : v8 = g6 11 0 := ev8
        replace b9 := (jbf_2_0 jo_11 _).1 b9
        have e10 : g6 11 0 = g4 11 0 := jup_o eg6 (by first | exact fun q => absurd q.1 (by decide) | exact fun q => absurd q.2 (by decide) | omega)
        have e11 : g4 11 0 = g2 11 0 := jup_o eg4 (by first | exact fun q => absurd q.1 (by decide) | exact fun q => absurd q.2 (by decide) | omega)
        have e12 : g2 11 0 = g 11 0 := jup_o eg2 (by first | exact fun q => absurd q.1 (by decide) | exact fun q => absurd q.2 (by decide) | omega)
        have e13 : jw32 (v8 + 1) = v8 + 1 := jzj32 (by omega)
        refine st_pi jo_11 (fun hx => (jbf_2_0 jo_11 _).2 (show 0 ≤ jw32 (v8 + 1) ∧ jw32 (v8 + 1) ≤ 40 by omega)) (fun g14 eg14 => ?_)
        replace eg14 : g14 = jup g6 11 0 (jw32 (v8 + 1)) := eg14
        have fg14 : jfr w_X2_insert h g14 := jfr_up fg6 eg14 (by unfold w_X2_insert; omega)
        have e15 : g14 11 0 = jw32 (v8 + 1) := jup_s eg14
        have hc16 : jIns a1 a2 a3 h g14 := by
          refine ⟨by omega, x4, by omega, hx1.1, Or.inl (by omega), fun i j q1 q2 q3 q4 => ?_, fun i j q1 q2 q3 q4 => ?_, hx1.2.2.2, ?_, ?_, ?_⟩
          · have E0 := jup_i eg14 i j; have E1 := jup_i eg6 i j; have E2 := jup_i eg4 i j; have E3 := jup_i eg2 i j; have E9 := hx1.2.1 i j q1 q2 q3 q4; omega
          · have E0 := jup_i eg14 i (j + 1); have E1 := jup_i eg6 i (j + 1); have E2 := jup_i eg4 i (j + 1); have E3 := jup_i eg2 i (j + 1); have E9 := hx1.2.2.1 i j q1 q2 q3 q4; omega
          · have E0 := jup_i eg14 12 x4; have E1 := jup_i eg6 12 x4; have E2 := jup_i eg4 12 x4; have E3 := jup_i eg2 12 x4; omega
          · have E0 := jup_i eg14 13 x4; have E1 := jup_i eg6 13 x4; have E2 := jup_i eg4 13 x4; have E3 := jup_i eg2 13 x4; omega
          · have E0 := jup_i eg14 14 x4; have E1 := jup_i eg6 14 x4; have E2 := jup_i eg4 14 x4; have E3 := jup_i eg2 14 x4; omega
        exact ⟨rfl, rfl, fg14, rfl, (by exact hc16)⟩
      · replace c1 : 0 < x4 := by first | exact c1 | exact Int.not_le.mp c1 | exact Int.not_lt.mp c1 | exact Decidable.not_not.mp c1
        refine st_gr jo_11 jr_11_3 ?_
        have e17 : jw32 (x4 - 1) = x4 - 1 := jzj32 (by omega)
        refine st_ai jo_14 (show 0 ≤ jw32 (x4 - 1) by omega) (show jw32 (x4 - 1) < ((40 : Nat) : Int) by omega) (fun v18 ev18 b19 => ?_)
        replace ev18 : v18 = g 14 (jw32 (x4 - 1)) := ev18
        replace b19 := (jba_14 (jw32 (x4 - 1)) _).1 b19
        refine And.intro (fun c20 => ?_) (fun c20 => ?_)
        · replace c20 : v18 ≤ a3 := c20
          show jGo E l 43 229 229 _ 78 [.inr (.inr (.inl 11)), .inl a1, .inl a2, .inl a3, .inl x4] [] 229 jr0 g
          refine jGo_blk qX2_insert_78 ?_
          refine st_gr jo_11 jr_11_1 ?_
          refine st_si jo_12 (show 0 ≤ x4 by omega) (show x4 < ((40 : Nat) : Int) by omega) (fun hx => (jba_12 _ _).2 (show 0 ≤ a1 ∧ a1 ≤ 9 by omega)) (fun g21 eg21 => ?_)
          replace eg21 : g21 = jup g 12 x4 a1 := eg21
          have fg21 : jfr w_X2_insert h g21 := jfr_up hf eg21 (by unfold w_X2_insert; omega)
          have e22 : g21 12 x4 = a1 := jup_s eg21
          refine st_gr jo_11 jr_11_2 ?_
          refine st_si jo_13 (show 0 ≤ x4 by omega) (show x4 < ((40 : Nat) : Int) by omega) (fun hx => (jba_13 _ _).2 (show 0 ≤ a2 ∧ a2 ≤ 200 by omega)) (fun g23 eg23 => ?_)
          replace eg23 : g23 = jup g21 13 x4 a2 := eg23
          have fg23 : jfr w_X2_insert h g23 := jfr_up fg21 eg23 (by unfold w_X2_insert; omega)
          have e24 : g23 13 x4 = a2 := jup_s eg23
          refine st_gr jo_11 jr_11_3 ?_
          refine st_si jo_14 (show 0 ≤ x4 by omega) (show x4 < ((40 : Nat) : Int) by omega) (fun hx => (jba_14 _ _).2 (show 0 ≤ a3 ∧ a3 ≤ 2000 by omega)) (fun g25 eg25 => ?_)
          replace eg25 : g25 = jup g23 14 x4 a3 := eg25
          have fg25 : jfr w_X2_insert h g25 := jfr_up fg23 eg25 (by unfold w_X2_insert; omega)
          have e26 : g25 14 x4 = a3 := jup_s eg25
          refine st_gi jo_11 (fun v27 ev27 b28 => ?_)
          replace ev27 : v27 = g25 11 0 := ev27
          replace b28 := (jbf_2_0 jo_11 _).1 b28
          have e29 : g25 11 0 = g23 11 0 := jup_o eg25 (by first | exact fun q => absurd q.1 (by decide) | exact fun q => absurd q.2 (by decide) | omega)
          have e30 : g23 11 0 = g21 11 0 := jup_o eg23 (by first | exact fun q => absurd q.1 (by decide) | exact fun q => absurd q.2 (by decide) | omega)
          have e31 : g21 11 0 = g 11 0 := jup_o eg21 (by first | exact fun q => absurd q.1 (by decide) | exact fun q => absurd q.2 (by decide) | omega)
          have e32 : jw32 (v27 + 1) = v27 + 1 := jzj32 (by omega)
          refine st_pi jo_11 (fun hx => (jbf_2_0 jo_11 _).2 (show 0 ≤ jw32 (v27 + 1) ∧ jw32 (v27 + 1) ≤ 40 by omega)) (fun g33 eg33 => ?_)
          replace eg33 : g33 = jup g25 11 0 (jw32 (v27 + 1)) := eg33
          have fg33 : jfr w_X2_insert h g33 := jfr_up fg25 eg33 (by unfold w_X2_insert; omega)
          have e34 : g33 11 0 = jw32 (v27 + 1) := jup_s eg33
          have hc35 : jIns a1 a2 a3 h g33 := by
            have u0 : jw32 (x4 - 1) = x4 - 1 := jzj32 (by omega)
            have R17 : v18 = h 14 (x4 - 1) := ev18.trans (by rw [u0]; exact hx1.2.1 14 (x4 - 1) (by decide) (by decide) (by omega) (by omega))
            refine ⟨by omega, x4, by omega, hx1.1, Or.inr (by omega), fun i j q1 q2 q3 q4 => ?_, fun i j q1 q2 q3 q4 => ?_, hx1.2.2.2, ?_, ?_, ?_⟩
            · have E0 := jup_i eg33 i j; have E1 := jup_i eg25 i j; have E2 := jup_i eg23 i j; have E3 := jup_i eg21 i j; have E9 := hx1.2.1 i j q1 q2 q3 q4; omega
            · have E0 := jup_i eg33 i (j + 1); have E1 := jup_i eg25 i (j + 1); have E2 := jup_i eg23 i (j + 1); have E3 := jup_i eg21 i (j + 1); have E9 := hx1.2.2.1 i j q1 q2 q3 q4; omega
            · have E0 := jup_i eg33 12 x4; have E1 := jup_i eg25 12 x4; have E2 := jup_i eg23 12 x4; have E3 := jup_i eg21 12 x4; omega
            · have E0 := jup_i eg33 13 x4; have E1 := jup_i eg25 13 x4; have E2 := jup_i eg23 13 x4; have E3 := jup_i eg21 13 x4; omega
            · have E0 := jup_i eg33 14 x4; have E1 := jup_i eg25 14 x4; have E2 := jup_i eg23 14 x4; have E3 := jup_i eg21 14 x4; omega
          exact ⟨rfl, rfl, fg33, rfl, (by exact hc35)⟩
        · replace c20 : a3 < v18 := by first | exact c20 | exact Int.not_le.mp c20 | exact Int.not_lt.mp c20 | exact Decidable.not_not.mp c20
          refine st_gr jo_11 jr_11_1 ?_
          refine st_gr jo_11 jr_11_1 ?_
          have e36 : jw32 (x4 - 1) = x4 - 1 := jzj32 (by omega)
          refine st_ai jo_12 (show 0 ≤ jw32 (x4 - 1) by omega) (show jw32 (x4 - 1) < ((40 : Nat) : Int) by omega) (fun v37 ev37 b38 => ?_)
          replace ev37 : v37 = g 12 (jw32 (x4 - 1)) := ev37
          replace b38 := (jba_12 (jw32 (x4 - 1)) _).1 b38
          refine st_si jo_12 (show 0 ≤ x4 by omega) (show x4 < ((40 : Nat) : Int) by omega) (fun hx => (jba_12 _ _).2 (show 0 ≤ v37 ∧ v37 ≤ 9 by omega)) (fun g39 eg39 => ?_)
          replace eg39 : g39 = jup g 12 x4 v37 := eg39
          have fg39 : jfr w_X2_insert h g39 := jfr_up hf eg39 (by unfold w_X2_insert; omega)
          have e40 : g39 12 x4 = v37 := jup_s eg39
          refine st_gr jo_11 jr_11_2 ?_
          refine st_gr jo_11 jr_11_2 ?_
          have e41 : jw32 (x4 - 1) = x4 - 1 := jzj32 (by omega)
          refine st_ai jo_13 (show 0 ≤ jw32 (x4 - 1) by omega) (show jw32 (x4 - 1) < ((40 : Nat) : Int) by omega) (fun v42 ev42 b43 => ?_)
          replace ev42 : v42 = g39 13 (jw32 (x4 - 1)) := ev42
          replace b43 := (jba_13 (jw32 (x4 - 1)) _).1 b43
          refine st_si jo_13 (show 0 ≤ x4 by omega) (show x4 < ((40 : Nat) : Int) by omega) (fun hx => (jba_13 _ _).2 (show 0 ≤ v42 ∧ v42 ≤ 200 by omega)) (fun g44 eg44 => ?_)
          replace eg44 : g44 = jup g39 13 x4 v42 := eg44
          have fg44 : jfr w_X2_insert h g44 := jfr_up fg39 eg44 (by unfold w_X2_insert; omega)
          have e45 : g44 13 x4 = v42 := jup_s eg44
          refine st_gr jo_11 jr_11_3 ?_
          refine st_gr jo_11 jr_11_3 ?_
          have e46 : jw32 (x4 - 1) = x4 - 1 := jzj32 (by omega)
          refine st_ai jo_14 (show 0 ≤ jw32 (x4 - 1) by omega) (show jw32 (x4 - 1) < ((40 : Nat) : Int) by omega) (fun v47 ev47 b48 => ?_)
          replace ev47 : v47 = g44 14 (jw32 (x4 - 1)) := ev47
          replace b48 := (jba_14 (jw32 (x4 - 1)) _).1 b48
          refine st_si jo_14 (show 0 ≤ x4 by omega) (show x4 < ((40 : Nat) : Int) by omega) (fun hx => (jba_14 _ _).2 (show 0 ≤ v47 ∧ v47 ≤ 2000 by omega)) (fun g49 eg49 => ?_)
          replace eg49 : g49 = jup g44 14 x4 v47 := eg49
          have fg49 : jfr w_X2_insert h g49 := jfr_up fg44 eg49 (by unfold w_X2_insert; omega)
          have e50 : g49 14 x4 = v47 := jup_s eg49
          have e51 : jw32 (x4 + (-1)) = x4 + (-1) := jzj32 (by omega)
          show jGo E l 43 229 229 _ 6 [.inr (.inr (.inl 11)), .inl a1, .inl a2, .inl a3, .inl (jw32 (x4 + (-1)))] [] 229 jr0 g49
          have e52 : g49 11 0 = g44 11 0 := jup_o eg49 (by first | exact fun q => absurd q.1 (by decide) | exact fun q => absurd q.2 (by decide) | omega)
          have e53 : g44 11 0 = g39 11 0 := jup_o eg44 (by first | exact fun q => absurd q.1 (by decide) | exact fun q => absurd q.2 (by decide) | omega)
          have e54 : g39 11 0 = g 11 0 := jup_o eg39 (by first | exact fun q => absurd q.1 (by decide) | exact fun q => absurd q.2 (by decide) | omega)
          have hc55 : (jw32 (x4 + (-1))) ≤ h 11 0 ∧ (∀ i j : Int, 12 ≤ i → i ≤ 14 → 0 ≤ j → j < (jw32 (x4 + (-1))) → g49 i j = h i j) ∧ (∀ i j : Int, 12 ≤ i → i ≤ 14 → (jw32 (x4 + (-1))) ≤ j → j < h 11 0 → g49 i (j + 1) = h i j) ∧ ∀ j : Int, (jw32 (x4 + (-1))) ≤ j → j < h 11 0 → a3 < h 14 j := by
            have u0 : jw32 (x4 - 1) = x4 - 1 := jzj32 (by omega)
            have R12 : v37 = h 12 (x4 - 1) := ev37.trans (by rw [u0]; exact hx1.2.1 12 (x4 - 1) (by decide) (by decide) (by omega) (by omega))
            have R13 : v42 = h 13 (x4 - 1) := ev42.trans ((jup_o eg39 (by first | exact fun q => absurd q.1 (by decide) | exact fun q => absurd q.2 (by decide) | omega)).trans (by rw [u0]; exact hx1.2.1 13 (x4 - 1) (by decide) (by decide) (by omega) (by omega)))
            have R14 : v47 = h 14 (x4 - 1) := ev47.trans ((jup_o eg44 (by first | exact fun q => absurd q.1 (by decide) | exact fun q => absurd q.2 (by decide) | omega)).trans ((jup_o eg39 (by first | exact fun q => absurd q.1 (by decide) | exact fun q => absurd q.2 (by decide) | omega)).trans (by rw [u0]; exact hx1.2.1 14 (x4 - 1) (by decide) (by decide) (by omega) (by omega))))
            have R17 : v18 = h 14 (x4 - 1) := ev18.trans (by rw [u0]; exact hx1.2.1 14 (x4 - 1) (by decide) (by decide) (by omega) (by omega))
            refine ⟨by omega, fun i j q1 q2 q3 q4 => ?_, fun i j q1 q2 q3 q4 => ?_, fun j q3 q4 => ?_⟩
            · have E1 := jup_i eg49 i j; have E2 := jup_i eg44 i j; have E3 := jup_i eg39 i j; have E4 := hx1.2.1 i j q1 q2 q3 (by omega); omega
            · by_cases z : j = x4 - 1
              · have E1 := jup_i eg49 i (j + 1); have E2 := jup_i eg44 i (j + 1); have E3 := jup_i eg39 i (j + 1)
                rcases (show i = 12 ∨ i = 13 ∨ i = 14 by omega) with y | y | y <;> subst y <;> rw [z] at E1 E2 E3 ⊢ <;> omega
              · have E1 := jup_i eg49 i (j + 1); have E2 := jup_i eg44 i (j + 1); have E3 := jup_i eg39 i (j + 1); have E4 := hx1.2.2.1 i j q1 q2 (by omega) q4; omega
            · by_cases z : j = x4 - 1
              · rw [z]; omega
              · exact hx1.2.2.2 j (by omega) q4
          exact ih (jw32 (x4 + (-1))) g49 (by omega) (by omega) (by exact hc55) fg49 (by omega)
  refine jGo_blk qX2_insert_0 ?_
  refine st_gi jo_11 (fun v56 ev56 b57 => ?_)
  replace ev56 : v56 = h 11 0 := ev56
  replace b57 := (jbf_2_0 jo_11 _).1 b57
  show jGo E l 43 229 229 _ 6 [.inr (.inr (.inl 11)), .inl a1, .inl a2, .inl a3, .inl v56] [] 229 jr0 h
  exact (key 1000000000000) v56 h (by omega) (by omega) (by exact ⟨by omega, fun i j _ _ _ _ => rfl, fun i j _ _ a b => absurd b (by omega), fun j a b => absurd b (by omega)⟩) f0 (by omega)
