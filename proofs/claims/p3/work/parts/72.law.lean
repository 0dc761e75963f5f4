/-! ===== THE LAW'S LOOP (by program) ===== -/
def jLI (h : JH) : Prop := h 176 0 ≤ 2000 ∧ jLG 0 h
theorem jLI_fr {h g : JH} (e : g 176 0 = h 176 0) (e0 : g 0 0 = h 0 0) (e87 : ∀ t : Int, g 87 t = h 87 t) (q : jLI h) : jLI g := ⟨by rw [e]; exact q.1, jLG_fr e0 e87 q.2⟩
def jlRT : JR := fun v _ _ _ => v = some (.inl 1)
theorem st_alx {E : JE} {K : JK} {ls s : List JV} {n : Nat} {r h : JH} (kk : ∀ v, v = ((E.2.2.2.2.1 : Nat) : Int) → K ls (.inl v :: s) n r h) : jaln E K ls (.inr (.inr (.inl (-2))) :: s) n r h := ⟨fun q => absurd q (by decide), fun _ => ⟨rfl, kk _ rfl⟩⟩
set_option maxHeartbeats 40000000 in
set_option maxRecDepth 20000 in
theorem law_loop {E : JE} {l : Launch} (hE : E.2.2.2.2.1 ≤ 3072) : ∀ N : Nat, ∀ (x3 : Int) (g : JH), (0 ≤ x3 ∧ x3 ≤ 3072) → jLI g → jI g → 3072 - x3 < (N : Int) → jGo E l 179 0 229 jlRT 18 [.inr (.inr (.inl (-2))), .inr (.inr (.inl 0)), .inr (.inr (.inl 176)), .inl x3] [] 229 jr0 g := by
  intro N
  induction N with
  | zero => exact fun x3 g hi _ _ hN => absurd hN (by omega)
  | succ N ih =>
      intro x3 g hi li sm hN
      have dli : g 176 0 ≤ 2000 := li.1
      have dd0 : 0 ≤ g 0 0 := li.2.1
      refine jGo_bd (fun hbd9 => ?_)
      refine jGo_blk qL_law_18 ?_
      refine st_alx (fun v1 ev1 => ?_)
      replace ev1 : v1 = ((E.2.2.2.2.1 : Nat) : Int) := ev1
      have bv1 : 0 ≤ v1 ∧ v1 ≤ 3072 := by omega
      have e2 : jw32 (v1 - 6) = v1 - 6 := j32e (by omega) (by omega)
      refine And.intro (fun c3 => ?_) (fun c3 => ?_)
      · replace c3 : jw32 (v1 - 6) < x3 := c3
        show jGo E l 179 0 229 _ 1416 [.inr (.inr (.inl (-2))), .inr (.inr (.inl 0)), .inr (.inr (.inl 176)), .inl x3] [] 229 jr0 g
        refine jGo_blk qL_law_1416 ?_
        exact st_r1 (ls := []) (Or.inr rfl) rfl
      · replace c3 : x3 ≤ jw32 (v1 - 6) := by first | exact c3 | exact Int.not_le.mp c3 | exact Int.not_lt.mp c3 | exact Decidable.not_not.mp c3
        refine st_xi (N := E.2.2.2.2.1) (by decide) (by decide) rfl (show 0 ≤ x3 by omega) (show x3 < ((E.2.2.2.2.1 : Nat) : Int) by omega) (fun v4 ev4 => ?_)
        replace ev4 : v4 = jxv E (-2) x3 := ev4
        have e5 := jand_le2 v4 63 (by omega) (by omega)
        refine And.intro (fun c6 => ?_) (And.intro (fun c6 => ?_) (And.intro (fun c6 => ?_) (And.intro (fun c6 => ?_) (And.intro (fun c6 => ?_) (And.intro (fun c6 => ?_) (And.intro (fun c6 => ?_) (And.intro (fun c6 => ?_) (And.intro (fun c6 => ?_) (And.intro (fun c6 => ?_) (And.intro (fun c6 => ?_) (And.intro (fun c6 => ?_) (And.intro (fun c6 => ?_) (And.intro (fun c6 => ?_) (And.intro (fun c6 => ?_) (And.intro (fun c6 => ?_) (And.intro (fun c6 => ?_) (And.intro (fun c6 => ?_) (And.intro (fun c6 => ?_) (And.intro (fun c6 => ?_) (And.intro (fun c6 => ?_) (And.intro (fun c6 => ?_) (And.intro (fun c6 => ?_) (And.intro (fun c6 => ?_) (And.intro (fun c6 => ?_) (And.intro (fun c6 => ?_) (And.intro (fun c6 => ?_) (And.intro (fun c6 => ?_) (And.intro (fun c6 => ?_) (And.intro (fun c6 => ?_) (And.intro (fun c6 => ?_) (And.intro (fun c6 => ?_) (And.intro (fun c6 => ?_) (And.intro (fun c6 => ?_) (And.intro (fun c6 => ?_) (And.intro (fun c6 => ?_) (And.intro (fun c6 => ?_) (trivial)))))))))))))))))))))))))))))))))))))
        · replace c6 : jand v4 63 < 0 ∨ 35 < jand v4 63 := c6
          show jGo E l 179 0 229 _ 1410 [.inr (.inr (.inl (-2))), .inr (.inr (.inl 0)), .inr (.inr (.inl 176)), .inl x3] [] 229 jr0 g
          refine jGo_blk qL_law_1410 ?_
          have e7 : jw32 (x3 + 6) = x3 + 6 := j32e (by omega) (by omega)
          show jGo E l 179 0 229 _ 18 [.inr (.inr (.inl (-2))), .inr (.inr (.inl 0)), .inr (.inr (.inl 176)), .inl (jw32 (x3 + 6))] [] 229 jr0 g
          exact ih (jw32 (x3 + 6)) g (by omega) li sm (by omega)
        · replace c6 : jand v4 63 = 0 := c6
          show jGo E l 179 0 229 _ 192 [.inr (.inr (.inl (-2))), .inr (.inr (.inl 0)), .inr (.inr (.inl 176)), .inl x3] [] 229 jr0 g
          refine jGo_blk qL_law_192 ?_
          have e8 : jw32 (x3 + 1) = x3 + 1 := j32e (by omega) (by omega)
          refine st_xi (N := E.2.2.2.2.1) (by decide) (by decide) rfl (show 0 ≤ jw32 (x3 + 1) by omega) (show jw32 (x3 + 1) < ((E.2.2.2.2.1 : Nat) : Int) by omega) (fun v9 ev9 => ?_)
          replace ev9 : v9 = jxv E (-2) (jw32 (x3 + 1)) := ev9
          have e10 : jw32 (x3 + 2) = x3 + 2 := j32e (by omega) (by omega)
          refine st_xi (N := E.2.2.2.2.1) (by decide) (by decide) rfl (show 0 ≤ jw32 (x3 + 2) by omega) (show jw32 (x3 + 2) < ((E.2.2.2.2.1 : Nat) : Int) by omega) (fun v11 ev11 => ?_)
          replace ev11 : v11 = jxv E (-2) (jw32 (x3 + 2)) := ev11
          refine st_cv (na := 2) (st := [.inl v11, .inl v9, .inr (.inr (.inl 0))]) jo_0 rfl rfl rfl (c_X11_hands v9 v11 g) rfl ?_
          rintro _ _ g13 ⟨rfl, ft12, t12, rfl, ht12, zt12⟩ kt12
          replace kt12 : -2147483648 ≤ t12 ∧ t12 ≤ 2147483647 := kt12
          replace ht12 : -7 ≤ t12 ∧ t12 ≤ 400 := ht12
          replace zt12 : P_X11_hands v9 v11 t12 g g13 := zt12
          have li14 : jLI g13 := jLI_fr (ft12 176 0 (by unfold w_X11_hands; omega)) (ft12 0 0 (by unfold w_X11_hands; omega)) (fun t => ft12 87 t (by unfold w_X11_hands; omega)) li
          have dli14 : g13 176 0 ≤ 2000 := li14.1
          have e16 : jw32 (x3 + 1) = x3 + 1 := j32e (by omega) (by omega)
          refine st_xi (N := E.2.2.2.2.1) (by decide) (by decide) rfl (show 0 ≤ jw32 (x3 + 1) by omega) (show jw32 (x3 + 1) < ((E.2.2.2.2.1 : Nat) : Int) by omega) (fun v17 ev17 => ?_)
          replace ev17 : v17 = jxv E (-2) (jw32 (x3 + 1)) := ev17
          have e18 : jw32 (x3 + 2) = x3 + 2 := j32e (by omega) (by omega)
          refine st_xi (N := E.2.2.2.2.1) (by decide) (by decide) rfl (show 0 ≤ jw32 (x3 + 2) by omega) (show jw32 (x3 + 2) < ((E.2.2.2.2.1 : Nat) : Int) by omega) (fun v19 ev19 => ?_)
          replace ev19 : v19 = jxv E (-2) (jw32 (x3 + 2)) := ev19
          refine st_cv (na := 2) (st := [.inl v19, .inl v17, .inr (.inr (.inl 176))]) jo_176 rfl rfl rfl (c_X12_hands v17 v19 g13) rfl ?_
          rintro _ _ g21 ⟨rfl, ft20, t20, rfl, ht20, zt20⟩ kt20
          replace kt20 : -2147483648 ≤ t20 ∧ t20 ≤ 2147483647 := kt20
          replace ht20 : -7 ≤ t20 ∧ t20 ≤ 400 := ht20
          replace zt20 : P_X12_hands v17 v19 t20 g13 g21 := zt20
          have li22 : jLI g21 := jLI_fr (ft20 176 0 (by unfold w_X12_hands; omega)) (ft20 0 0 (by unfold w_X12_hands; omega)) (fun t => ft20 87 t (by unfold w_X12_hands; omega)) li14
          have dli22 : g21 176 0 ≤ 2000 := li22.1
          rw [show v17 = v9 by omega, show v19 = v11 by omega] at zt20
          have qe24 := pr_hands ft12 ft20 zt12 zt20 sm
          have eqe24 := qe24.1
          have sm23 : jI g21 := qe24.2
          clear qe24 zt20
          show jGo E l 179 0 229 _ 1410 [.inr (.inr (.inl (-2))), .inr (.inr (.inl 0)), .inr (.inr (.inl 176)), .inl x3] [] 229 jr0 g21
          refine jGo_blk qL_law_1410 ?_
          have e25 : jw32 (x3 + 6) = x3 + 6 := j32e (by omega) (by omega)
          show jGo E l 179 0 229 _ 18 [.inr (.inr (.inl (-2))), .inr (.inr (.inl 0)), .inr (.inr (.inl 176)), .inl (jw32 (x3 + 6))] [] 229 jr0 g21
          exact ih (jw32 (x3 + 6)) g21 (by omega) li22 sm23 (by omega)
        · replace c6 : jand v4 63 = 1 := c6
          show jGo E l 179 0 229 _ 225 [.inr (.inr (.inl (-2))), .inr (.inr (.inl 0)), .inr (.inr (.inl 176)), .inl x3] [] 229 jr0 g
          refine jGo_blk qL_law_225 ?_
          have e26 : jw32 (x3 + 1) = x3 + 1 := j32e (by omega) (by omega)
          refine st_xi (N := E.2.2.2.2.1) (by decide) (by decide) rfl (show 0 ≤ jw32 (x3 + 1) by omega) (show jw32 (x3 + 1) < ((E.2.2.2.2.1 : Nat) : Int) by omega) (fun v27 ev27 => ?_)
          replace ev27 : v27 = jxv E (-2) (jw32 (x3 + 1)) := ev27
          have e28 : jw32 (x3 + 2) = x3 + 2 := j32e (by omega) (by omega)
          refine st_xi (N := E.2.2.2.2.1) (by decide) (by decide) rfl (show 0 ≤ jw32 (x3 + 2) by omega) (show jw32 (x3 + 2) < ((E.2.2.2.2.1 : Nat) : Int) by omega) (fun v29 ev29 => ?_)
          replace ev29 : v29 = jxv E (-2) (jw32 (x3 + 2)) := ev29
          refine st_cv (na := 2) (st := [.inl v29, .inl v27, .inr (.inr (.inl 0))]) jo_0 rfl rfl rfl (c_X11_bring v27 v29 g) rfl ?_
          rintro _ _ g31 ⟨rfl, ft30, t30, rfl, ht30, zt30⟩ kt30
          replace kt30 : -2147483648 ≤ t30 ∧ t30 ≤ 2147483647 := kt30
          replace zt30 : P_X11_bring v27 v29 t30 g g31 := zt30
          have li32 : jLI g31 := jLI_fr (ft30 176 0 (by unfold w_X11_bring; omega)) (ft30 0 0 (by unfold w_X11_bring; omega)) (fun t => ft30 87 t (by unfold w_X11_bring; omega)) li
          have dli32 : g31 176 0 ≤ 2000 := li32.1
          have e34 : jw32 (x3 + 1) = x3 + 1 := j32e (by omega) (by omega)
          refine st_xi (N := E.2.2.2.2.1) (by decide) (by decide) rfl (show 0 ≤ jw32 (x3 + 1) by omega) (show jw32 (x3 + 1) < ((E.2.2.2.2.1 : Nat) : Int) by omega) (fun v35 ev35 => ?_)
          replace ev35 : v35 = jxv E (-2) (jw32 (x3 + 1)) := ev35
          have e36 : jw32 (x3 + 2) = x3 + 2 := j32e (by omega) (by omega)
          refine st_xi (N := E.2.2.2.2.1) (by decide) (by decide) rfl (show 0 ≤ jw32 (x3 + 2) by omega) (show jw32 (x3 + 2) < ((E.2.2.2.2.1 : Nat) : Int) by omega) (fun v37 ev37 => ?_)
          replace ev37 : v37 = jxv E (-2) (jw32 (x3 + 2)) := ev37
          refine st_cv (na := 2) (st := [.inl v37, .inl v35, .inr (.inr (.inl 176)), .inl t30]) jo_176 rfl rfl rfl (c_X12_bring v35 v37 g31) rfl ?_
          rintro _ _ g39 ⟨rfl, ft38, t38, rfl, ht38, zt38⟩ kt38
          replace kt38 : -2147483648 ≤ t38 ∧ t38 ≤ 2147483647 := kt38
          replace zt38 : P_X12_bring v35 v37 t38 g31 g39 := zt38
          have li40 : jLI g39 := jLI_fr (ft38 176 0 (by unfold w_X12_bring; omega)) (ft38 0 0 (by unfold w_X12_bring; omega)) (fun t => ft38 87 t (by unfold w_X12_bring; omega)) li32
          have dli40 : g39 176 0 ≤ 2000 := li40.1
          rw [show v35 = v27 by omega, show v37 = v29 by omega] at zt38
          have qe42 := pr_bring ft30 ft38 zt30 zt38 sm
          have eqe42 := qe42.1
          have sm41 : jI g39 := qe42.2
          clear qe42 zt38
          refine And.intro (fun c43 => ?_) (fun c43 => ?_)
          · replace c43 : t30 = t38 := c43
            show jGo E l 179 0 229 _ 1410 [.inr (.inr (.inl (-2))), .inr (.inr (.inl 0)), .inr (.inr (.inl 176)), .inl x3] [] 229 jr0 g39
            refine jGo_blk qL_law_1410 ?_
            have e44 : jw32 (x3 + 6) = x3 + 6 := j32e (by omega) (by omega)
            show jGo E l 179 0 229 _ 18 [.inr (.inr (.inl (-2))), .inr (.inr (.inl 0)), .inr (.inr (.inl 176)), .inl (jw32 (x3 + 6))] [] 229 jr0 g39
            exact ih (jw32 (x3 + 6)) g39 (by omega) li40 sm41 (by omega)
          · replace c43 : ¬ t30 = t38 := by first | exact c43 | exact Int.not_le.mp c43 | exact Int.not_lt.mp c43 | exact Decidable.not_not.mp c43
            exfalso; omega
        · replace c6 : jand v4 63 = 2 := c6
          show jGo E l 179 0 229 _ 258 [.inr (.inr (.inl (-2))), .inr (.inr (.inl 0)), .inr (.inr (.inl 176)), .inl x3] [] 229 jr0 g
          refine jGo_blk qL_law_258 ?_
          have e45 : jw32 (x3 + 1) = x3 + 1 := j32e (by omega) (by omega)
          refine st_xi (N := E.2.2.2.2.1) (by decide) (by decide) rfl (show 0 ≤ jw32 (x3 + 1) by omega) (show jw32 (x3 + 1) < ((E.2.2.2.2.1 : Nat) : Int) by omega) (fun v46 ev46 => ?_)
          replace ev46 : v46 = jxv E (-2) (jw32 (x3 + 1)) := ev46
          have e47 : jw32 (x3 + 2) = x3 + 2 := j32e (by omega) (by omega)
          refine st_xi (N := E.2.2.2.2.1) (by decide) (by decide) rfl (show 0 ≤ jw32 (x3 + 2) by omega) (show jw32 (x3 + 2) < ((E.2.2.2.2.1 : Nat) : Int) by omega) (fun v48 ev48 => ?_)
          replace ev48 : v48 = jxv E (-2) (jw32 (x3 + 2)) := ev48
          refine st_cv (na := 2) (st := [.inl v48, .inl v46, .inr (.inr (.inl 0))]) jo_0 rfl rfl rfl (c_X11_row v46 v48 g) rfl ?_
          rintro _ _ g50 ⟨rfl, ft49, t49, rfl, ht49, zt49⟩ kt49
          replace kt49 : -2147483648 ≤ t49 ∧ t49 ≤ 2147483647 := kt49
          replace ht49 : -7 ≤ t49 ∧ t49 ≤ 30 := ht49
          replace zt49 : P_X11_row v46 v48 t49 g g50 := zt49
          have li51 : jLI g50 := jLI_fr (ft49 176 0 (by unfold w_X11_row; omega)) (ft49 0 0 (by unfold w_X11_row; omega)) (fun t => ft49 87 t (by unfold w_X11_row; omega)) li
          have dli51 : g50 176 0 ≤ 2000 := li51.1
          have e53 : jw32 (x3 + 1) = x3 + 1 := j32e (by omega) (by omega)
          refine st_xi (N := E.2.2.2.2.1) (by decide) (by decide) rfl (show 0 ≤ jw32 (x3 + 1) by omega) (show jw32 (x3 + 1) < ((E.2.2.2.2.1 : Nat) : Int) by omega) (fun v54 ev54 => ?_)
          replace ev54 : v54 = jxv E (-2) (jw32 (x3 + 1)) := ev54
          have e55 : jw32 (x3 + 2) = x3 + 2 := j32e (by omega) (by omega)
          refine st_xi (N := E.2.2.2.2.1) (by decide) (by decide) rfl (show 0 ≤ jw32 (x3 + 2) by omega) (show jw32 (x3 + 2) < ((E.2.2.2.2.1 : Nat) : Int) by omega) (fun v56 ev56 => ?_)
          replace ev56 : v56 = jxv E (-2) (jw32 (x3 + 2)) := ev56
          refine st_cv (na := 2) (st := [.inl v56, .inl v54, .inr (.inr (.inl 176))]) jo_176 rfl rfl rfl (c_X12_row v54 v56 g50) rfl ?_
          rintro _ _ g58 ⟨rfl, ft57, t57, rfl, ht57, zt57⟩ kt57
          replace kt57 : -2147483648 ≤ t57 ∧ t57 ≤ 2147483647 := kt57
          replace ht57 : -7 ≤ t57 ∧ t57 ≤ 30 := ht57
          replace zt57 : P_X12_row v54 v56 t57 g50 g58 := zt57
          have li59 : jLI g58 := jLI_fr (ft57 176 0 (by unfold w_X12_row; omega)) (ft57 0 0 (by unfold w_X12_row; omega)) (fun t => ft57 87 t (by unfold w_X12_row; omega)) li51
          have dli59 : g58 176 0 ≤ 2000 := li59.1
          rw [show v54 = v46 by omega, show v56 = v48 by omega] at zt57
          have qe61 := pr_row ft49 ft57 zt49 zt57 sm
          have eqe61 := qe61.1
          have sm60 : jI g58 := qe61.2
          clear qe61 zt57
          show jGo E l 179 0 229 _ 1410 [.inr (.inr (.inl (-2))), .inr (.inr (.inl 0)), .inr (.inr (.inl 176)), .inl x3] [] 229 jr0 g58
          refine jGo_blk qL_law_1410 ?_
          have e62 : jw32 (x3 + 6) = x3 + 6 := j32e (by omega) (by omega)
          show jGo E l 179 0 229 _ 18 [.inr (.inr (.inl (-2))), .inr (.inr (.inl 0)), .inr (.inr (.inl 176)), .inl (jw32 (x3 + 6))] [] 229 jr0 g58
          exact ih (jw32 (x3 + 6)) g58 (by omega) li59 sm60 (by omega)
        · replace c6 : jand v4 63 = 3 := c6
          show jGo E l 179 0 229 _ 291 [.inr (.inr (.inl (-2))), .inr (.inr (.inl 0)), .inr (.inr (.inl 176)), .inl x3] [] 229 jr0 g
          refine jGo_blk qL_law_291 ?_
          have e63 : jw32 (x3 + 1) = x3 + 1 := j32e (by omega) (by omega)
          refine st_xi (N := E.2.2.2.2.1) (by decide) (by decide) rfl (show 0 ≤ jw32 (x3 + 1) by omega) (show jw32 (x3 + 1) < ((E.2.2.2.2.1 : Nat) : Int) by omega) (fun v64 ev64 => ?_)
          replace ev64 : v64 = jxv E (-2) (jw32 (x3 + 1)) := ev64
          refine st_cv (na := 1) (st := [.inl v64, .inr (.inr (.inl 0))]) jo_0 rfl rfl rfl (c_X11_lose v64 g) rfl ?_
          rintro _ _ g66 ⟨rfl, ft65, t65, rfl, ht65, zt65⟩ kt65
          replace kt65 : -2147483648 ≤ t65 ∧ t65 ≤ 2147483647 := kt65
          replace ht65 : -7 ≤ t65 ∧ t65 ≤ 1 := ht65
          replace zt65 : P_X11_lose v64 t65 g g66 := zt65
          have li67 : jLI g66 := jLI_fr (ft65 176 0 (by unfold w_X11_lose; omega)) (ft65 0 0 (by unfold w_X11_lose; omega)) (fun t => ft65 87 t (by unfold w_X11_lose; omega)) li
          have dli67 : g66 176 0 ≤ 2000 := li67.1
          have e69 : jw32 (x3 + 1) = x3 + 1 := j32e (by omega) (by omega)
          refine st_xi (N := E.2.2.2.2.1) (by decide) (by decide) rfl (show 0 ≤ jw32 (x3 + 1) by omega) (show jw32 (x3 + 1) < ((E.2.2.2.2.1 : Nat) : Int) by omega) (fun v70 ev70 => ?_)
          replace ev70 : v70 = jxv E (-2) (jw32 (x3 + 1)) := ev70
          refine st_cv (na := 1) (st := [.inl v70, .inr (.inr (.inl 176))]) jo_176 rfl rfl rfl (c_X12_lose v70 g66) rfl ?_
          rintro _ _ g72 ⟨rfl, ft71, t71, rfl, ht71, zt71⟩ kt71
          replace kt71 : -2147483648 ≤ t71 ∧ t71 ≤ 2147483647 := kt71
          replace ht71 : -7 ≤ t71 ∧ t71 ≤ 1 := ht71
          replace zt71 : P_X12_lose v70 t71 g66 g72 := zt71
          have li73 : jLI g72 := jLI_fr (ft71 176 0 (by unfold w_X12_lose; omega)) (ft71 0 0 (by unfold w_X12_lose; omega)) (fun t => ft71 87 t (by unfold w_X12_lose; omega)) li67
          have dli73 : g72 176 0 ≤ 2000 := li73.1
          rw [show v70 = v64 by omega] at zt71
          have qe75 := pr_lose ft65 ft71 zt65 zt71 sm
          have eqe75 := qe75.1
          have sm74 : jI g72 := qe75.2
          clear qe75 zt71
          show jGo E l 179 0 229 _ 1410 [.inr (.inr (.inl (-2))), .inr (.inr (.inl 0)), .inr (.inr (.inl 176)), .inl x3] [] 229 jr0 g72
          refine jGo_blk qL_law_1410 ?_
          have e76 : jw32 (x3 + 6) = x3 + 6 := j32e (by omega) (by omega)
          show jGo E l 179 0 229 _ 18 [.inr (.inr (.inl (-2))), .inr (.inr (.inl 0)), .inr (.inr (.inl 176)), .inl (jw32 (x3 + 6))] [] 229 jr0 g72
          exact ih (jw32 (x3 + 6)) g72 (by omega) li73 sm74 (by omega)
        · replace c6 : jand v4 63 = 4 := c6
          show jGo E l 179 0 229 _ 314 [.inr (.inr (.inl (-2))), .inr (.inr (.inl 0)), .inr (.inr (.inl 176)), .inl x3] [] 229 jr0 g
          refine jGo_blk qL_law_314 ?_
          have e77 : jw32 (x3 + 1) = x3 + 1 := j32e (by omega) (by omega)
          refine st_xi (N := E.2.2.2.2.1) (by decide) (by decide) rfl (show 0 ≤ jw32 (x3 + 1) by omega) (show jw32 (x3 + 1) < ((E.2.2.2.2.1 : Nat) : Int) by omega) (fun v78 ev78 => ?_)
          replace ev78 : v78 = jxv E (-2) (jw32 (x3 + 1)) := ev78
          have e79 : jw32 (x3 + 2) = x3 + 2 := j32e (by omega) (by omega)
          refine st_xi (N := E.2.2.2.2.1) (by decide) (by decide) rfl (show 0 ≤ jw32 (x3 + 2) by omega) (show jw32 (x3 + 2) < ((E.2.2.2.2.1 : Nat) : Int) by omega) (fun v80 ev80 => ?_)
          replace ev80 : v80 = jxv E (-2) (jw32 (x3 + 2)) := ev80
          have e81 : jw32 (x3 + 3) = x3 + 3 := j32e (by omega) (by omega)
          refine st_xi (N := E.2.2.2.2.1) (by decide) (by decide) rfl (show 0 ≤ jw32 (x3 + 3) by omega) (show jw32 (x3 + 3) < ((E.2.2.2.2.1 : Nat) : Int) by omega) (fun v82 ev82 => ?_)
          replace ev82 : v82 = jxv E (-2) (jw32 (x3 + 3)) := ev82
          refine st_cv (na := 3) (st := [.inl v82, .inl v80, .inl v78, .inr (.inr (.inl 0))]) jo_0 rfl rfl rfl (c_X11_put v78 v80 v82 g) rfl ?_
          rintro _ _ g84 ⟨rfl, ft83, t83, rfl, ht83, zt83⟩ kt83
          replace kt83 : -2147483648 ≤ t83 ∧ t83 ≤ 2147483647 := kt83
          replace ht83 : -7 ≤ t83 ∧ t83 ≤ 400 := ht83
          replace zt83 : P_X11_put v78 v80 v82 t83 g g84 := zt83
          have li85 : jLI g84 := jLI_fr (ft83 176 0 (by unfold w_X11_put; omega)) (ft83 0 0 (by unfold w_X11_put; omega)) (fun t => ft83 87 t (by unfold w_X11_put; omega)) li
          have dli85 : g84 176 0 ≤ 2000 := li85.1
          have e87 : jw32 (x3 + 1) = x3 + 1 := j32e (by omega) (by omega)
          refine st_xi (N := E.2.2.2.2.1) (by decide) (by decide) rfl (show 0 ≤ jw32 (x3 + 1) by omega) (show jw32 (x3 + 1) < ((E.2.2.2.2.1 : Nat) : Int) by omega) (fun v88 ev88 => ?_)
          replace ev88 : v88 = jxv E (-2) (jw32 (x3 + 1)) := ev88
          have e89 : jw32 (x3 + 2) = x3 + 2 := j32e (by omega) (by omega)
          refine st_xi (N := E.2.2.2.2.1) (by decide) (by decide) rfl (show 0 ≤ jw32 (x3 + 2) by omega) (show jw32 (x3 + 2) < ((E.2.2.2.2.1 : Nat) : Int) by omega) (fun v90 ev90 => ?_)
          replace ev90 : v90 = jxv E (-2) (jw32 (x3 + 2)) := ev90
          have e91 : jw32 (x3 + 3) = x3 + 3 := j32e (by omega) (by omega)
          refine st_xi (N := E.2.2.2.2.1) (by decide) (by decide) rfl (show 0 ≤ jw32 (x3 + 3) by omega) (show jw32 (x3 + 3) < ((E.2.2.2.2.1 : Nat) : Int) by omega) (fun v92 ev92 => ?_)
          replace ev92 : v92 = jxv E (-2) (jw32 (x3 + 3)) := ev92
          refine st_cv (na := 3) (st := [.inl v92, .inl v90, .inl v88, .inr (.inr (.inl 176))]) jo_176 rfl rfl rfl (c_X12_put v88 v90 v92 g84) rfl ?_
          rintro _ _ g94 ⟨rfl, ft93, t93, rfl, ht93, zt93⟩ kt93
          replace kt93 : -2147483648 ≤ t93 ∧ t93 ≤ 2147483647 := kt93
          replace ht93 : -7 ≤ t93 ∧ t93 ≤ 400 := ht93
          replace zt93 : P_X12_put v88 v90 v92 t93 g84 g94 := zt93
          have li95 : jLI g94 := jLI_fr (ft93 176 0 (by unfold w_X12_put; omega)) (ft93 0 0 (by unfold w_X12_put; omega)) (fun t => ft93 87 t (by unfold w_X12_put; omega)) li85
          have dli95 : g94 176 0 ≤ 2000 := li95.1
          rw [show v88 = v78 by omega, show v90 = v80 by omega, show v92 = v82 by omega] at zt93
          have qe97 := pr_put ft83 ft93 zt83 zt93 sm
          have eqe97 := qe97.1
          have sm96 : jI g94 := qe97.2
          clear qe97 zt93
          show jGo E l 179 0 229 _ 1410 [.inr (.inr (.inl (-2))), .inr (.inr (.inl 0)), .inr (.inr (.inl 176)), .inl x3] [] 229 jr0 g94
          refine jGo_blk qL_law_1410 ?_
          have e98 : jw32 (x3 + 6) = x3 + 6 := j32e (by omega) (by omega)
          show jGo E l 179 0 229 _ 18 [.inr (.inr (.inl (-2))), .inr (.inr (.inl 0)), .inr (.inr (.inl 176)), .inl (jw32 (x3 + 6))] [] 229 jr0 g94
          exact ih (jw32 (x3 + 6)) g94 (by omega) li95 sm96 (by omega)
        · replace c6 : jand v4 63 = 5 := c6
          show jGo E l 179 0 229 _ 357 [.inr (.inr (.inl (-2))), .inr (.inr (.inl 0)), .inr (.inr (.inl 176)), .inl x3] [] 229 jr0 g
          refine jGo_blk qL_law_357 ?_
          have e99 : jw32 (x3 + 1) = x3 + 1 := j32e (by omega) (by omega)
          refine st_xi (N := E.2.2.2.2.1) (by decide) (by decide) rfl (show 0 ≤ jw32 (x3 + 1) by omega) (show jw32 (x3 + 1) < ((E.2.2.2.2.1 : Nat) : Int) by omega) (fun v100 ev100 => ?_)
          replace ev100 : v100 = jxv E (-2) (jw32 (x3 + 1)) := ev100
          have e101 : jw32 (x3 + 2) = x3 + 2 := j32e (by omega) (by omega)
          refine st_xi (N := E.2.2.2.2.1) (by decide) (by decide) rfl (show 0 ≤ jw32 (x3 + 2) by omega) (show jw32 (x3 + 2) < ((E.2.2.2.2.1 : Nat) : Int) by omega) (fun v102 ev102 => ?_)
          replace ev102 : v102 = jxv E (-2) (jw32 (x3 + 2)) := ev102
          have e103 : jw32 (x3 + 3) = x3 + 3 := j32e (by omega) (by omega)
          refine st_xi (N := E.2.2.2.2.1) (by decide) (by decide) rfl (show 0 ≤ jw32 (x3 + 3) by omega) (show jw32 (x3 + 3) < ((E.2.2.2.2.1 : Nat) : Int) by omega) (fun v104 ev104 => ?_)
          replace ev104 : v104 = jxv E (-2) (jw32 (x3 + 3)) := ev104
          have e105 : jw32 (x3 + 4) = x3 + 4 := j32e (by omega) (by omega)
          refine st_xi (N := E.2.2.2.2.1) (by decide) (by decide) rfl (show 0 ≤ jw32 (x3 + 4) by omega) (show jw32 (x3 + 4) < ((E.2.2.2.2.1 : Nat) : Int) by omega) (fun v106 ev106 => ?_)
          replace ev106 : v106 = jxv E (-2) (jw32 (x3 + 4)) := ev106
          have e107 : jw32 (x3 + 5) = x3 + 5 := j32e (by omega) (by omega)
          refine st_xi (N := E.2.2.2.2.1) (by decide) (by decide) rfl (show 0 ≤ jw32 (x3 + 5) by omega) (show jw32 (x3 + 5) < ((E.2.2.2.2.1 : Nat) : Int) by omega) (fun v108 ev108 => ?_)
          replace ev108 : v108 = jxv E (-2) (jw32 (x3 + 5)) := ev108
          refine st_cv (na := 5) (st := [.inl v108, .inl v106, .inl v104, .inl v102, .inl v100, .inr (.inr (.inl 0))]) jo_0 rfl rfl rfl (c_X11_copy v100 v102 v104 v106 v108 g) rfl ?_
          rintro _ _ g110 ⟨rfl, ft109, t109, rfl, ht109, zt109⟩ kt109
          replace kt109 : -2147483648 ≤ t109 ∧ t109 ≤ 2147483647 := kt109
          replace zt109 : P_X11_copy v100 v102 v104 v106 v108 t109 g g110 := zt109
          have li111 : jLI g110 := jLI_fr (ft109 176 0 (by unfold w_X11_copy; omega)) (ft109 0 0 (by unfold w_X11_copy; omega)) (fun t => ft109 87 t (by unfold w_X11_copy; omega)) li
          have dli111 : g110 176 0 ≤ 2000 := li111.1
          have e113 : jw32 (x3 + 1) = x3 + 1 := j32e (by omega) (by omega)
          refine st_xi (N := E.2.2.2.2.1) (by decide) (by decide) rfl (show 0 ≤ jw32 (x3 + 1) by omega) (show jw32 (x3 + 1) < ((E.2.2.2.2.1 : Nat) : Int) by omega) (fun v114 ev114 => ?_)
          replace ev114 : v114 = jxv E (-2) (jw32 (x3 + 1)) := ev114
          have e115 : jw32 (x3 + 2) = x3 + 2 := j32e (by omega) (by omega)
          refine st_xi (N := E.2.2.2.2.1) (by decide) (by decide) rfl (show 0 ≤ jw32 (x3 + 2) by omega) (show jw32 (x3 + 2) < ((E.2.2.2.2.1 : Nat) : Int) by omega) (fun v116 ev116 => ?_)
          replace ev116 : v116 = jxv E (-2) (jw32 (x3 + 2)) := ev116
          have e117 : jw32 (x3 + 3) = x3 + 3 := j32e (by omega) (by omega)
          refine st_xi (N := E.2.2.2.2.1) (by decide) (by decide) rfl (show 0 ≤ jw32 (x3 + 3) by omega) (show jw32 (x3 + 3) < ((E.2.2.2.2.1 : Nat) : Int) by omega) (fun v118 ev118 => ?_)
          replace ev118 : v118 = jxv E (-2) (jw32 (x3 + 3)) := ev118
          have e119 : jw32 (x3 + 4) = x3 + 4 := j32e (by omega) (by omega)
          refine st_xi (N := E.2.2.2.2.1) (by decide) (by decide) rfl (show 0 ≤ jw32 (x3 + 4) by omega) (show jw32 (x3 + 4) < ((E.2.2.2.2.1 : Nat) : Int) by omega) (fun v120 ev120 => ?_)
          replace ev120 : v120 = jxv E (-2) (jw32 (x3 + 4)) := ev120
          have e121 : jw32 (x3 + 5) = x3 + 5 := j32e (by omega) (by omega)
          refine st_xi (N := E.2.2.2.2.1) (by decide) (by decide) rfl (show 0 ≤ jw32 (x3 + 5) by omega) (show jw32 (x3 + 5) < ((E.2.2.2.2.1 : Nat) : Int) by omega) (fun v122 ev122 => ?_)
          replace ev122 : v122 = jxv E (-2) (jw32 (x3 + 5)) := ev122
          refine st_cv (na := 5) (st := [.inl v122, .inl v120, .inl v118, .inl v116, .inl v114, .inr (.inr (.inl 176))]) jo_176 rfl rfl rfl (c_X12_copy v114 v116 v118 v120 v122 g110) rfl ?_
          rintro _ _ g124 ⟨rfl, ft123, t123, rfl, ht123, zt123⟩ kt123
          replace kt123 : -2147483648 ≤ t123 ∧ t123 ≤ 2147483647 := kt123
          replace ht123 : -7 ≤ t123 ∧ t123 ≤ 30 := ht123
          replace zt123 : P_X12_copy v114 v116 v118 v120 v122 t123 g110 g124 := zt123
          have li125 : jLI g124 := jLI_fr (ft123 176 0 (by unfold w_X12_copy; omega)) (ft123 0 0 (by unfold w_X12_copy; omega)) (fun t => ft123 87 t (by unfold w_X12_copy; omega)) li111
          have dli125 : g124 176 0 ≤ 2000 := li125.1
          rw [show v114 = v100 by omega, show v116 = v102 by omega, show v118 = v104 by omega, show v120 = v106 by omega, show v122 = v108 by omega] at zt123
          have qe127 := pr_copy ft109 ft123 zt109 zt123 sm
          have eqe127 := qe127.1
          have sm126 : jI g124 := qe127.2
          clear qe127 zt123
          show jGo E l 179 0 229 _ 1410 [.inr (.inr (.inl (-2))), .inr (.inr (.inl 0)), .inr (.inr (.inl 176)), .inl x3] [] 229 jr0 g124
          refine jGo_blk qL_law_1410 ?_
          have e128 : jw32 (x3 + 6) = x3 + 6 := j32e (by omega) (by omega)
          show jGo E l 179 0 229 _ 18 [.inr (.inr (.inl (-2))), .inr (.inr (.inl 0)), .inr (.inr (.inl 176)), .inl (jw32 (x3 + 6))] [] 229 jr0 g124
          exact ih (jw32 (x3 + 6)) g124 (by omega) li125 sm126 (by omega)
        · replace c6 : jand v4 63 = 6 := c6
          show jGo E l 179 0 229 _ 420 [.inr (.inr (.inl (-2))), .inr (.inr (.inl 0)), .inr (.inr (.inl 176)), .inl x3] [] 229 jr0 g
          refine jGo_blk qL_law_420 ?_
          have e129 : jw32 (x3 + 1) = x3 + 1 := j32e (by omega) (by omega)
          refine st_xi (N := E.2.2.2.2.1) (by decide) (by decide) rfl (show 0 ≤ jw32 (x3 + 1) by omega) (show jw32 (x3 + 1) < ((E.2.2.2.2.1 : Nat) : Int) by omega) (fun v130 ev130 => ?_)
          replace ev130 : v130 = jxv E (-2) (jw32 (x3 + 1)) := ev130
          have e131 : jw32 (x3 + 2) = x3 + 2 := j32e (by omega) (by omega)
          refine st_xi (N := E.2.2.2.2.1) (by decide) (by decide) rfl (show 0 ≤ jw32 (x3 + 2) by omega) (show jw32 (x3 + 2) < ((E.2.2.2.2.1 : Nat) : Int) by omega) (fun v132 ev132 => ?_)
          replace ev132 : v132 = jxv E (-2) (jw32 (x3 + 2)) := ev132
          refine st_cv (na := 2) (st := [.inl v132, .inl v130, .inr (.inr (.inl 0))]) jo_0 rfl rfl rfl (c_X11_lead v130 v132 g) rfl ?_
          rintro _ _ g134 ⟨rfl, ft133, t133, rfl, ht133, zt133⟩ kt133
          replace kt133 : -2147483648 ≤ t133 ∧ t133 ≤ 2147483647 := kt133
          replace ht133 : -1 ≤ t133 ∧ t133 ≤ 2000000007 := ht133
          replace zt133 : P_X11_lead v130 v132 t133 g g134 := zt133
          have li135 : jLI g134 := jLI_fr (ft133 176 0 (by unfold w_X11_lead; omega)) (ft133 0 0 (by unfold w_X11_lead; omega)) (fun t => ft133 87 t (by unfold w_X11_lead; omega)) li
          have dli135 : g134 176 0 ≤ 2000 := li135.1
          have e137 : jw32 (x3 + 1) = x3 + 1 := j32e (by omega) (by omega)
          refine st_xi (N := E.2.2.2.2.1) (by decide) (by decide) rfl (show 0 ≤ jw32 (x3 + 1) by omega) (show jw32 (x3 + 1) < ((E.2.2.2.2.1 : Nat) : Int) by omega) (fun v138 ev138 => ?_)
          replace ev138 : v138 = jxv E (-2) (jw32 (x3 + 1)) := ev138
          have e139 : jw32 (x3 + 2) = x3 + 2 := j32e (by omega) (by omega)
          refine st_xi (N := E.2.2.2.2.1) (by decide) (by decide) rfl (show 0 ≤ jw32 (x3 + 2) by omega) (show jw32 (x3 + 2) < ((E.2.2.2.2.1 : Nat) : Int) by omega) (fun v140 ev140 => ?_)
          replace ev140 : v140 = jxv E (-2) (jw32 (x3 + 2)) := ev140
          refine st_cv (na := 2) (st := [.inl v140, .inl v138, .inr (.inr (.inl 176))]) jo_176 rfl rfl rfl (c_X12_lead v138 v140 g134) rfl ?_
          rintro _ _ g142 ⟨rfl, ft141, t141, rfl, ht141, zt141⟩ kt141
          replace kt141 : -2147483648 ≤ t141 ∧ t141 ≤ 2147483647 := kt141
          replace ht141 : -1 ≤ t141 ∧ t141 ≤ 2000000007 := ht141
          replace zt141 : P_X12_lead v138 v140 t141 g134 g142 := zt141
          have li143 : jLI g142 := jLI_fr (ft141 176 0 (by unfold w_X12_lead; omega)) (ft141 0 0 (by unfold w_X12_lead; omega)) (fun t => ft141 87 t (by unfold w_X12_lead; omega)) li135
          have dli143 : g142 176 0 ≤ 2000 := li143.1
          rw [show v138 = v130 by omega, show v140 = v132 by omega] at zt141
          have qe145 := pr_lead ft133 ft141 zt133 zt141 sm
          have eqe145 := qe145.1
          have sm144 : jI g142 := qe145.2
          clear qe145 zt141
          show jGo E l 179 0 229 _ 1410 [.inr (.inr (.inl (-2))), .inr (.inr (.inl 0)), .inr (.inr (.inl 176)), .inl x3] [] 229 jr0 g142
          refine jGo_blk qL_law_1410 ?_
          have e146 : jw32 (x3 + 6) = x3 + 6 := j32e (by omega) (by omega)
          show jGo E l 179 0 229 _ 18 [.inr (.inr (.inl (-2))), .inr (.inr (.inl 0)), .inr (.inr (.inl 176)), .inl (jw32 (x3 + 6))] [] 229 jr0 g142
          exact ih (jw32 (x3 + 6)) g142 (by omega) li143 sm144 (by omega)
        · replace c6 : jand v4 63 = 7 := c6
          show jGo E l 179 0 229 _ 453 [.inr (.inr (.inl (-2))), .inr (.inr (.inl 0)), .inr (.inr (.inl 176)), .inl x3] [] 229 jr0 g
          refine jGo_blk qL_law_453 ?_
          have e147 : jw32 (x3 + 1) = x3 + 1 := j32e (by omega) (by omega)
          refine st_xi (N := E.2.2.2.2.1) (by decide) (by decide) rfl (show 0 ≤ jw32 (x3 + 1) by omega) (show jw32 (x3 + 1) < ((E.2.2.2.2.1 : Nat) : Int) by omega) (fun v148 ev148 => ?_)
          replace ev148 : v148 = jxv E (-2) (jw32 (x3 + 1)) := ev148
          have e149 : jw32 (x3 + 2) = x3 + 2 := j32e (by omega) (by omega)
          refine st_xi (N := E.2.2.2.2.1) (by decide) (by decide) rfl (show 0 ≤ jw32 (x3 + 2) by omega) (show jw32 (x3 + 2) < ((E.2.2.2.2.1 : Nat) : Int) by omega) (fun v150 ev150 => ?_)
          replace ev150 : v150 = jxv E (-2) (jw32 (x3 + 2)) := ev150
          refine st_cv (na := 2) (st := [.inl v150, .inl v148, .inr (.inr (.inl 0))]) jo_0 rfl rfl rfl (c_X11_handsOn v148 v150 g) rfl ?_
          rintro _ _ g152 ⟨rfl, ft151, t151, rfl, ht151, zt151⟩ kt151
          replace kt151 : -2147483648 ≤ t151 ∧ t151 ≤ 2147483647 := kt151
          replace ht151 : -7 ≤ t151 ∧ t151 ≤ 400 := ht151
          replace zt151 : P_X11_handsOn v148 v150 t151 g := zt151
          have li153 : jLI g152 := jLI_fr (ft151 176 0 (by unfold w_X11_handsOn; omega)) (ft151 0 0 (by unfold w_X11_handsOn; omega)) (fun t => ft151 87 t (by unfold w_X11_handsOn; omega)) li
          have dli153 : g152 176 0 ≤ 2000 := li153.1
          have e155 : jw32 (x3 + 1) = x3 + 1 := j32e (by omega) (by omega)
          refine st_xi (N := E.2.2.2.2.1) (by decide) (by decide) rfl (show 0 ≤ jw32 (x3 + 1) by omega) (show jw32 (x3 + 1) < ((E.2.2.2.2.1 : Nat) : Int) by omega) (fun v156 ev156 => ?_)
          replace ev156 : v156 = jxv E (-2) (jw32 (x3 + 1)) := ev156
          have e157 : jw32 (x3 + 2) = x3 + 2 := j32e (by omega) (by omega)
          refine st_xi (N := E.2.2.2.2.1) (by decide) (by decide) rfl (show 0 ≤ jw32 (x3 + 2) by omega) (show jw32 (x3 + 2) < ((E.2.2.2.2.1 : Nat) : Int) by omega) (fun v158 ev158 => ?_)
          replace ev158 : v158 = jxv E (-2) (jw32 (x3 + 2)) := ev158
          refine st_cv (na := 2) (st := [.inl v158, .inl v156, .inr (.inr (.inl 176))]) jo_176 rfl rfl rfl (c_X12_handsOn v156 v158 g152) rfl ?_
          rintro _ _ g160 ⟨rfl, ft159, t159, rfl, ht159, zt159⟩ kt159
          replace kt159 : -2147483648 ≤ t159 ∧ t159 ≤ 2147483647 := kt159
          replace ht159 : -7 ≤ t159 ∧ t159 ≤ 400 := ht159
          replace zt159 : P_X12_handsOn v156 v158 t159 g152 := zt159
          have li161 : jLI g160 := jLI_fr (ft159 176 0 (by unfold w_X12_handsOn; omega)) (ft159 0 0 (by unfold w_X12_handsOn; omega)) (fun t => ft159 87 t (by unfold w_X12_handsOn; omega)) li153
          have dli161 : g160 176 0 ≤ 2000 := li161.1
          rw [show v156 = v148 by omega, show v158 = v150 by omega] at zt159
          have qe163 := pr_handsOn ft151 ft159 zt151 zt159 sm
          have eqe163 := qe163.1
          have sm162 : jI g160 := qe163.2
          clear qe163 zt159
          show jGo E l 179 0 229 _ 1410 [.inr (.inr (.inl (-2))), .inr (.inr (.inl 0)), .inr (.inr (.inl 176)), .inl x3] [] 229 jr0 g160
          refine jGo_blk qL_law_1410 ?_
          have e164 : jw32 (x3 + 6) = x3 + 6 := j32e (by omega) (by omega)
          show jGo E l 179 0 229 _ 18 [.inr (.inr (.inl (-2))), .inr (.inr (.inl 0)), .inr (.inr (.inl 176)), .inl (jw32 (x3 + 6))] [] 229 jr0 g160
          exact ih (jw32 (x3 + 6)) g160 (by omega) li161 sm162 (by omega)
        · replace c6 : jand v4 63 = 8 := c6
          show jGo E l 179 0 229 _ 486 [.inr (.inr (.inl (-2))), .inr (.inr (.inl 0)), .inr (.inr (.inl 176)), .inl x3] [] 229 jr0 g
          refine jGo_blk qL_law_486 ?_
          have e165 : jw32 (x3 + 1) = x3 + 1 := j32e (by omega) (by omega)
          refine st_xi (N := E.2.2.2.2.1) (by decide) (by decide) rfl (show 0 ≤ jw32 (x3 + 1) by omega) (show jw32 (x3 + 1) < ((E.2.2.2.2.1 : Nat) : Int) by omega) (fun v166 ev166 => ?_)
          replace ev166 : v166 = jxv E (-2) (jw32 (x3 + 1)) := ev166
          have e167 : jw32 (x3 + 2) = x3 + 2 := j32e (by omega) (by omega)
          refine st_xi (N := E.2.2.2.2.1) (by decide) (by decide) rfl (show 0 ≤ jw32 (x3 + 2) by omega) (show jw32 (x3 + 2) < ((E.2.2.2.2.1 : Nat) : Int) by omega) (fun v168 ev168 => ?_)
          replace ev168 : v168 = jxv E (-2) (jw32 (x3 + 2)) := ev168
          have e169 : jw32 (x3 + 3) = x3 + 3 := j32e (by omega) (by omega)
          refine st_xi (N := E.2.2.2.2.1) (by decide) (by decide) rfl (show 0 ≤ jw32 (x3 + 3) by omega) (show jw32 (x3 + 3) < ((E.2.2.2.2.1 : Nat) : Int) by omega) (fun v170 ev170 => ?_)
          replace ev170 : v170 = jxv E (-2) (jw32 (x3 + 3)) := ev170
          have e171 : jw32 (x3 + 4) = x3 + 4 := j32e (by omega) (by omega)
          refine st_xi (N := E.2.2.2.2.1) (by decide) (by decide) rfl (show 0 ≤ jw32 (x3 + 4) by omega) (show jw32 (x3 + 4) < ((E.2.2.2.2.1 : Nat) : Int) by omega) (fun v172 ev172 => ?_)
          replace ev172 : v172 = jxv E (-2) (jw32 (x3 + 4)) := ev172
          refine st_cv (na := 4) (st := [.inl v172, .inl v170, .inl v168, .inl v166, .inr (.inr (.inl 0))]) jo_0 rfl rfl rfl (c_X11_decree v166 v168 v170 v172 g) rfl ?_
          rintro _ _ g174 ⟨rfl, ft173, t173, rfl, ht173, zt173⟩ kt173
          replace kt173 : -2147483648 ≤ t173 ∧ t173 ≤ 2147483647 := kt173
          replace ht173 : -7 ≤ t173 ∧ t173 ≤ 39 := ht173
          replace zt173 : P_X11_decree v166 v168 v170 v172 t173 g g174 := zt173
          have li175 : jLI g174 := jLI_fr (ft173 176 0 (by unfold w_X11_decree; omega)) (ft173 0 0 (by unfold w_X11_decree; omega)) (fun t => ft173 87 t (by unfold w_X11_decree; omega)) li
          have dli175 : g174 176 0 ≤ 2000 := li175.1
          have e177 : jw32 (x3 + 1) = x3 + 1 := j32e (by omega) (by omega)
          refine st_xi (N := E.2.2.2.2.1) (by decide) (by decide) rfl (show 0 ≤ jw32 (x3 + 1) by omega) (show jw32 (x3 + 1) < ((E.2.2.2.2.1 : Nat) : Int) by omega) (fun v178 ev178 => ?_)
          replace ev178 : v178 = jxv E (-2) (jw32 (x3 + 1)) := ev178
          have e179 : jw32 (x3 + 2) = x3 + 2 := j32e (by omega) (by omega)
          refine st_xi (N := E.2.2.2.2.1) (by decide) (by decide) rfl (show 0 ≤ jw32 (x3 + 2) by omega) (show jw32 (x3 + 2) < ((E.2.2.2.2.1 : Nat) : Int) by omega) (fun v180 ev180 => ?_)
          replace ev180 : v180 = jxv E (-2) (jw32 (x3 + 2)) := ev180
          have e181 : jw32 (x3 + 3) = x3 + 3 := j32e (by omega) (by omega)
          refine st_xi (N := E.2.2.2.2.1) (by decide) (by decide) rfl (show 0 ≤ jw32 (x3 + 3) by omega) (show jw32 (x3 + 3) < ((E.2.2.2.2.1 : Nat) : Int) by omega) (fun v182 ev182 => ?_)
          replace ev182 : v182 = jxv E (-2) (jw32 (x3 + 3)) := ev182
          have e183 : jw32 (x3 + 4) = x3 + 4 := j32e (by omega) (by omega)
          refine st_xi (N := E.2.2.2.2.1) (by decide) (by decide) rfl (show 0 ≤ jw32 (x3 + 4) by omega) (show jw32 (x3 + 4) < ((E.2.2.2.2.1 : Nat) : Int) by omega) (fun v184 ev184 => ?_)
          replace ev184 : v184 = jxv E (-2) (jw32 (x3 + 4)) := ev184
          refine st_cv (na := 4) (st := [.inl v184, .inl v182, .inl v180, .inl v178, .inr (.inr (.inl 176))]) jo_176 rfl rfl rfl (c_X12_decree v178 v180 v182 v184 g174) rfl ?_
          rintro _ _ g186 ⟨rfl, ft185, t185, rfl, ht185, zt185⟩ kt185
          replace kt185 : -2147483648 ≤ t185 ∧ t185 ≤ 2147483647 := kt185
          replace ht185 : -7 ≤ t185 ∧ t185 ≤ 39 := ht185
          replace zt185 : P_X12_decree v178 v180 v182 v184 t185 g174 g186 := zt185
          have li187 : jLI g186 := jLI_fr (ft185 176 0 (by unfold w_X12_decree; omega)) (ft185 0 0 (by unfold w_X12_decree; omega)) (fun t => ft185 87 t (by unfold w_X12_decree; omega)) li175
          have dli187 : g186 176 0 ≤ 2000 := li187.1
          rw [show v178 = v166 by omega, show v180 = v168 by omega, show v182 = v170 by omega, show v184 = v172 by omega] at zt185
          have qe189 := pr_decree ft173 ft185 zt173 zt185 sm dd0
          have eqe189 := qe189.1
          have sm188 : jI g186 := qe189.2
          clear qe189 zt185
          show jGo E l 179 0 229 _ 1410 [.inr (.inr (.inl (-2))), .inr (.inr (.inl 0)), .inr (.inr (.inl 176)), .inl x3] [] 229 jr0 g186
          refine jGo_blk qL_law_1410 ?_
          have e190 : jw32 (x3 + 6) = x3 + 6 := j32e (by omega) (by omega)
          show jGo E l 179 0 229 _ 18 [.inr (.inr (.inl (-2))), .inr (.inr (.inl 0)), .inr (.inr (.inl 176)), .inl (jw32 (x3 + 6))] [] 229 jr0 g186
          exact ih (jw32 (x3 + 6)) g186 (by omega) li187 sm188 (by omega)
        · replace c6 : jand v4 63 = 9 := c6
          show jGo E l 179 0 229 _ 539 [.inr (.inr (.inl (-2))), .inr (.inr (.inl 0)), .inr (.inr (.inl 176)), .inl x3] [] 229 jr0 g
          refine jGo_blk qL_law_539 ?_
          have e191 : jw32 (x3 + 1) = x3 + 1 := j32e (by omega) (by omega)
          refine st_xi (N := E.2.2.2.2.1) (by decide) (by decide) rfl (show 0 ≤ jw32 (x3 + 1) by omega) (show jw32 (x3 + 1) < ((E.2.2.2.2.1 : Nat) : Int) by omega) (fun v192 ev192 => ?_)
          replace ev192 : v192 = jxv E (-2) (jw32 (x3 + 1)) := ev192
          have e193 : jw32 (x3 + 2) = x3 + 2 := j32e (by omega) (by omega)
          refine st_xi (N := E.2.2.2.2.1) (by decide) (by decide) rfl (show 0 ≤ jw32 (x3 + 2) by omega) (show jw32 (x3 + 2) < ((E.2.2.2.2.1 : Nat) : Int) by omega) (fun v194 ev194 => ?_)
          replace ev194 : v194 = jxv E (-2) (jw32 (x3 + 2)) := ev194
          have e195 : jw32 (x3 + 3) = x3 + 3 := j32e (by omega) (by omega)
          refine st_xi (N := E.2.2.2.2.1) (by decide) (by decide) rfl (show 0 ≤ jw32 (x3 + 3) by omega) (show jw32 (x3 + 3) < ((E.2.2.2.2.1 : Nat) : Int) by omega) (fun v196 ev196 => ?_)
          replace ev196 : v196 = jxv E (-2) (jw32 (x3 + 3)) := ev196
          refine st_cv (na := 3) (st := [.inl v196, .inl v194, .inl v192, .inr (.inr (.inl 0))]) jo_0 rfl rfl rfl (c_X11_force v192 v194 v196 g) rfl ?_
          rintro _ _ g198 ⟨rfl, ft197, t197, rfl, ht197, zt197⟩ kt197
          replace kt197 : -2147483648 ≤ t197 ∧ t197 ≤ 2147483647 := kt197
          replace ht197 : -7 ≤ t197 ∧ t197 ≤ 200 := ht197
          replace zt197 : P_X11_force v192 v194 v196 t197 g := zt197
          have li199 : jLI g198 := jLI_fr (ft197 176 0 (by unfold w_X11_force; omega)) (ft197 0 0 (by unfold w_X11_force; omega)) (fun t => ft197 87 t (by unfold w_X11_force; omega)) li
          have dli199 : g198 176 0 ≤ 2000 := li199.1
          have e201 : jw32 (x3 + 1) = x3 + 1 := j32e (by omega) (by omega)
          refine st_xi (N := E.2.2.2.2.1) (by decide) (by decide) rfl (show 0 ≤ jw32 (x3 + 1) by omega) (show jw32 (x3 + 1) < ((E.2.2.2.2.1 : Nat) : Int) by omega) (fun v202 ev202 => ?_)
          replace ev202 : v202 = jxv E (-2) (jw32 (x3 + 1)) := ev202
          have e203 : jw32 (x3 + 2) = x3 + 2 := j32e (by omega) (by omega)
          refine st_xi (N := E.2.2.2.2.1) (by decide) (by decide) rfl (show 0 ≤ jw32 (x3 + 2) by omega) (show jw32 (x3 + 2) < ((E.2.2.2.2.1 : Nat) : Int) by omega) (fun v204 ev204 => ?_)
          replace ev204 : v204 = jxv E (-2) (jw32 (x3 + 2)) := ev204
          have e205 : jw32 (x3 + 3) = x3 + 3 := j32e (by omega) (by omega)
          refine st_xi (N := E.2.2.2.2.1) (by decide) (by decide) rfl (show 0 ≤ jw32 (x3 + 3) by omega) (show jw32 (x3 + 3) < ((E.2.2.2.2.1 : Nat) : Int) by omega) (fun v206 ev206 => ?_)
          replace ev206 : v206 = jxv E (-2) (jw32 (x3 + 3)) := ev206
          refine st_cv (na := 3) (st := [.inl v206, .inl v204, .inl v202, .inr (.inr (.inl 176))]) jo_176 rfl rfl rfl (c_X12_force v202 v204 v206 g198) rfl ?_
          rintro _ _ g208 ⟨rfl, ft207, t207, rfl, ht207, zt207⟩ kt207
          replace kt207 : -2147483648 ≤ t207 ∧ t207 ≤ 2147483647 := kt207
          replace ht207 : -7 ≤ t207 ∧ t207 ≤ 200 := ht207
          replace zt207 : P_X12_force v202 v204 v206 t207 g198 := zt207
          have li209 : jLI g208 := jLI_fr (ft207 176 0 (by unfold w_X12_force; omega)) (ft207 0 0 (by unfold w_X12_force; omega)) (fun t => ft207 87 t (by unfold w_X12_force; omega)) li199
          have dli209 : g208 176 0 ≤ 2000 := li209.1
          rw [show v202 = v192 by omega, show v204 = v194 by omega, show v206 = v196 by omega] at zt207
          have qe211 := pr_force ft197 ft207 zt197 zt207 sm
          have eqe211 := qe211.1
          have sm210 : jI g208 := qe211.2
          clear qe211 zt207
          show jGo E l 179 0 229 _ 1410 [.inr (.inr (.inl (-2))), .inr (.inr (.inl 0)), .inr (.inr (.inl 176)), .inl x3] [] 229 jr0 g208
          refine jGo_blk qL_law_1410 ?_
          have e212 : jw32 (x3 + 6) = x3 + 6 := j32e (by omega) (by omega)
          show jGo E l 179 0 229 _ 18 [.inr (.inr (.inl (-2))), .inr (.inr (.inl 0)), .inr (.inr (.inl 176)), .inl (jw32 (x3 + 6))] [] 229 jr0 g208
          exact ih (jw32 (x3 + 6)) g208 (by omega) li209 sm210 (by omega)
        · replace c6 : jand v4 63 = 10 := c6
          show jGo E l 179 0 229 _ 582 [.inr (.inr (.inl (-2))), .inr (.inr (.inl 0)), .inr (.inr (.inl 176)), .inl x3] [] 229 jr0 g
          refine jGo_blk qL_law_582 ?_
          have e213 : jw32 (x3 + 1) = x3 + 1 := j32e (by omega) (by omega)
          refine st_xi (N := E.2.2.2.2.1) (by decide) (by decide) rfl (show 0 ≤ jw32 (x3 + 1) by omega) (show jw32 (x3 + 1) < ((E.2.2.2.2.1 : Nat) : Int) by omega) (fun v214 ev214 => ?_)
          replace ev214 : v214 = jxv E (-2) (jw32 (x3 + 1)) := ev214
          have e215 : jw32 (x3 + 2) = x3 + 2 := j32e (by omega) (by omega)
          refine st_xi (N := E.2.2.2.2.1) (by decide) (by decide) rfl (show 0 ≤ jw32 (x3 + 2) by omega) (show jw32 (x3 + 2) < ((E.2.2.2.2.1 : Nat) : Int) by omega) (fun v216 ev216 => ?_)
          replace ev216 : v216 = jxv E (-2) (jw32 (x3 + 2)) := ev216
          have e217 : jw32 (x3 + 3) = x3 + 3 := j32e (by omega) (by omega)
          refine st_xi (N := E.2.2.2.2.1) (by decide) (by decide) rfl (show 0 ≤ jw32 (x3 + 3) by omega) (show jw32 (x3 + 3) < ((E.2.2.2.2.1 : Nat) : Int) by omega) (fun v218 ev218 => ?_)
          replace ev218 : v218 = jxv E (-2) (jw32 (x3 + 3)) := ev218
          have e219 : jw32 (x3 + 4) = x3 + 4 := j32e (by omega) (by omega)
          refine st_xi (N := E.2.2.2.2.1) (by decide) (by decide) rfl (show 0 ≤ jw32 (x3 + 4) by omega) (show jw32 (x3 + 4) < ((E.2.2.2.2.1 : Nat) : Int) by omega) (fun v220 ev220 => ?_)
          replace ev220 : v220 = jxv E (-2) (jw32 (x3 + 4)) := ev220
          refine st_cv (na := 4) (st := [.inl v220, .inl v218, .inl v216, .inl v214, .inr (.inr (.inl 0))]) jo_0 rfl rfl rfl (c_X11_task v214 v216 v218 v220 g) rfl ?_
          rintro _ _ g222 ⟨rfl, ft221, t221, rfl, ht221, zt221⟩ kt221
          replace kt221 : -2147483648 ≤ t221 ∧ t221 ≤ 2147483647 := kt221
          replace ht221 : -7 ≤ t221 ∧ t221 ≤ 2000 := ht221
          replace zt221 : P_X11_task v214 v216 v218 v220 t221 g g222 := zt221
          have li223 : jLI g222 := jLI_fr (ft221 176 0 (by unfold w_X11_task; omega)) (ft221 0 0 (by unfold w_X11_task; omega)) (fun t => ft221 87 t (by unfold w_X11_task; omega)) li
          have dli223 : g222 176 0 ≤ 2000 := li223.1
          have e225 : jw32 (x3 + 1) = x3 + 1 := j32e (by omega) (by omega)
          refine st_xi (N := E.2.2.2.2.1) (by decide) (by decide) rfl (show 0 ≤ jw32 (x3 + 1) by omega) (show jw32 (x3 + 1) < ((E.2.2.2.2.1 : Nat) : Int) by omega) (fun v226 ev226 => ?_)
          replace ev226 : v226 = jxv E (-2) (jw32 (x3 + 1)) := ev226
          have e227 : jw32 (x3 + 2) = x3 + 2 := j32e (by omega) (by omega)
          refine st_xi (N := E.2.2.2.2.1) (by decide) (by decide) rfl (show 0 ≤ jw32 (x3 + 2) by omega) (show jw32 (x3 + 2) < ((E.2.2.2.2.1 : Nat) : Int) by omega) (fun v228 ev228 => ?_)
          replace ev228 : v228 = jxv E (-2) (jw32 (x3 + 2)) := ev228
          have e229 : jw32 (x3 + 3) = x3 + 3 := j32e (by omega) (by omega)
          refine st_xi (N := E.2.2.2.2.1) (by decide) (by decide) rfl (show 0 ≤ jw32 (x3 + 3) by omega) (show jw32 (x3 + 3) < ((E.2.2.2.2.1 : Nat) : Int) by omega) (fun v230 ev230 => ?_)
          replace ev230 : v230 = jxv E (-2) (jw32 (x3 + 3)) := ev230
          have e231 : jw32 (x3 + 4) = x3 + 4 := j32e (by omega) (by omega)
          refine st_xi (N := E.2.2.2.2.1) (by decide) (by decide) rfl (show 0 ≤ jw32 (x3 + 4) by omega) (show jw32 (x3 + 4) < ((E.2.2.2.2.1 : Nat) : Int) by omega) (fun v232 ev232 => ?_)
          replace ev232 : v232 = jxv E (-2) (jw32 (x3 + 4)) := ev232
          refine st_cv (na := 4) (st := [.inl v232, .inl v230, .inl v228, .inl v226, .inr (.inr (.inl 176))]) jo_176 rfl rfl rfl (c_X12_task v226 v228 v230 v232 g222) rfl ?_
          rintro _ _ g234 ⟨rfl, ft233, t233, rfl, ht233, zt233⟩ kt233
          replace kt233 : -2147483648 ≤ t233 ∧ t233 ≤ 2147483647 := kt233
          replace ht233 : -7 ≤ t233 ∧ t233 ≤ 2000 := ht233
          replace zt233 : P_X12_task v226 v228 v230 v232 t233 g222 g234 := zt233
          have li235 : jLI g234 := jLI_fr (ft233 176 0 (by unfold w_X12_task; omega)) (ft233 0 0 (by unfold w_X12_task; omega)) (fun t => ft233 87 t (by unfold w_X12_task; omega)) li223
          have dli235 : g234 176 0 ≤ 2000 := li235.1
          rw [show v226 = v214 by omega, show v228 = v216 by omega, show v230 = v218 by omega, show v232 = v220 by omega] at zt233
          have qe237 := pr_task ft221 ft233 zt221 zt233 sm
          have eqe237 := qe237.1
          have sm236 : jI g234 := qe237.2
          clear qe237 zt233
          show jGo E l 179 0 229 _ 1410 [.inr (.inr (.inl (-2))), .inr (.inr (.inl 0)), .inr (.inr (.inl 176)), .inl x3] [] 229 jr0 g234
          refine jGo_blk qL_law_1410 ?_
          have e238 : jw32 (x3 + 6) = x3 + 6 := j32e (by omega) (by omega)
          show jGo E l 179 0 229 _ 18 [.inr (.inr (.inl (-2))), .inr (.inr (.inl 0)), .inr (.inr (.inl 176)), .inl (jw32 (x3 + 6))] [] 229 jr0 g234
          exact ih (jw32 (x3 + 6)) g234 (by omega) li235 sm236 (by omega)
        · replace c6 : jand v4 63 = 11 := c6
          show jGo E l 179 0 229 _ 635 [.inr (.inr (.inl (-2))), .inr (.inr (.inl 0)), .inr (.inr (.inl 176)), .inl x3] [] 229 jr0 g
          refine jGo_blk qL_law_635 ?_
          have e239 : jw32 (x3 + 1) = x3 + 1 := j32e (by omega) (by omega)
          refine st_xi (N := E.2.2.2.2.1) (by decide) (by decide) rfl (show 0 ≤ jw32 (x3 + 1) by omega) (show jw32 (x3 + 1) < ((E.2.2.2.2.1 : Nat) : Int) by omega) (fun v240 ev240 => ?_)
          replace ev240 : v240 = jxv E (-2) (jw32 (x3 + 1)) := ev240
          have e241 : jw32 (x3 + 2) = x3 + 2 := j32e (by omega) (by omega)
          refine st_xi (N := E.2.2.2.2.1) (by decide) (by decide) rfl (show 0 ≤ jw32 (x3 + 2) by omega) (show jw32 (x3 + 2) < ((E.2.2.2.2.1 : Nat) : Int) by omega) (fun v242 ev242 => ?_)
          replace ev242 : v242 = jxv E (-2) (jw32 (x3 + 2)) := ev242
          have e243 : jw32 (x3 + 3) = x3 + 3 := j32e (by omega) (by omega)
          refine st_xi (N := E.2.2.2.2.1) (by decide) (by decide) rfl (show 0 ≤ jw32 (x3 + 3) by omega) (show jw32 (x3 + 3) < ((E.2.2.2.2.1 : Nat) : Int) by omega) (fun v244 ev244 => ?_)
          replace ev244 : v244 = jxv E (-2) (jw32 (x3 + 3)) := ev244
          have e245 : jw32 (x3 + 4) = x3 + 4 := j32e (by omega) (by omega)
          refine st_xi (N := E.2.2.2.2.1) (by decide) (by decide) rfl (show 0 ≤ jw32 (x3 + 4) by omega) (show jw32 (x3 + 4) < ((E.2.2.2.2.1 : Nat) : Int) by omega) (fun v246 ev246 => ?_)
          replace ev246 : v246 = jxv E (-2) (jw32 (x3 + 4)) := ev246
          refine st_cv (na := 4) (st := [.inl v246, .inl v244, .inl v242, .inl v240, .inr (.inr (.inl 0))]) jo_0 rfl rfl rfl (c_X11_needs v240 v242 v244 v246 g) rfl ?_
          rintro _ _ g248 ⟨rfl, ft247, t247, rfl, ht247, zt247⟩ kt247
          replace kt247 : -2147483648 ≤ t247 ∧ t247 ≤ 2147483647 := kt247
          replace ht247 : -7 ≤ t247 ∧ t247 ≤ 500 := ht247
          replace zt247 : P_X11_needs v240 v242 v244 v246 t247 g g248 := zt247
          have li249 : jLI g248 := jLI_fr (ft247 176 0 (by unfold w_X11_needs; omega)) (ft247 0 0 (by unfold w_X11_needs; omega)) (fun t => ft247 87 t (by unfold w_X11_needs; omega)) li
          have dli249 : g248 176 0 ≤ 2000 := li249.1
          have e251 : jw32 (x3 + 1) = x3 + 1 := j32e (by omega) (by omega)
          refine st_xi (N := E.2.2.2.2.1) (by decide) (by decide) rfl (show 0 ≤ jw32 (x3 + 1) by omega) (show jw32 (x3 + 1) < ((E.2.2.2.2.1 : Nat) : Int) by omega) (fun v252 ev252 => ?_)
          replace ev252 : v252 = jxv E (-2) (jw32 (x3 + 1)) := ev252
          have e253 : jw32 (x3 + 2) = x3 + 2 := j32e (by omega) (by omega)
          refine st_xi (N := E.2.2.2.2.1) (by decide) (by decide) rfl (show 0 ≤ jw32 (x3 + 2) by omega) (show jw32 (x3 + 2) < ((E.2.2.2.2.1 : Nat) : Int) by omega) (fun v254 ev254 => ?_)
          replace ev254 : v254 = jxv E (-2) (jw32 (x3 + 2)) := ev254
          have e255 : jw32 (x3 + 3) = x3 + 3 := j32e (by omega) (by omega)
          refine st_xi (N := E.2.2.2.2.1) (by decide) (by decide) rfl (show 0 ≤ jw32 (x3 + 3) by omega) (show jw32 (x3 + 3) < ((E.2.2.2.2.1 : Nat) : Int) by omega) (fun v256 ev256 => ?_)
          replace ev256 : v256 = jxv E (-2) (jw32 (x3 + 3)) := ev256
          have e257 : jw32 (x3 + 4) = x3 + 4 := j32e (by omega) (by omega)
          refine st_xi (N := E.2.2.2.2.1) (by decide) (by decide) rfl (show 0 ≤ jw32 (x3 + 4) by omega) (show jw32 (x3 + 4) < ((E.2.2.2.2.1 : Nat) : Int) by omega) (fun v258 ev258 => ?_)
          replace ev258 : v258 = jxv E (-2) (jw32 (x3 + 4)) := ev258
          refine st_cv (na := 4) (st := [.inl v258, .inl v256, .inl v254, .inl v252, .inr (.inr (.inl 176))]) jo_176 rfl rfl rfl (c_X12_needs v252 v254 v256 v258 g248) rfl ?_
          rintro _ _ g260 ⟨rfl, ft259, t259, rfl, ht259, zt259⟩ kt259
          replace kt259 : -2147483648 ≤ t259 ∧ t259 ≤ 2147483647 := kt259
          replace ht259 : -7 ≤ t259 ∧ t259 ≤ 500 := ht259
          replace zt259 : P_X12_needs v252 v254 v256 v258 t259 g248 g260 := zt259
          have li261 : jLI g260 := jLI_fr (ft259 176 0 (by unfold w_X12_needs; omega)) (ft259 0 0 (by unfold w_X12_needs; omega)) (fun t => ft259 87 t (by unfold w_X12_needs; omega)) li249
          have dli261 : g260 176 0 ≤ 2000 := li261.1
          rw [show v252 = v240 by omega, show v254 = v242 by omega, show v256 = v244 by omega, show v258 = v246 by omega] at zt259
          have qe263 := pr_needs ft247 ft259 zt247 zt259 sm
          have eqe263 := qe263.1
          have sm262 : jI g260 := qe263.2
          clear qe263 zt259
          show jGo E l 179 0 229 _ 1410 [.inr (.inr (.inl (-2))), .inr (.inr (.inl 0)), .inr (.inr (.inl 176)), .inl x3] [] 229 jr0 g260
          refine jGo_blk qL_law_1410 ?_
          have e264 : jw32 (x3 + 6) = x3 + 6 := j32e (by omega) (by omega)
          show jGo E l 179 0 229 _ 18 [.inr (.inr (.inl (-2))), .inr (.inr (.inl 0)), .inr (.inr (.inl 176)), .inl (jw32 (x3 + 6))] [] 229 jr0 g260
          exact ih (jw32 (x3 + 6)) g260 (by omega) li261 sm262 (by omega)
        · replace c6 : jand v4 63 = 12 := c6
          show jGo E l 179 0 229 _ 688 [.inr (.inr (.inl (-2))), .inr (.inr (.inl 0)), .inr (.inr (.inl 176)), .inl x3] [] 229 jr0 g
          refine jGo_blk qL_law_688 ?_
          have e265 : jw32 (x3 + 1) = x3 + 1 := j32e (by omega) (by omega)
          refine st_xi (N := E.2.2.2.2.1) (by decide) (by decide) rfl (show 0 ≤ jw32 (x3 + 1) by omega) (show jw32 (x3 + 1) < ((E.2.2.2.2.1 : Nat) : Int) by omega) (fun v266 ev266 => ?_)
          replace ev266 : v266 = jxv E (-2) (jw32 (x3 + 1)) := ev266
          have e267 : jw32 (x3 + 2) = x3 + 2 := j32e (by omega) (by omega)
          refine st_xi (N := E.2.2.2.2.1) (by decide) (by decide) rfl (show 0 ≤ jw32 (x3 + 2) by omega) (show jw32 (x3 + 2) < ((E.2.2.2.2.1 : Nat) : Int) by omega) (fun v268 ev268 => ?_)
          replace ev268 : v268 = jxv E (-2) (jw32 (x3 + 2)) := ev268
          have e269 : jw32 (x3 + 3) = x3 + 3 := j32e (by omega) (by omega)
          refine st_xi (N := E.2.2.2.2.1) (by decide) (by decide) rfl (show 0 ≤ jw32 (x3 + 3) by omega) (show jw32 (x3 + 3) < ((E.2.2.2.2.1 : Nat) : Int) by omega) (fun v270 ev270 => ?_)
          replace ev270 : v270 = jxv E (-2) (jw32 (x3 + 3)) := ev270
          refine st_cv (na := 3) (st := [.inl v270, .inl v268, .inl v266, .inr (.inr (.inl 0))]) jo_0 rfl rfl rfl (c_X11_hull v266 v268 v270 g) rfl ?_
          rintro _ _ g272 ⟨rfl, ft271, t271, rfl, ht271, zt271⟩ kt271
          replace kt271 : -2147483648 ≤ t271 ∧ t271 ≤ 2147483647 := kt271
          replace ht271 : -7 ≤ t271 ∧ t271 ≤ 15 := ht271
          replace zt271 : P_X11_hull v266 v268 v270 t271 g g272 := zt271
          have li273 : jLI g272 := jLI_fr (ft271 176 0 (by unfold w_X11_hull; omega)) (ft271 0 0 (by unfold w_X11_hull; omega)) (fun t => ft271 87 t (by unfold w_X11_hull; omega)) li
          have dli273 : g272 176 0 ≤ 2000 := li273.1
          have e275 : jw32 (x3 + 1) = x3 + 1 := j32e (by omega) (by omega)
          refine st_xi (N := E.2.2.2.2.1) (by decide) (by decide) rfl (show 0 ≤ jw32 (x3 + 1) by omega) (show jw32 (x3 + 1) < ((E.2.2.2.2.1 : Nat) : Int) by omega) (fun v276 ev276 => ?_)
          replace ev276 : v276 = jxv E (-2) (jw32 (x3 + 1)) := ev276
          have e277 : jw32 (x3 + 2) = x3 + 2 := j32e (by omega) (by omega)
          refine st_xi (N := E.2.2.2.2.1) (by decide) (by decide) rfl (show 0 ≤ jw32 (x3 + 2) by omega) (show jw32 (x3 + 2) < ((E.2.2.2.2.1 : Nat) : Int) by omega) (fun v278 ev278 => ?_)
          replace ev278 : v278 = jxv E (-2) (jw32 (x3 + 2)) := ev278
          have e279 : jw32 (x3 + 3) = x3 + 3 := j32e (by omega) (by omega)
          refine st_xi (N := E.2.2.2.2.1) (by decide) (by decide) rfl (show 0 ≤ jw32 (x3 + 3) by omega) (show jw32 (x3 + 3) < ((E.2.2.2.2.1 : Nat) : Int) by omega) (fun v280 ev280 => ?_)
          replace ev280 : v280 = jxv E (-2) (jw32 (x3 + 3)) := ev280
          refine st_cv (na := 3) (st := [.inl v280, .inl v278, .inl v276, .inr (.inr (.inl 176))]) jo_176 rfl rfl rfl (c_X12_hull v276 v278 v280 g272) rfl ?_
          rintro _ _ g282 ⟨rfl, ft281, t281, rfl, ht281, zt281⟩ kt281
          replace kt281 : -2147483648 ≤ t281 ∧ t281 ≤ 2147483647 := kt281
          replace ht281 : -7 ≤ t281 ∧ t281 ≤ 15 := ht281
          replace zt281 : P_X12_hull v276 v278 v280 t281 g272 g282 := zt281
          have li283 : jLI g282 := jLI_fr (ft281 176 0 (by unfold w_X12_hull; omega)) (ft281 0 0 (by unfold w_X12_hull; omega)) (fun t => ft281 87 t (by unfold w_X12_hull; omega)) li273
          have dli283 : g282 176 0 ≤ 2000 := li283.1
          rw [show v276 = v266 by omega, show v278 = v268 by omega, show v280 = v270 by omega] at zt281
          have qe285 := pr_hull ft271 ft281 zt271 zt281 sm ((jbf_10_4 jo_29 _).1 (hbd9 29 4)).1
          have eqe285 := qe285.1
          have sm284 : jI g282 := qe285.2
          clear qe285 zt281
          show jGo E l 179 0 229 _ 1410 [.inr (.inr (.inl (-2))), .inr (.inr (.inl 0)), .inr (.inr (.inl 176)), .inl x3] [] 229 jr0 g282
          refine jGo_blk qL_law_1410 ?_
          have e286 : jw32 (x3 + 6) = x3 + 6 := j32e (by omega) (by omega)
          show jGo E l 179 0 229 _ 18 [.inr (.inr (.inl (-2))), .inr (.inr (.inl 0)), .inr (.inr (.inl 176)), .inl (jw32 (x3 + 6))] [] 229 jr0 g282
          exact ih (jw32 (x3 + 6)) g282 (by omega) li283 sm284 (by omega)
        · replace c6 : jand v4 63 = 13 := c6
          show jGo E l 179 0 229 _ 731 [.inr (.inr (.inl (-2))), .inr (.inr (.inl 0)), .inr (.inr (.inl 176)), .inl x3] [] 229 jr0 g
          refine jGo_blk qL_law_731 ?_
          have e287 : jw32 (x3 + 1) = x3 + 1 := j32e (by omega) (by omega)
          refine st_xi (N := E.2.2.2.2.1) (by decide) (by decide) rfl (show 0 ≤ jw32 (x3 + 1) by omega) (show jw32 (x3 + 1) < ((E.2.2.2.2.1 : Nat) : Int) by omega) (fun v288 ev288 => ?_)
          replace ev288 : v288 = jxv E (-2) (jw32 (x3 + 1)) := ev288
          have e289 : jw32 (x3 + 2) = x3 + 2 := j32e (by omega) (by omega)
          refine st_xi (N := E.2.2.2.2.1) (by decide) (by decide) rfl (show 0 ≤ jw32 (x3 + 2) by omega) (show jw32 (x3 + 2) < ((E.2.2.2.2.1 : Nat) : Int) by omega) (fun v290 ev290 => ?_)
          replace ev290 : v290 = jxv E (-2) (jw32 (x3 + 2)) := ev290
          refine st_cv (na := 2) (st := [.inl v290, .inl v288, .inr (.inr (.inl 0))]) jo_0 rfl rfl rfl (c_X11_priority v288 v290 g) rfl ?_
          rintro _ _ g292 ⟨rfl, ft291, t291, rfl, ht291, zt291⟩ kt291
          replace kt291 : -2147483648 ≤ t291 ∧ t291 ≤ 2147483647 := kt291
          replace ht291 : -7 ≤ t291 ∧ t291 ≤ 99 := ht291
          replace zt291 : P_X11_priority v288 v290 t291 g g292 := zt291
          have li293 : jLI g292 := jLI_fr (ft291 176 0 (by unfold w_X11_priority; omega)) (ft291 0 0 (by unfold w_X11_priority; omega)) (fun t => ft291 87 t (by unfold w_X11_priority; omega)) li
          have dli293 : g292 176 0 ≤ 2000 := li293.1
          have e295 : jw32 (x3 + 1) = x3 + 1 := j32e (by omega) (by omega)
          refine st_xi (N := E.2.2.2.2.1) (by decide) (by decide) rfl (show 0 ≤ jw32 (x3 + 1) by omega) (show jw32 (x3 + 1) < ((E.2.2.2.2.1 : Nat) : Int) by omega) (fun v296 ev296 => ?_)
          replace ev296 : v296 = jxv E (-2) (jw32 (x3 + 1)) := ev296
          have e297 : jw32 (x3 + 2) = x3 + 2 := j32e (by omega) (by omega)
          refine st_xi (N := E.2.2.2.2.1) (by decide) (by decide) rfl (show 0 ≤ jw32 (x3 + 2) by omega) (show jw32 (x3 + 2) < ((E.2.2.2.2.1 : Nat) : Int) by omega) (fun v298 ev298 => ?_)
          replace ev298 : v298 = jxv E (-2) (jw32 (x3 + 2)) := ev298
          refine st_cv (na := 2) (st := [.inl v298, .inl v296, .inr (.inr (.inl 176))]) jo_176 rfl rfl rfl (c_X12_priority v296 v298 g292) rfl ?_
          rintro _ _ g300 ⟨rfl, ft299, t299, rfl, ht299, zt299⟩ kt299
          replace kt299 : -2147483648 ≤ t299 ∧ t299 ≤ 2147483647 := kt299
          replace ht299 : -7 ≤ t299 ∧ t299 ≤ 99 := ht299
          replace zt299 : P_X12_priority v296 v298 t299 g292 g300 := zt299
          have li301 : jLI g300 := jLI_fr (ft299 176 0 (by unfold w_X12_priority; omega)) (ft299 0 0 (by unfold w_X12_priority; omega)) (fun t => ft299 87 t (by unfold w_X12_priority; omega)) li293
          have dli301 : g300 176 0 ≤ 2000 := li301.1
          rw [show v296 = v288 by omega, show v298 = v290 by omega] at zt299
          have qe303 := pr_priority ft291 ft299 zt291 zt299 sm (fun k => ((jba_192 k _).1 (hbd9 192 k)).1) ((jbf_10_4 jo_29 _).1 (hbd9 29 4)).2
          have eqe303 := qe303.1
          have sm302 : jI g300 := qe303.2
          clear qe303 zt299
          show jGo E l 179 0 229 _ 1410 [.inr (.inr (.inl (-2))), .inr (.inr (.inl 0)), .inr (.inr (.inl 176)), .inl x3] [] 229 jr0 g300
          refine jGo_blk qL_law_1410 ?_
          have e304 : jw32 (x3 + 6) = x3 + 6 := j32e (by omega) (by omega)
          show jGo E l 179 0 229 _ 18 [.inr (.inr (.inl (-2))), .inr (.inr (.inl 0)), .inr (.inr (.inl 176)), .inl (jw32 (x3 + 6))] [] 229 jr0 g300
          exact ih (jw32 (x3 + 6)) g300 (by omega) li301 sm302 (by omega)
        · replace c6 : jand v4 63 = 14 := c6
          show jGo E l 179 0 229 _ 764 [.inr (.inr (.inl (-2))), .inr (.inr (.inl 0)), .inr (.inr (.inl 176)), .inl x3] [] 229 jr0 g
          refine jGo_blk qL_law_764 ?_
          have e305 : jw32 (x3 + 1) = x3 + 1 := j32e (by omega) (by omega)
          refine st_xi (N := E.2.2.2.2.1) (by decide) (by decide) rfl (show 0 ≤ jw32 (x3 + 1) by omega) (show jw32 (x3 + 1) < ((E.2.2.2.2.1 : Nat) : Int) by omega) (fun v306 ev306 => ?_)
          replace ev306 : v306 = jxv E (-2) (jw32 (x3 + 1)) := ev306
          have e307 : jw32 (x3 + 2) = x3 + 2 := j32e (by omega) (by omega)
          refine st_xi (N := E.2.2.2.2.1) (by decide) (by decide) rfl (show 0 ≤ jw32 (x3 + 2) by omega) (show jw32 (x3 + 2) < ((E.2.2.2.2.1 : Nat) : Int) by omega) (fun v308 ev308 => ?_)
          replace ev308 : v308 = jxv E (-2) (jw32 (x3 + 2)) := ev308
          refine st_cv (na := 2) (st := [.inl v308, .inl v306, .inr (.inr (.inl 0))]) jo_0 rfl rfl rfl (c_X11_raft v306 v308 g) rfl ?_
          rintro _ _ g310 ⟨rfl, ft309, t309, rfl, ht309, zt309⟩ kt309
          replace kt309 : -2147483648 ≤ t309 ∧ t309 ≤ 2147483647 := kt309
          replace ht309 : -7 ≤ t309 ∧ t309 ≤ 1 := ht309
          replace zt309 : P_X11_raft v306 v308 t309 g g310 := zt309
          have li311 : jLI g310 := jLI_fr (ft309 176 0 (by unfold w_X11_raft; omega)) (ft309 0 0 (by unfold w_X11_raft; omega)) (fun t => ft309 87 t (by unfold w_X11_raft; omega)) li
          have dli311 : g310 176 0 ≤ 2000 := li311.1
          have e313 : jw32 (x3 + 1) = x3 + 1 := j32e (by omega) (by omega)
          refine st_xi (N := E.2.2.2.2.1) (by decide) (by decide) rfl (show 0 ≤ jw32 (x3 + 1) by omega) (show jw32 (x3 + 1) < ((E.2.2.2.2.1 : Nat) : Int) by omega) (fun v314 ev314 => ?_)
          replace ev314 : v314 = jxv E (-2) (jw32 (x3 + 1)) := ev314
          have e315 : jw32 (x3 + 2) = x3 + 2 := j32e (by omega) (by omega)
          refine st_xi (N := E.2.2.2.2.1) (by decide) (by decide) rfl (show 0 ≤ jw32 (x3 + 2) by omega) (show jw32 (x3 + 2) < ((E.2.2.2.2.1 : Nat) : Int) by omega) (fun v316 ev316 => ?_)
          replace ev316 : v316 = jxv E (-2) (jw32 (x3 + 2)) := ev316
          refine st_cv (na := 2) (st := [.inl v316, .inl v314, .inr (.inr (.inl 176))]) jo_176 rfl rfl rfl (c_X12_raft v314 v316 g310) rfl ?_
          rintro _ _ g318 ⟨rfl, ft317, t317, rfl, ht317, zt317⟩ kt317
          replace kt317 : -2147483648 ≤ t317 ∧ t317 ≤ 2147483647 := kt317
          replace ht317 : -7 ≤ t317 ∧ t317 ≤ 1 := ht317
          replace zt317 : P_X12_raft v314 v316 t317 g310 g318 := zt317
          have li319 : jLI g318 := jLI_fr (ft317 176 0 (by unfold w_X12_raft; omega)) (ft317 0 0 (by unfold w_X12_raft; omega)) (fun t => ft317 87 t (by unfold w_X12_raft; omega)) li311
          have dli319 : g318 176 0 ≤ 2000 := li319.1
          rw [show v314 = v306 by omega, show v316 = v308 by omega] at zt317
          have qe321 := pr_raft ft309 ft317 zt309 zt317 sm
          have eqe321 := qe321.1
          have sm320 : jI g318 := qe321.2
          clear qe321 zt317
          show jGo E l 179 0 229 _ 1410 [.inr (.inr (.inl (-2))), .inr (.inr (.inl 0)), .inr (.inr (.inl 176)), .inl x3] [] 229 jr0 g318
          refine jGo_blk qL_law_1410 ?_
          have e322 : jw32 (x3 + 6) = x3 + 6 := j32e (by omega) (by omega)
          show jGo E l 179 0 229 _ 18 [.inr (.inr (.inl (-2))), .inr (.inr (.inl 0)), .inr (.inr (.inl 176)), .inl (jw32 (x3 + 6))] [] 229 jr0 g318
          exact ih (jw32 (x3 + 6)) g318 (by omega) li319 sm320 (by omega)
        · replace c6 : jand v4 63 = 15 := c6
          show jGo E l 179 0 229 _ 797 [.inr (.inr (.inl (-2))), .inr (.inr (.inl 0)), .inr (.inr (.inl 176)), .inl x3] [] 229 jr0 g
          refine jGo_blk qL_law_797 ?_
          have e323 : jw32 (x3 + 1) = x3 + 1 := j32e (by omega) (by omega)
          refine st_xi (N := E.2.2.2.2.1) (by decide) (by decide) rfl (show 0 ≤ jw32 (x3 + 1) by omega) (show jw32 (x3 + 1) < ((E.2.2.2.2.1 : Nat) : Int) by omega) (fun v324 ev324 => ?_)
          replace ev324 : v324 = jxv E (-2) (jw32 (x3 + 1)) := ev324
          refine st_cv (na := 1) (st := [.inl v324, .inr (.inr (.inl 0))]) jo_0 rfl rfl rfl (c_X11_unraft v324 g) rfl ?_
          rintro _ _ g326 ⟨rfl, ft325, t325, rfl, ht325, zt325⟩ kt325
          replace kt325 : -2147483648 ≤ t325 ∧ t325 ≤ 2147483647 := kt325
          replace zt325 : P_X11_unraft v324 t325 g g326 := zt325
          have li327 : jLI g326 := jLI_fr (ft325 176 0 (by unfold w_X11_unraft; omega)) (ft325 0 0 (by unfold w_X11_unraft; omega)) (fun t => ft325 87 t (by unfold w_X11_unraft; omega)) li
          have dli327 : g326 176 0 ≤ 2000 := li327.1
          have e329 : jw32 (x3 + 1) = x3 + 1 := j32e (by omega) (by omega)
          refine st_xi (N := E.2.2.2.2.1) (by decide) (by decide) rfl (show 0 ≤ jw32 (x3 + 1) by omega) (show jw32 (x3 + 1) < ((E.2.2.2.2.1 : Nat) : Int) by omega) (fun v330 ev330 => ?_)
          replace ev330 : v330 = jxv E (-2) (jw32 (x3 + 1)) := ev330
          refine st_cv (na := 1) (st := [.inl v330, .inr (.inr (.inl 176))]) jo_176 rfl rfl rfl (c_X12_unraft v330 g326) rfl ?_
          rintro _ _ g332 ⟨rfl, ft331, t331, rfl, ht331, zt331⟩ kt331
          replace kt331 : -2147483648 ≤ t331 ∧ t331 ≤ 2147483647 := kt331
          replace zt331 : P_X12_unraft v330 t331 g326 g332 := zt331
          have li333 : jLI g332 := jLI_fr (ft331 176 0 (by unfold w_X12_unraft; omega)) (ft331 0 0 (by unfold w_X12_unraft; omega)) (fun t => ft331 87 t (by unfold w_X12_unraft; omega)) li327
          have dli333 : g332 176 0 ≤ 2000 := li333.1
          rw [show v330 = v324 by omega] at zt331
          have qe335 := pr_unraft ft325 ft331 zt325 zt331 sm
          have eqe335 := qe335.1
          have sm334 : jI g332 := qe335.2
          clear qe335 zt331
          show jGo E l 179 0 229 _ 1410 [.inr (.inr (.inl (-2))), .inr (.inr (.inl 0)), .inr (.inr (.inl 176)), .inl x3] [] 229 jr0 g332
          refine jGo_blk qL_law_1410 ?_
          have e336 : jw32 (x3 + 6) = x3 + 6 := j32e (by omega) (by omega)
          show jGo E l 179 0 229 _ 18 [.inr (.inr (.inl (-2))), .inr (.inr (.inl 0)), .inr (.inr (.inl 176)), .inl (jw32 (x3 + 6))] [] 229 jr0 g332
          exact ih (jw32 (x3 + 6)) g332 (by omega) li333 sm334 (by omega)
        · replace c6 : jand v4 63 = 16 := c6
          show jGo E l 179 0 229 _ 820 [.inr (.inr (.inl (-2))), .inr (.inr (.inl 0)), .inr (.inr (.inl 176)), .inl x3] [] 229 jr0 g
          refine jGo_blk qL_law_820 ?_
          have e337 : jw32 (x3 + 1) = x3 + 1 := j32e (by omega) (by omega)
          refine st_xi (N := E.2.2.2.2.1) (by decide) (by decide) rfl (show 0 ≤ jw32 (x3 + 1) by omega) (show jw32 (x3 + 1) < ((E.2.2.2.2.1 : Nat) : Int) by omega) (fun v338 ev338 => ?_)
          replace ev338 : v338 = jxv E (-2) (jw32 (x3 + 1)) := ev338
          refine st_cv (na := 1) (st := [.inl v338, .inr (.inr (.inl 0))]) jo_0 rfl rfl rfl (c_X11_days v338 g li.2) rfl ?_
          rintro _ _ g340 ⟨rfl, ft339, t339, rfl, ht339, zt339⟩ kt339
          replace kt339 : -2147483648 ≤ t339 ∧ t339 ≤ 2147483647 := kt339
          replace zt339 : (jLG 0 g340 ∧ P_X11_days v338 g g340) ∧ (((v338 < 0 ∨ 2000 - g 0 0 < v338) ∧ ∀ i k : Int, ¬ i = 1 → g340 i k = g i k) ∨ (0 ≤ v338 ∧ v338 ≤ 2000 - g 0 0 ∧ ∀ (fl : Prop) (hm : JH), jDR fl g hm → jDR fl g340 (jit jmDy (v338).toNat hm) ∧ jRft hm (jit jmDy (v338).toNat hm))) := zt339
          have li341 : jLI g340 := ⟨by rw [(ft339 176 0 (by unfold w_X11_days; omega))]; exact li.1, zt339.1.1⟩
          have dli341 : g340 176 0 ≤ 2000 := li341.1
          have e343 : jw32 (x3 + 1) = x3 + 1 := j32e (by omega) (by omega)
          refine st_xi (N := E.2.2.2.2.1) (by decide) (by decide) rfl (show 0 ≤ jw32 (x3 + 1) by omega) (show jw32 (x3 + 1) < ((E.2.2.2.2.1 : Nat) : Int) by omega) (fun v344 ev344 => ?_)
          replace ev344 : v344 = jxv E (-2) (jw32 (x3 + 1)) := ev344
          have e345 : g340 176 0 = g 176 0 := ft339 176 0 (by unfold w_X11_days; omega)
          refine st_cv (na := 1) (st := [.inl v344, .inr (.inr (.inl 176))]) jo_176 rfl rfl rfl (c_X12_days v344 g340 (by omega)) rfl ?_
          rintro _ _ g347 ⟨rfl, ft346, t346, rfl, ht346, zt346⟩ kt346
          replace kt346 : -2147483648 ≤ t346 ∧ t346 ≤ 2147483647 := kt346
          replace zt346 : (g347 176 0 ≤ 2000 ∧ P_X12_days v344 g340 g347) ∧ (((v344 < 1 ∨ 2000 - g340 176 0 < v344) ∧ ∀ i k : Int, ¬ i = 219 → g347 i k = g340 i k) ∨ (1 ≤ v344 ∧ v344 ≤ 2000 - g340 176 0 ∧ g347 = jit jmDy (v344).toNat g340)) := zt346
          have li348 : jLI g347 := ⟨zt346.1.1, jLG_fr (ft346 0 0 (by unfold w_X12_days; omega)) (fun t => ft346 87 t (by unfold w_X12_days; omega)) li341.2⟩
          have dli348 : g347 176 0 ≤ 2000 := li348.1
          have zd350 := zt346.1.2
          have zd351 := zt346.2
          rw [show v344 = v338 by omega] at zd350 zd351
          have sm349 : jI g347 := pr_days ft339 ft346 zt339.1.2 zt339.2 zd350 zd351 sm hbd9
          show jGo E l 179 0 229 _ 1410 [.inr (.inr (.inl (-2))), .inr (.inr (.inl 0)), .inr (.inr (.inl 176)), .inl x3] [] 229 jr0 g347
          refine jGo_blk qL_law_1410 ?_
          have e352 : jw32 (x3 + 6) = x3 + 6 := j32e (by omega) (by omega)
          show jGo E l 179 0 229 _ 18 [.inr (.inr (.inl (-2))), .inr (.inr (.inl 0)), .inr (.inr (.inl 176)), .inl (jw32 (x3 + 6))] [] 229 jr0 g347
          exact ih (jw32 (x3 + 6)) g347 (by omega) li348 sm349 (by omega)
        · replace c6 : jand v4 63 = 17 := c6
          show jGo E l 179 0 229 _ 843 [.inr (.inr (.inl (-2))), .inr (.inr (.inl 0)), .inr (.inr (.inl 176)), .inl x3] [] 229 jr0 g
          refine jGo_blk qL_law_843 ?_
          have e353 : jw32 (x3 + 1) = x3 + 1 := j32e (by omega) (by omega)
          refine st_xi (N := E.2.2.2.2.1) (by decide) (by decide) rfl (show 0 ≤ jw32 (x3 + 1) by omega) (show jw32 (x3 + 1) < ((E.2.2.2.2.1 : Nat) : Int) by omega) (fun v354 ev354 => ?_)
          replace ev354 : v354 = jxv E (-2) (jw32 (x3 + 1)) := ev354
          refine st_cv (na := 1) (st := [.inl v354, .inr (.inr (.inl 0))]) jo_0 rfl rfl rfl (c_X11_breakUp v354 g) rfl ?_
          rintro _ _ g356 ⟨rfl, ft355, t355, rfl, ht355, zt355⟩ kt355
          replace kt355 : -2147483648 ≤ t355 ∧ t355 ≤ 2147483647 := kt355
          replace zt355 : P_X11_breakUp v354 t355 g g356 := zt355
          have li357 : jLI g356 := jLI_fr (ft355 176 0 (by unfold w_X11_breakUp; omega)) (ft355 0 0 (by unfold w_X11_breakUp; omega)) (fun t => ft355 87 t (by unfold w_X11_breakUp; omega)) li
          have dli357 : g356 176 0 ≤ 2000 := li357.1
          have e359 : jw32 (x3 + 1) = x3 + 1 := j32e (by omega) (by omega)
          refine st_xi (N := E.2.2.2.2.1) (by decide) (by decide) rfl (show 0 ≤ jw32 (x3 + 1) by omega) (show jw32 (x3 + 1) < ((E.2.2.2.2.1 : Nat) : Int) by omega) (fun v360 ev360 => ?_)
          replace ev360 : v360 = jxv E (-2) (jw32 (x3 + 1)) := ev360
          refine st_cv (na := 1) (st := [.inl v360, .inr (.inr (.inl 176))]) jo_176 rfl rfl rfl (c_X12_breakUp v360 g356) rfl ?_
          rintro _ _ g362 ⟨rfl, ft361, t361, rfl, ht361, zt361⟩ kt361
          replace kt361 : -2147483648 ≤ t361 ∧ t361 ≤ 2147483647 := kt361
          replace zt361 : P_X12_breakUp v360 t361 g356 g362 := zt361
          have li363 : jLI g362 := jLI_fr (ft361 176 0 (by unfold w_X12_breakUp; omega)) (ft361 0 0 (by unfold w_X12_breakUp; omega)) (fun t => ft361 87 t (by unfold w_X12_breakUp; omega)) li357
          have dli363 : g362 176 0 ≤ 2000 := li363.1
          rw [show v360 = v354 by omega] at zt361
          have qe365 := pr_breakUp ft355 ft361 zt355 zt361 sm ((jbf_10_4 jo_29 _).1 (hbd9 29 4)).2
          have eqe365 := qe365.1
          have sm364 : jI g362 := qe365.2
          clear qe365 zt361
          show jGo E l 179 0 229 _ 1410 [.inr (.inr (.inl (-2))), .inr (.inr (.inl 0)), .inr (.inr (.inl 176)), .inl x3] [] 229 jr0 g362
          refine jGo_blk qL_law_1410 ?_
          have e366 : jw32 (x3 + 6) = x3 + 6 := j32e (by omega) (by omega)
          show jGo E l 179 0 229 _ 18 [.inr (.inr (.inl (-2))), .inr (.inr (.inl 0)), .inr (.inr (.inl 176)), .inl (jw32 (x3 + 6))] [] 229 jr0 g362
          exact ih (jw32 (x3 + 6)) g362 (by omega) li363 sm364 (by omega)
        · replace c6 : jand v4 63 = 18 := c6
          show jGo E l 179 0 229 _ 866 [.inr (.inr (.inl (-2))), .inr (.inr (.inl 0)), .inr (.inr (.inl 176)), .inl x3] [] 229 jr0 g
          refine jGo_blk qL_law_866 ?_
          have e367 : jw32 (x3 + 1) = x3 + 1 := j32e (by omega) (by omega)
          refine st_xi (N := E.2.2.2.2.1) (by decide) (by decide) rfl (show 0 ≤ jw32 (x3 + 1) by omega) (show jw32 (x3 + 1) < ((E.2.2.2.2.1 : Nat) : Int) by omega) (fun v368 ev368 => ?_)
          replace ev368 : v368 = jxv E (-2) (jw32 (x3 + 1)) := ev368
          have e369 : jw32 (x3 + 2) = x3 + 2 := j32e (by omega) (by omega)
          refine st_xi (N := E.2.2.2.2.1) (by decide) (by decide) rfl (show 0 ≤ jw32 (x3 + 2) by omega) (show jw32 (x3 + 2) < ((E.2.2.2.2.1 : Nat) : Int) by omega) (fun v370 ev370 => ?_)
          replace ev370 : v370 = jxv E (-2) (jw32 (x3 + 2)) := ev370
          refine st_cv (na := 2) (st := [.inl v370, .inl v368, .inr (.inr (.inl 0))]) jo_0 rfl rfl rfl (c_X11_growth v368 v370 g) rfl ?_
          rintro _ _ g372 ⟨rfl, ft371, t371, rfl, ht371, zt371⟩ kt371
          replace kt371 : -2147483648 ≤ t371 ∧ t371 ≤ 2147483647 := kt371
          replace ht371 : -7 ≤ t371 ∧ t371 ≤ 9 := ht371
          replace zt371 : P_X11_growth v368 v370 t371 g g372 := zt371
          have li373 : jLI g372 := jLI_fr (ft371 176 0 (by unfold w_X11_growth; omega)) (ft371 0 0 (by unfold w_X11_growth; omega)) (fun t => ft371 87 t (by unfold w_X11_growth; omega)) li
          have dli373 : g372 176 0 ≤ 2000 := li373.1
          have e375 : jw32 (x3 + 1) = x3 + 1 := j32e (by omega) (by omega)
          refine st_xi (N := E.2.2.2.2.1) (by decide) (by decide) rfl (show 0 ≤ jw32 (x3 + 1) by omega) (show jw32 (x3 + 1) < ((E.2.2.2.2.1 : Nat) : Int) by omega) (fun v376 ev376 => ?_)
          replace ev376 : v376 = jxv E (-2) (jw32 (x3 + 1)) := ev376
          have e377 : jw32 (x3 + 2) = x3 + 2 := j32e (by omega) (by omega)
          refine st_xi (N := E.2.2.2.2.1) (by decide) (by decide) rfl (show 0 ≤ jw32 (x3 + 2) by omega) (show jw32 (x3 + 2) < ((E.2.2.2.2.1 : Nat) : Int) by omega) (fun v378 ev378 => ?_)
          replace ev378 : v378 = jxv E (-2) (jw32 (x3 + 2)) := ev378
          refine st_cv (na := 2) (st := [.inl v378, .inl v376, .inr (.inr (.inl 176))]) jo_176 rfl rfl rfl (c_X12_growth v376 v378 g372) rfl ?_
          rintro _ _ g380 ⟨rfl, ft379, t379, rfl, ht379, zt379⟩ kt379
          replace kt379 : -2147483648 ≤ t379 ∧ t379 ≤ 2147483647 := kt379
          replace ht379 : -7 ≤ t379 ∧ t379 ≤ 9 := ht379
          replace zt379 : P_X12_growth v376 v378 t379 g372 g380 := zt379
          have li381 : jLI g380 := jLI_fr (ft379 176 0 (by unfold w_X12_growth; omega)) (ft379 0 0 (by unfold w_X12_growth; omega)) (fun t => ft379 87 t (by unfold w_X12_growth; omega)) li373
          have dli381 : g380 176 0 ≤ 2000 := li381.1
          rw [show v376 = v368 by omega, show v378 = v370 by omega] at zt379
          have qe383 := pr_growth ft371 ft379 zt371 zt379 sm
          have eqe383 := qe383.1
          have sm382 : jI g380 := qe383.2
          clear qe383 zt379
          show jGo E l 179 0 229 _ 1410 [.inr (.inr (.inl (-2))), .inr (.inr (.inl 0)), .inr (.inr (.inl 176)), .inl x3] [] 229 jr0 g380
          refine jGo_blk qL_law_1410 ?_
          have e384 : jw32 (x3 + 6) = x3 + 6 := j32e (by omega) (by omega)
          show jGo E l 179 0 229 _ 18 [.inr (.inr (.inl (-2))), .inr (.inr (.inl 0)), .inr (.inr (.inl 176)), .inl (jw32 (x3 + 6))] [] 229 jr0 g380
          exact ih (jw32 (x3 + 6)) g380 (by omega) li381 sm382 (by omega)
        · replace c6 : jand v4 63 = 19 := c6
          show jGo E l 179 0 229 _ 899 [.inr (.inr (.inl (-2))), .inr (.inr (.inl 0)), .inr (.inr (.inl 176)), .inl x3] [] 229 jr0 g
          refine jGo_blk qL_law_899 ?_
          have e385 : jw32 (x3 + 1) = x3 + 1 := j32e (by omega) (by omega)
          refine st_xi (N := E.2.2.2.2.1) (by decide) (by decide) rfl (show 0 ≤ jw32 (x3 + 1) by omega) (show jw32 (x3 + 1) < ((E.2.2.2.2.1 : Nat) : Int) by omega) (fun v386 ev386 => ?_)
          replace ev386 : v386 = jxv E (-2) (jw32 (x3 + 1)) := ev386
          have e387 : jw32 (x3 + 2) = x3 + 2 := j32e (by omega) (by omega)
          refine st_xi (N := E.2.2.2.2.1) (by decide) (by decide) rfl (show 0 ≤ jw32 (x3 + 2) by omega) (show jw32 (x3 + 2) < ((E.2.2.2.2.1 : Nat) : Int) by omega) (fun v388 ev388 => ?_)
          replace ev388 : v388 = jxv E (-2) (jw32 (x3 + 2)) := ev388
          have e389 : jw32 (x3 + 3) = x3 + 3 := j32e (by omega) (by omega)
          refine st_xi (N := E.2.2.2.2.1) (by decide) (by decide) rfl (show 0 ≤ jw32 (x3 + 3) by omega) (show jw32 (x3 + 3) < ((E.2.2.2.2.1 : Nat) : Int) by omega) (fun v390 ev390 => ?_)
          replace ev390 : v390 = jxv E (-2) (jw32 (x3 + 3)) := ev390
          refine st_cv (na := 3) (st := [.inl v390, .inl v388, .inl v386, .inr (.inr (.inl 0))]) jo_0 rfl rfl rfl (c_X11_tree v386 v388 v390 g) rfl ?_
          rintro _ _ g392 ⟨rfl, ft391, t391, rfl, ht391, zt391⟩ kt391
          replace kt391 : -2147483648 ≤ t391 ∧ t391 ≤ 2147483647 := kt391
          replace ht391 : -7 ≤ t391 ∧ t391 ≤ 39 := ht391
          replace zt391 : (∀ t : Int, g392 87 t = g 87 t ∨ (1 ≤ g392 87 t ∧ g392 87 t ≤ 500)) ∧ P_X11_tree v386 v388 v390 t391 g g392 := zt391
          have li393 : jLI g392 := ⟨by rw [(ft391 176 0 (by unfold w_X11_tree; omega))]; exact li.1, jLG_tree (ft391 0 0 (by unfold w_X11_tree; omega)) zt391.1 li.2⟩
          have dli393 : g392 176 0 ≤ 2000 := li393.1
          have e395 : jw32 (x3 + 1) = x3 + 1 := j32e (by omega) (by omega)
          refine st_xi (N := E.2.2.2.2.1) (by decide) (by decide) rfl (show 0 ≤ jw32 (x3 + 1) by omega) (show jw32 (x3 + 1) < ((E.2.2.2.2.1 : Nat) : Int) by omega) (fun v396 ev396 => ?_)
          replace ev396 : v396 = jxv E (-2) (jw32 (x3 + 1)) := ev396
          have e397 : jw32 (x3 + 2) = x3 + 2 := j32e (by omega) (by omega)
          refine st_xi (N := E.2.2.2.2.1) (by decide) (by decide) rfl (show 0 ≤ jw32 (x3 + 2) by omega) (show jw32 (x3 + 2) < ((E.2.2.2.2.1 : Nat) : Int) by omega) (fun v398 ev398 => ?_)
          replace ev398 : v398 = jxv E (-2) (jw32 (x3 + 2)) := ev398
          have e399 : jw32 (x3 + 3) = x3 + 3 := j32e (by omega) (by omega)
          refine st_xi (N := E.2.2.2.2.1) (by decide) (by decide) rfl (show 0 ≤ jw32 (x3 + 3) by omega) (show jw32 (x3 + 3) < ((E.2.2.2.2.1 : Nat) : Int) by omega) (fun v400 ev400 => ?_)
          replace ev400 : v400 = jxv E (-2) (jw32 (x3 + 3)) := ev400
          refine st_cv (na := 3) (st := [.inl v400, .inl v398, .inl v396, .inr (.inr (.inl 176))]) jo_176 rfl rfl rfl (c_X12_tree v396 v398 v400 g392) rfl ?_
          rintro _ _ g402 ⟨rfl, ft401, t401, rfl, ht401, zt401⟩ kt401
          replace kt401 : -2147483648 ≤ t401 ∧ t401 ≤ 2147483647 := kt401
          replace ht401 : -7 ≤ t401 ∧ t401 ≤ 39 := ht401
          replace zt401 : P_X12_tree v396 v398 v400 t401 g392 g402 := zt401
          have li403 : jLI g402 := jLI_fr (ft401 176 0 (by unfold w_X12_tree; omega)) (ft401 0 0 (by unfold w_X12_tree; omega)) (fun t => ft401 87 t (by unfold w_X12_tree; omega)) li393
          have dli403 : g402 176 0 ≤ 2000 := li403.1
          rw [show v396 = v386 by omega, show v398 = v388 by omega, show v400 = v390 by omega] at zt401
          have qe405 := pr_tree ft391 ft401 zt391.2 zt401 sm
          have eqe405 := qe405.1
          have sm404 : jI g402 := qe405.2
          clear qe405 zt401
          show jGo E l 179 0 229 _ 1410 [.inr (.inr (.inl (-2))), .inr (.inr (.inl 0)), .inr (.inr (.inl 176)), .inl x3] [] 229 jr0 g402
          refine jGo_blk qL_law_1410 ?_
          have e406 : jw32 (x3 + 6) = x3 + 6 := j32e (by omega) (by omega)
          show jGo E l 179 0 229 _ 18 [.inr (.inr (.inl (-2))), .inr (.inr (.inl 0)), .inr (.inr (.inl 176)), .inl (jw32 (x3 + 6))] [] 229 jr0 g402
          exact ih (jw32 (x3 + 6)) g402 (by omega) li403 sm404 (by omega)
        · replace c6 : jand v4 63 = 20 := c6
          show jGo E l 179 0 229 _ 942 [.inr (.inr (.inl (-2))), .inr (.inr (.inl 0)), .inr (.inr (.inl 176)), .inl x3] [] 229 jr0 g
          refine jGo_blk qL_law_942 ?_
          have e407 : jw32 (x3 + 1) = x3 + 1 := j32e (by omega) (by omega)
          refine st_xi (N := E.2.2.2.2.1) (by decide) (by decide) rfl (show 0 ≤ jw32 (x3 + 1) by omega) (show jw32 (x3 + 1) < ((E.2.2.2.2.1 : Nat) : Int) by omega) (fun v408 ev408 => ?_)
          replace ev408 : v408 = jxv E (-2) (jw32 (x3 + 1)) := ev408
          have e409 : jw32 (x3 + 2) = x3 + 2 := j32e (by omega) (by omega)
          refine st_xi (N := E.2.2.2.2.1) (by decide) (by decide) rfl (show 0 ≤ jw32 (x3 + 2) by omega) (show jw32 (x3 + 2) < ((E.2.2.2.2.1 : Nat) : Int) by omega) (fun v410 ev410 => ?_)
          replace ev410 : v410 = jxv E (-2) (jw32 (x3 + 2)) := ev410
          have e411 : jw32 (x3 + 3) = x3 + 3 := j32e (by omega) (by omega)
          refine st_xi (N := E.2.2.2.2.1) (by decide) (by decide) rfl (show 0 ≤ jw32 (x3 + 3) by omega) (show jw32 (x3 + 3) < ((E.2.2.2.2.1 : Nat) : Int) by omega) (fun v412 ev412 => ?_)
          replace ev412 : v412 = jxv E (-2) (jw32 (x3 + 3)) := ev412
          have e413 : jw32 (x3 + 4) = x3 + 4 := j32e (by omega) (by omega)
          refine st_xi (N := E.2.2.2.2.1) (by decide) (by decide) rfl (show 0 ≤ jw32 (x3 + 4) by omega) (show jw32 (x3 + 4) < ((E.2.2.2.2.1 : Nat) : Int) by omega) (fun v414 ev414 => ?_)
          replace ev414 : v414 = jxv E (-2) (jw32 (x3 + 4)) := ev414
          have e415 : jw32 (x3 + 5) = x3 + 5 := j32e (by omega) (by omega)
          refine st_xi (N := E.2.2.2.2.1) (by decide) (by decide) rfl (show 0 ≤ jw32 (x3 + 5) by omega) (show jw32 (x3 + 5) < ((E.2.2.2.2.1 : Nat) : Int) by omega) (fun v416 ev416 => ?_)
          replace ev416 : v416 = jxv E (-2) (jw32 (x3 + 5)) := ev416
          refine st_cv (na := 5) (st := [.inl v416, .inl v414, .inl v412, .inl v410, .inl v408, .inr (.inr (.inl 0))]) jo_0 rfl rfl rfl (c_X11_part v408 v410 v412 v414 v416 g) rfl ?_
          rintro _ _ g418 ⟨rfl, ft417, t417, rfl, ht417, zt417⟩ kt417
          replace kt417 : -2147483648 ≤ t417 ∧ t417 ≤ 2147483647 := kt417
          replace ht417 : -7 ≤ t417 ∧ t417 ≤ 5 := ht417
          replace zt417 : P_X11_part v408 v410 v412 v414 v416 t417 g g418 := zt417
          have li419 : jLI g418 := jLI_fr (ft417 176 0 (by unfold w_X11_part; omega)) (ft417 0 0 (by unfold w_X11_part; omega)) (fun t => ft417 87 t (by unfold w_X11_part; omega)) li
          have dli419 : g418 176 0 ≤ 2000 := li419.1
          have e421 : jw32 (x3 + 1) = x3 + 1 := j32e (by omega) (by omega)
          refine st_xi (N := E.2.2.2.2.1) (by decide) (by decide) rfl (show 0 ≤ jw32 (x3 + 1) by omega) (show jw32 (x3 + 1) < ((E.2.2.2.2.1 : Nat) : Int) by omega) (fun v422 ev422 => ?_)
          replace ev422 : v422 = jxv E (-2) (jw32 (x3 + 1)) := ev422
          have e423 : jw32 (x3 + 2) = x3 + 2 := j32e (by omega) (by omega)
          refine st_xi (N := E.2.2.2.2.1) (by decide) (by decide) rfl (show 0 ≤ jw32 (x3 + 2) by omega) (show jw32 (x3 + 2) < ((E.2.2.2.2.1 : Nat) : Int) by omega) (fun v424 ev424 => ?_)
          replace ev424 : v424 = jxv E (-2) (jw32 (x3 + 2)) := ev424
          have e425 : jw32 (x3 + 3) = x3 + 3 := j32e (by omega) (by omega)
          refine st_xi (N := E.2.2.2.2.1) (by decide) (by decide) rfl (show 0 ≤ jw32 (x3 + 3) by omega) (show jw32 (x3 + 3) < ((E.2.2.2.2.1 : Nat) : Int) by omega) (fun v426 ev426 => ?_)
          replace ev426 : v426 = jxv E (-2) (jw32 (x3 + 3)) := ev426
          have e427 : jw32 (x3 + 4) = x3 + 4 := j32e (by omega) (by omega)
          refine st_xi (N := E.2.2.2.2.1) (by decide) (by decide) rfl (show 0 ≤ jw32 (x3 + 4) by omega) (show jw32 (x3 + 4) < ((E.2.2.2.2.1 : Nat) : Int) by omega) (fun v428 ev428 => ?_)
          replace ev428 : v428 = jxv E (-2) (jw32 (x3 + 4)) := ev428
          have e429 : jw32 (x3 + 5) = x3 + 5 := j32e (by omega) (by omega)
          refine st_xi (N := E.2.2.2.2.1) (by decide) (by decide) rfl (show 0 ≤ jw32 (x3 + 5) by omega) (show jw32 (x3 + 5) < ((E.2.2.2.2.1 : Nat) : Int) by omega) (fun v430 ev430 => ?_)
          replace ev430 : v430 = jxv E (-2) (jw32 (x3 + 5)) := ev430
          refine st_cv (na := 5) (st := [.inl v430, .inl v428, .inl v426, .inl v424, .inl v422, .inr (.inr (.inl 176))]) jo_176 rfl rfl rfl (c_X12_part v422 v424 v426 v428 v430 g418) rfl ?_
          rintro _ _ g432 ⟨rfl, ft431, t431, rfl, ht431, zt431⟩ kt431
          replace kt431 : -2147483648 ≤ t431 ∧ t431 ≤ 2147483647 := kt431
          replace ht431 : -7 ≤ t431 ∧ t431 ≤ 5 := ht431
          replace zt431 : P_X12_part v422 v424 v426 v428 v430 t431 g418 g432 := zt431
          have li433 : jLI g432 := jLI_fr (ft431 176 0 (by unfold w_X12_part; omega)) (ft431 0 0 (by unfold w_X12_part; omega)) (fun t => ft431 87 t (by unfold w_X12_part; omega)) li419
          have dli433 : g432 176 0 ≤ 2000 := li433.1
          rw [show v422 = v408 by omega, show v424 = v410 by omega, show v426 = v412 by omega, show v428 = v414 by omega, show v430 = v416 by omega] at zt431
          have qe435 := pr_part ft417 ft431 zt417 zt431 sm
          have eqe435 := qe435.1
          have sm434 : jI g432 := qe435.2
          clear qe435 zt431
          show jGo E l 179 0 229 _ 1410 [.inr (.inr (.inl (-2))), .inr (.inr (.inl 0)), .inr (.inr (.inl 176)), .inl x3] [] 229 jr0 g432
          refine jGo_blk qL_law_1410 ?_
          have e436 : jw32 (x3 + 6) = x3 + 6 := j32e (by omega) (by omega)
          show jGo E l 179 0 229 _ 18 [.inr (.inr (.inl (-2))), .inr (.inr (.inl 0)), .inr (.inr (.inl 176)), .inl (jw32 (x3 + 6))] [] 229 jr0 g432
          exact ih (jw32 (x3 + 6)) g432 (by omega) li433 sm434 (by omega)
        · replace c6 : jand v4 63 = 21 := c6
          show jGo E l 179 0 229 _ 1005 [.inr (.inr (.inl (-2))), .inr (.inr (.inl 0)), .inr (.inr (.inl 176)), .inl x3] [] 229 jr0 g
          refine jGo_blk qL_law_1005 ?_
          have e437 : jw32 (x3 + 1) = x3 + 1 := j32e (by omega) (by omega)
          refine st_xi (N := E.2.2.2.2.1) (by decide) (by decide) rfl (show 0 ≤ jw32 (x3 + 1) by omega) (show jw32 (x3 + 1) < ((E.2.2.2.2.1 : Nat) : Int) by omega) (fun v438 ev438 => ?_)
          replace ev438 : v438 = jxv E (-2) (jw32 (x3 + 1)) := ev438
          have e439 : jw32 (x3 + 2) = x3 + 2 := j32e (by omega) (by omega)
          refine st_xi (N := E.2.2.2.2.1) (by decide) (by decide) rfl (show 0 ≤ jw32 (x3 + 2) by omega) (show jw32 (x3 + 2) < ((E.2.2.2.2.1 : Nat) : Int) by omega) (fun v440 ev440 => ?_)
          replace ev440 : v440 = jxv E (-2) (jw32 (x3 + 2)) := ev440
          refine st_cv (na := 2) (st := [.inl v440, .inl v438, .inr (.inr (.inl 0))]) jo_0 rfl rfl rfl (c_X11_match v438 v440 g (jLG_ok li.2)) rfl ?_
          rintro _ _ g442 ⟨rfl, ft441, t441, rfl, ht441, zt441⟩ kt441
          replace kt441 : -2147483648 ≤ t441 ∧ t441 ≤ 2147483647 := kt441
          have li443 : jLI g442 := jLI_fr (ft441 176 0 (by unfold w_X11_match; omega)) (ft441 0 0 (by unfold w_X11_match; omega)) (fun t => ft441 87 t (by unfold w_X11_match; omega)) li
          have dli443 : g442 176 0 ≤ 2000 := li443.1
          have e445 : jw32 (x3 + 1) = x3 + 1 := j32e (by omega) (by omega)
          refine st_xi (N := E.2.2.2.2.1) (by decide) (by decide) rfl (show 0 ≤ jw32 (x3 + 1) by omega) (show jw32 (x3 + 1) < ((E.2.2.2.2.1 : Nat) : Int) by omega) (fun v446 ev446 => ?_)
          replace ev446 : v446 = jxv E (-2) (jw32 (x3 + 1)) := ev446
          have e447 : jw32 (x3 + 2) = x3 + 2 := j32e (by omega) (by omega)
          refine st_xi (N := E.2.2.2.2.1) (by decide) (by decide) rfl (show 0 ≤ jw32 (x3 + 2) by omega) (show jw32 (x3 + 2) < ((E.2.2.2.2.1 : Nat) : Int) by omega) (fun v448 ev448 => ?_)
          replace ev448 : v448 = jxv E (-2) (jw32 (x3 + 2)) := ev448
          refine st_cv (na := 2) (st := [.inl v448, .inl v446, .inr (.inr (.inl 176))]) jo_176 rfl rfl rfl (c_X12_match v446 v448 g442) rfl ?_
          rintro _ _ g450 ⟨rfl, ft449, t449, rfl, ht449, zt449⟩ kt449
          replace kt449 : -2147483648 ≤ t449 ∧ t449 ≤ 2147483647 := kt449
          have li451 : jLI g450 := jLI_fr (ft449 176 0 (by unfold w_X12_match; omega)) (ft449 0 0 (by unfold w_X12_match; omega)) (fun t => ft449 87 t (by unfold w_X12_match; omega)) li443
          have dli451 : g450 176 0 ≤ 2000 := li451.1
          have sm452 : jI g450 := pf_match ft441 ft449 sm
          show jGo E l 179 0 229 _ 1410 [.inr (.inr (.inl (-2))), .inr (.inr (.inl 0)), .inr (.inr (.inl 176)), .inl x3] [] 229 jr0 g450
          refine jGo_blk qL_law_1410 ?_
          have e453 : jw32 (x3 + 6) = x3 + 6 := j32e (by omega) (by omega)
          show jGo E l 179 0 229 _ 18 [.inr (.inr (.inl (-2))), .inr (.inr (.inl 0)), .inr (.inr (.inl 176)), .inl (jw32 (x3 + 6))] [] 229 jr0 g450
          exact ih (jw32 (x3 + 6)) g450 (by omega) li451 sm452 (by omega)
        · replace c6 : jand v4 63 = 22 := c6
          show jGo E l 179 0 229 _ 1038 [.inr (.inr (.inl (-2))), .inr (.inr (.inl 0)), .inr (.inr (.inl 176)), .inl x3] [] 229 jr0 g
          refine jGo_blk qL_law_1038 ?_
          have e454 : jw32 (x3 + 1) = x3 + 1 := j32e (by omega) (by omega)
          refine st_xi (N := E.2.2.2.2.1) (by decide) (by decide) rfl (show 0 ≤ jw32 (x3 + 1) by omega) (show jw32 (x3 + 1) < ((E.2.2.2.2.1 : Nat) : Int) by omega) (fun v455 ev455 => ?_)
          replace ev455 : v455 = jxv E (-2) (jw32 (x3 + 1)) := ev455
          refine st_cv (na := 1) (st := [.inl v455, .inr (.inr (.inl 0))]) jo_0 rfl rfl rfl (c_X11_fell v455 g (jLG_ok li.2)) rfl ?_
          rintro _ _ g457 ⟨rfl, ft456, t456, rfl, ht456, zt456⟩ kt456
          replace kt456 : -2147483648 ≤ t456 ∧ t456 ≤ 2147483647 := kt456
          replace zt456 : ∀ i k : Int, 36 ≤ i → i ≤ 83 → ¬ k = 10 → g457 i k = g i k := zt456
          have li458 : jLI g457 := jLI_fr (ft456 176 0 (by unfold w_X11_fell; omega)) (ft456 0 0 (by unfold w_X11_fell; omega)) (fun t => ft456 87 t (by unfold w_X11_fell; omega)) li
          have dli458 : g457 176 0 ≤ 2000 := li458.1
          have e460 : jw32 (x3 + 1) = x3 + 1 := j32e (by omega) (by omega)
          refine st_xi (N := E.2.2.2.2.1) (by decide) (by decide) rfl (show 0 ≤ jw32 (x3 + 1) by omega) (show jw32 (x3 + 1) < ((E.2.2.2.2.1 : Nat) : Int) by omega) (fun v461 ev461 => ?_)
          replace ev461 : v461 = jxv E (-2) (jw32 (x3 + 1)) := ev461
          refine st_cv (na := 1) (st := [.inl v461, .inr (.inr (.inl 176))]) jo_176 rfl rfl rfl (c_X12_fell v461 g457) rfl ?_
          rintro _ _ g463 ⟨rfl, ft462, t462, rfl, ht462, zt462⟩ kt462
          replace kt462 : -2147483648 ≤ t462 ∧ t462 ≤ 2147483647 := kt462
          have li464 : jLI g463 := jLI_fr (ft462 176 0 (by unfold w_X12_fell; omega)) (ft462 0 0 (by unfold w_X12_fell; omega)) (fun t => ft462 87 t (by unfold w_X12_fell; omega)) li458
          have dli464 : g463 176 0 ≤ 2000 := li464.1
          have sm465 : jI g463 := pf_fell ft456 ft462 zt456 sm
          show jGo E l 179 0 229 _ 1410 [.inr (.inr (.inl (-2))), .inr (.inr (.inl 0)), .inr (.inr (.inl 176)), .inl x3] [] 229 jr0 g463
          refine jGo_blk qL_law_1410 ?_
          have e466 : jw32 (x3 + 6) = x3 + 6 := j32e (by omega) (by omega)
          show jGo E l 179 0 229 _ 18 [.inr (.inr (.inl (-2))), .inr (.inr (.inl 0)), .inr (.inr (.inl 176)), .inl (jw32 (x3 + 6))] [] 229 jr0 g463
          exact ih (jw32 (x3 + 6)) g463 (by omega) li464 sm465 (by omega)
        · replace c6 : jand v4 63 = 23 := c6
          show jGo E l 179 0 229 _ 1061 [.inr (.inr (.inl (-2))), .inr (.inr (.inl 0)), .inr (.inr (.inl 176)), .inl x3] [] 229 jr0 g
          refine jGo_blk qL_law_1061 ?_
          have e467 : jw32 (x3 + 1) = x3 + 1 := j32e (by omega) (by omega)
          refine st_xi (N := E.2.2.2.2.1) (by decide) (by decide) rfl (show 0 ≤ jw32 (x3 + 1) by omega) (show jw32 (x3 + 1) < ((E.2.2.2.2.1 : Nat) : Int) by omega) (fun v468 ev468 => ?_)
          replace ev468 : v468 = jxv E (-2) (jw32 (x3 + 1)) := ev468
          have e469 : jw32 (x3 + 2) = x3 + 2 := j32e (by omega) (by omega)
          refine st_xi (N := E.2.2.2.2.1) (by decide) (by decide) rfl (show 0 ≤ jw32 (x3 + 2) by omega) (show jw32 (x3 + 2) < ((E.2.2.2.2.1 : Nat) : Int) by omega) (fun v470 ev470 => ?_)
          replace ev470 : v470 = jxv E (-2) (jw32 (x3 + 2)) := ev470
          refine st_cv (na := 2) (st := [.inl v470, .inl v468, .inr (.inr (.inl 0))]) jo_0 rfl rfl rfl (c_X11_treeFor v468 v470 g) rfl ?_
          rintro _ _ g472 ⟨rfl, ft471, t471, rfl, ht471, zt471⟩ kt471
          replace kt471 : -2147483648 ≤ t471 ∧ t471 ≤ 2147483647 := kt471
          replace ht471 : -9 ≤ t471 ∧ t471 ≤ 39 := ht471
          have li473 : jLI g472 := jLI_fr (ft471 176 0 (by unfold w_X11_treeFor; omega)) (ft471 0 0 (by unfold w_X11_treeFor; omega)) (fun t => ft471 87 t (by unfold w_X11_treeFor; omega)) li
          have dli473 : g472 176 0 ≤ 2000 := li473.1
          have e475 : jw32 (x3 + 1) = x3 + 1 := j32e (by omega) (by omega)
          refine st_xi (N := E.2.2.2.2.1) (by decide) (by decide) rfl (show 0 ≤ jw32 (x3 + 1) by omega) (show jw32 (x3 + 1) < ((E.2.2.2.2.1 : Nat) : Int) by omega) (fun v476 ev476 => ?_)
          replace ev476 : v476 = jxv E (-2) (jw32 (x3 + 1)) := ev476
          have e477 : jw32 (x3 + 2) = x3 + 2 := j32e (by omega) (by omega)
          refine st_xi (N := E.2.2.2.2.1) (by decide) (by decide) rfl (show 0 ≤ jw32 (x3 + 2) by omega) (show jw32 (x3 + 2) < ((E.2.2.2.2.1 : Nat) : Int) by omega) (fun v478 ev478 => ?_)
          replace ev478 : v478 = jxv E (-2) (jw32 (x3 + 2)) := ev478
          refine st_cv (na := 2) (st := [.inl v478, .inl v476, .inr (.inr (.inl 176))]) jo_176 rfl rfl rfl (c_X12_treeFor v476 v478 g472) rfl ?_
          rintro _ _ g480 ⟨rfl, ft479, t479, rfl, ht479, zt479⟩ kt479
          replace kt479 : -2147483648 ≤ t479 ∧ t479 ≤ 2147483647 := kt479
          replace ht479 : -9 ≤ t479 ∧ t479 ≤ 39 := ht479
          have li481 : jLI g480 := jLI_fr (ft479 176 0 (by unfold w_X12_treeFor; omega)) (ft479 0 0 (by unfold w_X12_treeFor; omega)) (fun t => ft479 87 t (by unfold w_X12_treeFor; omega)) li473
          have dli481 : g480 176 0 ≤ 2000 := li481.1
          have sm482 : jI g480 := pf_treeFor ft471 ft479 sm
          show jGo E l 179 0 229 _ 1410 [.inr (.inr (.inl (-2))), .inr (.inr (.inl 0)), .inr (.inr (.inl 176)), .inl x3] [] 229 jr0 g480
          refine jGo_blk qL_law_1410 ?_
          have e483 : jw32 (x3 + 6) = x3 + 6 := j32e (by omega) (by omega)
          show jGo E l 179 0 229 _ 18 [.inr (.inr (.inl (-2))), .inr (.inr (.inl 0)), .inr (.inr (.inl 176)), .inl (jw32 (x3 + 6))] [] 229 jr0 g480
          exact ih (jw32 (x3 + 6)) g480 (by omega) li481 sm482 (by omega)
        · replace c6 : jand v4 63 = 24 := c6
          show jGo E l 179 0 229 _ 1094 [.inr (.inr (.inl (-2))), .inr (.inr (.inl 0)), .inr (.inr (.inl 176)), .inl x3] [] 229 jr0 g
          refine jGo_blk qL_law_1094 ?_
          have e484 : jw32 (x3 + 1) = x3 + 1 := j32e (by omega) (by omega)
          refine st_xi (N := E.2.2.2.2.1) (by decide) (by decide) rfl (show 0 ≤ jw32 (x3 + 1) by omega) (show jw32 (x3 + 1) < ((E.2.2.2.2.1 : Nat) : Int) by omega) (fun v485 ev485 => ?_)
          replace ev485 : v485 = jxv E (-2) (jw32 (x3 + 1)) := ev485
          have e486 : jw32 (x3 + 2) = x3 + 2 := j32e (by omega) (by omega)
          refine st_xi (N := E.2.2.2.2.1) (by decide) (by decide) rfl (show 0 ≤ jw32 (x3 + 2) by omega) (show jw32 (x3 + 2) < ((E.2.2.2.2.1 : Nat) : Int) by omega) (fun v487 ev487 => ?_)
          replace ev487 : v487 = jxv E (-2) (jw32 (x3 + 2)) := ev487
          refine st_cv (na := 2) (st := [.inl v487, .inl v485, .inr (.inr (.inl 0))]) jo_0 rfl rfl rfl (c_X11_treeOf v485 v487 g) rfl ?_
          rintro _ _ g489 ⟨rfl, ft488, t488, rfl, ht488, zt488⟩ kt488
          replace kt488 : -2147483648 ≤ t488 ∧ t488 ≤ 2147483647 := kt488
          have li490 : jLI g489 := jLI_fr (ft488 176 0 (by unfold w_X11_treeOf; omega)) (ft488 0 0 (by unfold w_X11_treeOf; omega)) (fun t => ft488 87 t (by unfold w_X11_treeOf; omega)) li
          have dli490 : g489 176 0 ≤ 2000 := li490.1
          have e492 : jw32 (x3 + 1) = x3 + 1 := j32e (by omega) (by omega)
          refine st_xi (N := E.2.2.2.2.1) (by decide) (by decide) rfl (show 0 ≤ jw32 (x3 + 1) by omega) (show jw32 (x3 + 1) < ((E.2.2.2.2.1 : Nat) : Int) by omega) (fun v493 ev493 => ?_)
          replace ev493 : v493 = jxv E (-2) (jw32 (x3 + 1)) := ev493
          have e494 : jw32 (x3 + 2) = x3 + 2 := j32e (by omega) (by omega)
          refine st_xi (N := E.2.2.2.2.1) (by decide) (by decide) rfl (show 0 ≤ jw32 (x3 + 2) by omega) (show jw32 (x3 + 2) < ((E.2.2.2.2.1 : Nat) : Int) by omega) (fun v495 ev495 => ?_)
          replace ev495 : v495 = jxv E (-2) (jw32 (x3 + 2)) := ev495
          refine st_cv (na := 2) (st := [.inl v495, .inl v493, .inr (.inr (.inl 176))]) jo_176 rfl rfl rfl (c_X12_treeOf v493 v495 g489) rfl ?_
          rintro _ _ g497 ⟨rfl, ft496, t496, rfl, ht496, zt496⟩ kt496
          replace kt496 : -2147483648 ≤ t496 ∧ t496 ≤ 2147483647 := kt496
          have li498 : jLI g497 := jLI_fr (ft496 176 0 (by unfold w_X12_treeOf; omega)) (ft496 0 0 (by unfold w_X12_treeOf; omega)) (fun t => ft496 87 t (by unfold w_X12_treeOf; omega)) li490
          have dli498 : g497 176 0 ≤ 2000 := li498.1
          have sm499 : jI g497 := pf_treeOf ft488 ft496 sm
          show jGo E l 179 0 229 _ 1410 [.inr (.inr (.inl (-2))), .inr (.inr (.inl 0)), .inr (.inr (.inl 176)), .inl x3] [] 229 jr0 g497
          refine jGo_blk qL_law_1410 ?_
          have e500 : jw32 (x3 + 6) = x3 + 6 := j32e (by omega) (by omega)
          show jGo E l 179 0 229 _ 18 [.inr (.inr (.inl (-2))), .inr (.inr (.inl 0)), .inr (.inr (.inl 176)), .inl (jw32 (x3 + 6))] [] 229 jr0 g497
          exact ih (jw32 (x3 + 6)) g497 (by omega) li498 sm499 (by omega)
        · replace c6 : jand v4 63 = 25 := c6
          show jGo E l 179 0 229 _ 1127 [.inr (.inr (.inl (-2))), .inr (.inr (.inl 0)), .inr (.inr (.inl 176)), .inl x3] [] 229 jr0 g
          refine jGo_blk qL_law_1127 ?_
          have e501 : jw32 (x3 + 1) = x3 + 1 := j32e (by omega) (by omega)
          refine st_xi (N := E.2.2.2.2.1) (by decide) (by decide) rfl (show 0 ≤ jw32 (x3 + 1) by omega) (show jw32 (x3 + 1) < ((E.2.2.2.2.1 : Nat) : Int) by omega) (fun v502 ev502 => ?_)
          replace ev502 : v502 = jxv E (-2) (jw32 (x3 + 1)) := ev502
          have e503 : jw32 (x3 + 2) = x3 + 2 := j32e (by omega) (by omega)
          refine st_xi (N := E.2.2.2.2.1) (by decide) (by decide) rfl (show 0 ≤ jw32 (x3 + 2) by omega) (show jw32 (x3 + 2) < ((E.2.2.2.2.1 : Nat) : Int) by omega) (fun v504 ev504 => ?_)
          replace ev504 : v504 = jxv E (-2) (jw32 (x3 + 2)) := ev504
          refine st_cv (na := 2) (st := [.inl v504, .inl v502, .inr (.inr (.inl 0))]) jo_0 rfl rfl rfl (c_X11_count v502 v504 g) rfl ?_
          rintro _ _ g506 ⟨rfl, ft505, t505, rfl, ht505, zt505⟩ kt505
          replace kt505 : -2147483648 ≤ t505 ∧ t505 ≤ 2147483647 := kt505
          replace zt505 : P_X11_count v502 v504 t505 g g506 := zt505
          have li507 : jLI g506 := jLI_fr (ft505 176 0 (by unfold w_X11_count; omega)) (ft505 0 0 (by unfold w_X11_count; omega)) (fun t => ft505 87 t (by unfold w_X11_count; omega)) li
          have dli507 : g506 176 0 ≤ 2000 := li507.1
          have e509 : jw32 (x3 + 1) = x3 + 1 := j32e (by omega) (by omega)
          refine st_xi (N := E.2.2.2.2.1) (by decide) (by decide) rfl (show 0 ≤ jw32 (x3 + 1) by omega) (show jw32 (x3 + 1) < ((E.2.2.2.2.1 : Nat) : Int) by omega) (fun v510 ev510 => ?_)
          replace ev510 : v510 = jxv E (-2) (jw32 (x3 + 1)) := ev510
          have e511 : jw32 (x3 + 2) = x3 + 2 := j32e (by omega) (by omega)
          refine st_xi (N := E.2.2.2.2.1) (by decide) (by decide) rfl (show 0 ≤ jw32 (x3 + 2) by omega) (show jw32 (x3 + 2) < ((E.2.2.2.2.1 : Nat) : Int) by omega) (fun v512 ev512 => ?_)
          replace ev512 : v512 = jxv E (-2) (jw32 (x3 + 2)) := ev512
          have e513 : g506 176 0 = g 176 0 := ft505 176 0 (by unfold w_X11_count; omega)
          refine st_cv (na := 2) (st := [.inl v512, .inl v510, .inr (.inr (.inl 176))]) jo_176 rfl rfl rfl (c_X12_count v510 v512 g506 (by omega)) rfl ?_
          rintro _ _ g515 ⟨rfl, ft514, t514, rfl, ht514, zt514⟩ kt514
          replace kt514 : -2147483648 ≤ t514 ∧ t514 ≤ 2147483647 := kt514
          replace zt514 : P_X12_count v510 v512 t514 g506 g515 := zt514
          have li516 : jLI g515 := jLI_fr (ft514 176 0 (by unfold w_X12_count; omega)) (ft514 0 0 (by unfold w_X12_count; omega)) (fun t => ft514 87 t (by unfold w_X12_count; omega)) li507
          have dli516 : g515 176 0 ≤ 2000 := li516.1
          rw [show v510 = v502 by omega, show v512 = v504 by omega] at zt514
          have qe518 := pr_count ft505 ft514 zt505 zt514 sm ((jbf_5_0 jo_101 _).1 (hbd9 101 0)).1
          have eqe518 := qe518.1
          have sm517 : jI g515 := qe518.2
          clear qe518 zt514
          show jGo E l 179 0 229 _ 1410 [.inr (.inr (.inl (-2))), .inr (.inr (.inl 0)), .inr (.inr (.inl 176)), .inl x3] [] 229 jr0 g515
          refine jGo_blk qL_law_1410 ?_
          have e519 : jw32 (x3 + 6) = x3 + 6 := j32e (by omega) (by omega)
          show jGo E l 179 0 229 _ 18 [.inr (.inr (.inl (-2))), .inr (.inr (.inl 0)), .inr (.inr (.inl 176)), .inl (jw32 (x3 + 6))] [] 229 jr0 g515
          exact ih (jw32 (x3 + 6)) g515 (by omega) li516 sm517 (by omega)
        · replace c6 : jand v4 63 = 26 := c6
          show jGo E l 179 0 229 _ 1160 [.inr (.inr (.inl (-2))), .inr (.inr (.inl 0)), .inr (.inr (.inl 176)), .inl x3] [] 229 jr0 g
          refine jGo_blk qL_law_1160 ?_
          have e520 : jw32 (x3 + 1) = x3 + 1 := j32e (by omega) (by omega)
          refine st_xi (N := E.2.2.2.2.1) (by decide) (by decide) rfl (show 0 ≤ jw32 (x3 + 1) by omega) (show jw32 (x3 + 1) < ((E.2.2.2.2.1 : Nat) : Int) by omega) (fun v521 ev521 => ?_)
          replace ev521 : v521 = jxv E (-2) (jw32 (x3 + 1)) := ev521
          have e522 : jw32 (x3 + 2) = x3 + 2 := j32e (by omega) (by omega)
          refine st_xi (N := E.2.2.2.2.1) (by decide) (by decide) rfl (show 0 ≤ jw32 (x3 + 2) by omega) (show jw32 (x3 + 2) < ((E.2.2.2.2.1 : Nat) : Int) by omega) (fun v523 ev523 => ?_)
          replace ev523 : v523 = jxv E (-2) (jw32 (x3 + 2)) := ev523
          refine st_cv (na := 2) (st := [.inl v523, .inl v521, .inr (.inr (.inl 0))]) jo_0 rfl rfl rfl (c_X11_gap v521 v523 g) rfl ?_
          rintro _ _ g525 ⟨rfl, ft524, t524, rfl, ht524, zt524⟩ kt524
          replace kt524 : -2147483648 ≤ t524 ∧ t524 ≤ 2147483647 := kt524
          replace zt524 : P_X11_gap v521 v523 t524 g := zt524
          have li526 : jLI g525 := jLI_fr (ft524 176 0 (by unfold w_X11_gap; omega)) (ft524 0 0 (by unfold w_X11_gap; omega)) (fun t => ft524 87 t (by unfold w_X11_gap; omega)) li
          have dli526 : g525 176 0 ≤ 2000 := li526.1
          have e528 : jw32 (x3 + 1) = x3 + 1 := j32e (by omega) (by omega)
          refine st_xi (N := E.2.2.2.2.1) (by decide) (by decide) rfl (show 0 ≤ jw32 (x3 + 1) by omega) (show jw32 (x3 + 1) < ((E.2.2.2.2.1 : Nat) : Int) by omega) (fun v529 ev529 => ?_)
          replace ev529 : v529 = jxv E (-2) (jw32 (x3 + 1)) := ev529
          have e530 : jw32 (x3 + 2) = x3 + 2 := j32e (by omega) (by omega)
          refine st_xi (N := E.2.2.2.2.1) (by decide) (by decide) rfl (show 0 ≤ jw32 (x3 + 2) by omega) (show jw32 (x3 + 2) < ((E.2.2.2.2.1 : Nat) : Int) by omega) (fun v531 ev531 => ?_)
          replace ev531 : v531 = jxv E (-2) (jw32 (x3 + 2)) := ev531
          refine st_cv (na := 2) (st := [.inl v531, .inl v529, .inr (.inr (.inl 176))]) jo_176 rfl rfl rfl (c_X12_gap v529 v531 g525) rfl ?_
          rintro _ _ g533 ⟨rfl, ft532, t532, rfl, ht532, zt532⟩ kt532
          replace kt532 : -2147483648 ≤ t532 ∧ t532 ≤ 2147483647 := kt532
          replace zt532 : P_X12_gap v529 v531 t532 g525 := zt532
          have li534 : jLI g533 := jLI_fr (ft532 176 0 (by unfold w_X12_gap; omega)) (ft532 0 0 (by unfold w_X12_gap; omega)) (fun t => ft532 87 t (by unfold w_X12_gap; omega)) li526
          have dli534 : g533 176 0 ≤ 2000 := li534.1
          rw [show v529 = v521 by omega, show v531 = v523 by omega] at zt532
          have qe536 := pr_gap ft524 ft532 zt524 zt532 sm
          have eqe536 := qe536.1
          have sm535 : jI g533 := qe536.2
          clear qe536 zt532
          show jGo E l 179 0 229 _ 1410 [.inr (.inr (.inl (-2))), .inr (.inr (.inl 0)), .inr (.inr (.inl 176)), .inl x3] [] 229 jr0 g533
          refine jGo_blk qL_law_1410 ?_
          have e537 : jw32 (x3 + 6) = x3 + 6 := j32e (by omega) (by omega)
          show jGo E l 179 0 229 _ 18 [.inr (.inr (.inl (-2))), .inr (.inr (.inl 0)), .inr (.inr (.inl 176)), .inl (jw32 (x3 + 6))] [] 229 jr0 g533
          exact ih (jw32 (x3 + 6)) g533 (by omega) li534 sm535 (by omega)
        · replace c6 : jand v4 63 = 27 := c6
          show jGo E l 179 0 229 _ 1193 [.inr (.inr (.inl (-2))), .inr (.inr (.inl 0)), .inr (.inr (.inl 176)), .inl x3] [] 229 jr0 g
          refine jGo_blk qL_law_1193 ?_
          have e538 : jw32 (x3 + 1) = x3 + 1 := j32e (by omega) (by omega)
          refine st_xi (N := E.2.2.2.2.1) (by decide) (by decide) rfl (show 0 ≤ jw32 (x3 + 1) by omega) (show jw32 (x3 + 1) < ((E.2.2.2.2.1 : Nat) : Int) by omega) (fun v539 ev539 => ?_)
          replace ev539 : v539 = jxv E (-2) (jw32 (x3 + 1)) := ev539
          refine st_cv (na := 1) (st := [.inl v539, .inr (.inr (.inl 0))]) jo_0 rfl rfl rfl (c_X11_worst v539 g) rfl ?_
          rintro _ _ g541 ⟨rfl, ft540, t540, rfl, ht540, zt540⟩ kt540
          replace kt540 : -2147483648 ≤ t540 ∧ t540 ≤ 2147483647 := kt540
          replace ht540 : -9 ≤ t540 ∧ t540 ≤ 39 := ht540
          replace zt540 : P_X11_worst v539 t540 g := zt540
          have li542 : jLI g541 := jLI_fr (ft540 176 0 (by unfold w_X11_worst; omega)) (ft540 0 0 (by unfold w_X11_worst; omega)) (fun t => ft540 87 t (by unfold w_X11_worst; omega)) li
          have dli542 : g541 176 0 ≤ 2000 := li542.1
          have e544 : jw32 (x3 + 1) = x3 + 1 := j32e (by omega) (by omega)
          refine st_xi (N := E.2.2.2.2.1) (by decide) (by decide) rfl (show 0 ≤ jw32 (x3 + 1) by omega) (show jw32 (x3 + 1) < ((E.2.2.2.2.1 : Nat) : Int) by omega) (fun v545 ev545 => ?_)
          replace ev545 : v545 = jxv E (-2) (jw32 (x3 + 1)) := ev545
          refine st_cv (na := 1) (st := [.inl v545, .inr (.inr (.inl 176))]) jo_176 rfl rfl rfl (c_X12_worst v545 g541) rfl ?_
          rintro _ _ g547 ⟨rfl, ft546, t546, rfl, ht546, zt546⟩ kt546
          replace kt546 : -2147483648 ≤ t546 ∧ t546 ≤ 2147483647 := kt546
          replace ht546 : -9 ≤ t546 ∧ t546 ≤ 39 := ht546
          replace zt546 : P_X12_worst v545 t546 g541 := zt546
          have li548 : jLI g547 := jLI_fr (ft546 176 0 (by unfold w_X12_worst; omega)) (ft546 0 0 (by unfold w_X12_worst; omega)) (fun t => ft546 87 t (by unfold w_X12_worst; omega)) li542
          have dli548 : g547 176 0 ≤ 2000 := li548.1
          rw [show v545 = v539 by omega] at zt546
          have qe550 := pr_worst ft540 ft546 zt540 zt546 sm ((jbf_5_0 jo_101 _).1 (hbd9 101 0)).1
          have eqe550 := qe550.1
          have sm549 : jI g547 := qe550.2
          clear qe550 zt546
          show jGo E l 179 0 229 _ 1410 [.inr (.inr (.inl (-2))), .inr (.inr (.inl 0)), .inr (.inr (.inl 176)), .inl x3] [] 229 jr0 g547
          refine jGo_blk qL_law_1410 ?_
          have e551 : jw32 (x3 + 6) = x3 + 6 := j32e (by omega) (by omega)
          show jGo E l 179 0 229 _ 18 [.inr (.inr (.inl (-2))), .inr (.inr (.inl 0)), .inr (.inr (.inl 176)), .inl (jw32 (x3 + 6))] [] 229 jr0 g547
          exact ih (jw32 (x3 + 6)) g547 (by omega) li548 sm549 (by omega)
        · replace c6 : jand v4 63 = 28 := c6
          show jGo E l 179 0 229 _ 1216 [.inr (.inr (.inl (-2))), .inr (.inr (.inl 0)), .inr (.inr (.inl 176)), .inl x3] [] 229 jr0 g
          refine jGo_blk qL_law_1216 ?_
          have e552 : jw32 (x3 + 1) = x3 + 1 := j32e (by omega) (by omega)
          refine st_xi (N := E.2.2.2.2.1) (by decide) (by decide) rfl (show 0 ≤ jw32 (x3 + 1) by omega) (show jw32 (x3 + 1) < ((E.2.2.2.2.1 : Nat) : Int) by omega) (fun v553 ev553 => ?_)
          replace ev553 : v553 = jxv E (-2) (jw32 (x3 + 1)) := ev553
          refine st_cv (na := 1) (st := [.inl v553, .inr (.inr (.inl 0))]) jo_0 rfl rfl rfl (c_X11_ready v553 g) rfl ?_
          rintro _ _ g555 ⟨rfl, ft554, t554, rfl, ht554, zt554⟩ kt554
          replace kt554 : -2147483648 ≤ t554 ∧ t554 ≤ 2147483647 := kt554
          have li556 : jLI g555 := jLI_fr (ft554 176 0 (by unfold w_X11_ready; omega)) (ft554 0 0 (by unfold w_X11_ready; omega)) (fun t => ft554 87 t (by unfold w_X11_ready; omega)) li
          have dli556 : g555 176 0 ≤ 2000 := li556.1
          have e558 : jw32 (x3 + 1) = x3 + 1 := j32e (by omega) (by omega)
          refine st_xi (N := E.2.2.2.2.1) (by decide) (by decide) rfl (show 0 ≤ jw32 (x3 + 1) by omega) (show jw32 (x3 + 1) < ((E.2.2.2.2.1 : Nat) : Int) by omega) (fun v559 ev559 => ?_)
          replace ev559 : v559 = jxv E (-2) (jw32 (x3 + 1)) := ev559
          have e560 : g555 176 0 = g 176 0 := ft554 176 0 (by unfold w_X11_ready; omega)
          refine st_cv (na := 1) (st := [.inl v559, .inr (.inr (.inl 176))]) jo_176 rfl rfl rfl (c_X12_ready v559 g555 (by omega)) rfl ?_
          rintro _ _ g562 ⟨rfl, ft561, t561, rfl, ht561, zt561⟩ kt561
          replace kt561 : -2147483648 ≤ t561 ∧ t561 ≤ 2147483647 := kt561
          replace zt561 : (g562 176 0 = g555 176 0) ∧ ∀ L k : Int, jlv L k → g562 L k = g555 L k := zt561
          have li563 : jLI g562 := ⟨by rw [show g562 176 0 = g555 176 0 from zt561.1]; exact li556.1, jLG_fr (ft561 0 0 (by unfold w_X12_ready; omega)) (fun t => ft561 87 t (by unfold w_X12_ready; omega)) li556.2⟩
          have dli563 : g562 176 0 ≤ 2000 := li563.1
          have sm564 : jI g562 := pf_ready ft554 ft561 zt561 sm
          show jGo E l 179 0 229 _ 1410 [.inr (.inr (.inl (-2))), .inr (.inr (.inl 0)), .inr (.inr (.inl 176)), .inl x3] [] 229 jr0 g562
          refine jGo_blk qL_law_1410 ?_
          have e565 : jw32 (x3 + 6) = x3 + 6 := j32e (by omega) (by omega)
          show jGo E l 179 0 229 _ 18 [.inr (.inr (.inl (-2))), .inr (.inr (.inl 0)), .inr (.inr (.inl 176)), .inl (jw32 (x3 + 6))] [] 229 jr0 g562
          exact ih (jw32 (x3 + 6)) g562 (by omega) li563 sm564 (by omega)
        · replace c6 : jand v4 63 = 29 := c6
          show jGo E l 179 0 229 _ 1239 [.inr (.inr (.inl (-2))), .inr (.inr (.inl 0)), .inr (.inr (.inl 176)), .inl x3] [] 229 jr0 g
          refine jGo_blk qL_law_1239 ?_
          have e566 : jw32 (x3 + 1) = x3 + 1 := j32e (by omega) (by omega)
          refine st_xi (N := E.2.2.2.2.1) (by decide) (by decide) rfl (show 0 ≤ jw32 (x3 + 1) by omega) (show jw32 (x3 + 1) < ((E.2.2.2.2.1 : Nat) : Int) by omega) (fun v567 ev567 => ?_)
          replace ev567 : v567 = jxv E (-2) (jw32 (x3 + 1)) := ev567
          refine st_cv (na := 1) (st := [.inl v567, .inr (.inr (.inl 0))]) jo_0 rfl rfl rfl (c_X11_late v567 g) rfl ?_
          rintro _ _ g569 ⟨rfl, ft568, t568, rfl, ht568, zt568⟩ kt568
          replace kt568 : -2147483648 ≤ t568 ∧ t568 ≤ 2147483647 := kt568
          have li570 : jLI g569 := jLI_fr (ft568 176 0 (by unfold w_X11_late; omega)) (ft568 0 0 (by unfold w_X11_late; omega)) (fun t => ft568 87 t (by unfold w_X11_late; omega)) li
          have dli570 : g569 176 0 ≤ 2000 := li570.1
          have e572 : jw32 (x3 + 1) = x3 + 1 := j32e (by omega) (by omega)
          refine st_xi (N := E.2.2.2.2.1) (by decide) (by decide) rfl (show 0 ≤ jw32 (x3 + 1) by omega) (show jw32 (x3 + 1) < ((E.2.2.2.2.1 : Nat) : Int) by omega) (fun v573 ev573 => ?_)
          replace ev573 : v573 = jxv E (-2) (jw32 (x3 + 1)) := ev573
          have e574 : g569 176 0 = g 176 0 := ft568 176 0 (by unfold w_X11_late; omega)
          refine st_cv (na := 1) (st := [.inl v573, .inr (.inr (.inl 176))]) jo_176 rfl rfl rfl (c_X12_late v573 g569 (by omega)) rfl ?_
          rintro _ _ g576 ⟨rfl, ft575, t575, rfl, ht575, zt575⟩ kt575
          replace kt575 : -2147483648 ≤ t575 ∧ t575 ≤ 2147483647 := kt575
          replace zt575 : (g576 176 0 = g569 176 0) ∧ ∀ L k : Int, jlv L k → g576 L k = g569 L k := zt575
          have li577 : jLI g576 := ⟨by rw [show g576 176 0 = g569 176 0 from zt575.1]; exact li570.1, jLG_fr (ft575 0 0 (by unfold w_X12_late; omega)) (fun t => ft575 87 t (by unfold w_X12_late; omega)) li570.2⟩
          have dli577 : g576 176 0 ≤ 2000 := li577.1
          have sm578 : jI g576 := pf_late ft568 ft575 zt575 sm
          show jGo E l 179 0 229 _ 1410 [.inr (.inr (.inl (-2))), .inr (.inr (.inl 0)), .inr (.inr (.inl 176)), .inl x3] [] 229 jr0 g576
          refine jGo_blk qL_law_1410 ?_
          have e579 : jw32 (x3 + 6) = x3 + 6 := j32e (by omega) (by omega)
          show jGo E l 179 0 229 _ 18 [.inr (.inr (.inl (-2))), .inr (.inr (.inl 0)), .inr (.inr (.inl 176)), .inl (jw32 (x3 + 6))] [] 229 jr0 g576
          exact ih (jw32 (x3 + 6)) g576 (by omega) li577 sm578 (by omega)
        · replace c6 : jand v4 63 = 30 := c6
          show jGo E l 179 0 229 _ 1262 [.inr (.inr (.inl (-2))), .inr (.inr (.inl 0)), .inr (.inr (.inl 176)), .inl x3] [] 229 jr0 g
          refine jGo_blk qL_law_1262 ?_
          refine st_cv (na := 0) (st := [.inr (.inr (.inl 0))]) jo_0 rfl rfl rfl (c_X11_least g) rfl ?_
          rintro _ _ g581 ⟨rfl, ft580, t580, rfl, ht580, zt580⟩ kt580
          replace kt580 : -2147483648 ≤ t580 ∧ t580 ≤ 2147483647 := kt580
          have li582 : jLI g581 := jLI_fr (ft580 176 0 (by unfold w_X11_least; omega)) (ft580 0 0 (by unfold w_X11_least; omega)) (fun t => ft580 87 t (by unfold w_X11_least; omega)) li
          have dli582 : g581 176 0 ≤ 2000 := li582.1
          have e584 : g581 176 0 = g 176 0 := ft580 176 0 (by unfold w_X11_least; omega)
          refine st_cv (na := 0) (st := [.inr (.inr (.inl 176))]) jo_176 rfl rfl rfl (c_X12_least g581 (by omega)) rfl ?_
          rintro _ _ g586 ⟨rfl, ft585, t585, rfl, ht585, zt585⟩ kt585
          replace kt585 : -2147483648 ≤ t585 ∧ t585 ≤ 2147483647 := kt585
          replace zt585 : (g586 176 0 = g581 176 0) ∧ ∀ L k : Int, jlv L k → g586 L k = g581 L k := zt585
          have li587 : jLI g586 := ⟨by rw [show g586 176 0 = g581 176 0 from zt585.1]; exact li582.1, jLG_fr (ft585 0 0 (by unfold w_X12_least; omega)) (fun t => ft585 87 t (by unfold w_X12_least; omega)) li582.2⟩
          have dli587 : g586 176 0 ≤ 2000 := li587.1
          have sm588 : jI g586 := pf_least ft580 ft585 zt585 sm
          show jGo E l 179 0 229 _ 1410 [.inr (.inr (.inl (-2))), .inr (.inr (.inl 0)), .inr (.inr (.inl 176)), .inl x3] [] 229 jr0 g586
          refine jGo_blk qL_law_1410 ?_
          have e589 : jw32 (x3 + 6) = x3 + 6 := j32e (by omega) (by omega)
          show jGo E l 179 0 229 _ 18 [.inr (.inr (.inl (-2))), .inr (.inr (.inl 0)), .inr (.inr (.inl 176)), .inl (jw32 (x3 + 6))] [] 229 jr0 g586
          exact ih (jw32 (x3 + 6)) g586 (by omega) li587 sm588 (by omega)
        · replace c6 : jand v4 63 = 31 := c6
          show jGo E l 179 0 229 _ 1275 [.inr (.inr (.inl (-2))), .inr (.inr (.inl 0)), .inr (.inr (.inl 176)), .inl x3] [] 229 jr0 g
          refine jGo_blk qL_law_1275 ?_
          have e590 : jw32 (x3 + 1) = x3 + 1 := j32e (by omega) (by omega)
          refine st_xi (N := E.2.2.2.2.1) (by decide) (by decide) rfl (show 0 ≤ jw32 (x3 + 1) by omega) (show jw32 (x3 + 1) < ((E.2.2.2.2.1 : Nat) : Int) by omega) (fun v591 ev591 => ?_)
          replace ev591 : v591 = jxv E (-2) (jw32 (x3 + 1)) := ev591
          refine st_cv (na := 1) (st := [.inl v591, .inr (.inr (.inl 0))]) jo_0 rfl rfl rfl (c_X11_order v591 g) rfl ?_
          rintro _ _ g593 ⟨rfl, ft592, t592, rfl, ht592, zt592⟩ kt592
          replace kt592 : -2147483648 ≤ t592 ∧ t592 ≤ 2147483647 := kt592
          replace ht592 : -9 ≤ t592 ∧ t592 ≤ 15 := ht592
          have li594 : jLI g593 := jLI_fr (ft592 176 0 (by unfold w_X11_order; omega)) (ft592 0 0 (by unfold w_X11_order; omega)) (fun t => ft592 87 t (by unfold w_X11_order; omega)) li
          have dli594 : g593 176 0 ≤ 2000 := li594.1
          have e596 : jw32 (x3 + 1) = x3 + 1 := j32e (by omega) (by omega)
          refine st_xi (N := E.2.2.2.2.1) (by decide) (by decide) rfl (show 0 ≤ jw32 (x3 + 1) by omega) (show jw32 (x3 + 1) < ((E.2.2.2.2.1 : Nat) : Int) by omega) (fun v597 ev597 => ?_)
          replace ev597 : v597 = jxv E (-2) (jw32 (x3 + 1)) := ev597
          have e598 : g593 176 0 = g 176 0 := ft592 176 0 (by unfold w_X11_order; omega)
          refine st_cv (na := 1) (st := [.inl v597, .inr (.inr (.inl 176))]) jo_176 rfl rfl rfl (c_X12_order v597 g593 (by omega)) rfl ?_
          rintro _ _ g600 ⟨rfl, ft599, t599, rfl, ht599, zt599⟩ kt599
          replace kt599 : -2147483648 ≤ t599 ∧ t599 ≤ 2147483647 := kt599
          replace ht599 : -9 ≤ t599 ∧ t599 ≤ 15 := ht599
          replace zt599 : (g600 176 0 = g593 176 0) ∧ ∀ L k : Int, jlv L k → g600 L k = g593 L k := zt599
          have li601 : jLI g600 := ⟨by rw [show g600 176 0 = g593 176 0 from zt599.1]; exact li594.1, jLG_fr (ft599 0 0 (by unfold w_X12_order; omega)) (fun t => ft599 87 t (by unfold w_X12_order; omega)) li594.2⟩
          have dli601 : g600 176 0 ≤ 2000 := li601.1
          have sm602 : jI g600 := pf_order ft592 ft599 zt599 sm
          show jGo E l 179 0 229 _ 1410 [.inr (.inr (.inl (-2))), .inr (.inr (.inl 0)), .inr (.inr (.inl 176)), .inl x3] [] 229 jr0 g600
          refine jGo_blk qL_law_1410 ?_
          have e603 : jw32 (x3 + 6) = x3 + 6 := j32e (by omega) (by omega)
          show jGo E l 179 0 229 _ 18 [.inr (.inr (.inl (-2))), .inr (.inr (.inl 0)), .inr (.inr (.inl 176)), .inl (jw32 (x3 + 6))] [] 229 jr0 g600
          exact ih (jw32 (x3 + 6)) g600 (by omega) li601 sm602 (by omega)
        · replace c6 : jand v4 63 = 32 := c6
          show jGo E l 179 0 229 _ 1298 [.inr (.inr (.inl (-2))), .inr (.inr (.inl 0)), .inr (.inr (.inl 176)), .inl x3] [] 229 jr0 g
          refine jGo_blk qL_law_1298 ?_
          have e604 : jw32 (x3 + 1) = x3 + 1 := j32e (by omega) (by omega)
          refine st_xi (N := E.2.2.2.2.1) (by decide) (by decide) rfl (show 0 ≤ jw32 (x3 + 1) by omega) (show jw32 (x3 + 1) < ((E.2.2.2.2.1 : Nat) : Int) by omega) (fun v605 ev605 => ?_)
          replace ev605 : v605 = jxv E (-2) (jw32 (x3 + 1)) := ev605
          have e606 : jw32 (x3 + 2) = x3 + 2 := j32e (by omega) (by omega)
          refine st_xi (N := E.2.2.2.2.1) (by decide) (by decide) rfl (show 0 ≤ jw32 (x3 + 2) by omega) (show jw32 (x3 + 2) < ((E.2.2.2.2.1 : Nat) : Int) by omega) (fun v607 ev607 => ?_)
          replace ev607 : v607 = jxv E (-2) (jw32 (x3 + 2)) := ev607
          refine st_cv (na := 2) (st := [.inl v607, .inl v605, .inr (.inr (.inl 0))]) jo_0 rfl rfl rfl (c_X11_hullOf v605 v607 g) rfl ?_
          rintro _ _ g609 ⟨rfl, ft608, t608, rfl, ht608, zt608⟩ kt608
          replace kt608 : -2147483648 ≤ t608 ∧ t608 ≤ 2147483647 := kt608
          replace zt608 : P_X11_hullOf v605 v607 t608 g := zt608
          have li610 : jLI g609 := jLI_fr (ft608 176 0 (by unfold w_X11_hullOf; omega)) (ft608 0 0 (by unfold w_X11_hullOf; omega)) (fun t => ft608 87 t (by unfold w_X11_hullOf; omega)) li
          have dli610 : g609 176 0 ≤ 2000 := li610.1
          have e612 : jw32 (x3 + 1) = x3 + 1 := j32e (by omega) (by omega)
          refine st_xi (N := E.2.2.2.2.1) (by decide) (by decide) rfl (show 0 ≤ jw32 (x3 + 1) by omega) (show jw32 (x3 + 1) < ((E.2.2.2.2.1 : Nat) : Int) by omega) (fun v613 ev613 => ?_)
          replace ev613 : v613 = jxv E (-2) (jw32 (x3 + 1)) := ev613
          have e614 : jw32 (x3 + 2) = x3 + 2 := j32e (by omega) (by omega)
          refine st_xi (N := E.2.2.2.2.1) (by decide) (by decide) rfl (show 0 ≤ jw32 (x3 + 2) by omega) (show jw32 (x3 + 2) < ((E.2.2.2.2.1 : Nat) : Int) by omega) (fun v615 ev615 => ?_)
          replace ev615 : v615 = jxv E (-2) (jw32 (x3 + 2)) := ev615
          refine st_cv (na := 2) (st := [.inl v615, .inl v613, .inr (.inr (.inl 176))]) jo_176 rfl rfl rfl (c_X12_hullOf v613 v615 g609) rfl ?_
          rintro _ _ g617 ⟨rfl, ft616, t616, rfl, ht616, zt616⟩ kt616
          replace kt616 : -2147483648 ≤ t616 ∧ t616 ≤ 2147483647 := kt616
          replace zt616 : P_X12_hullOf v613 v615 t616 g609 := zt616
          have li618 : jLI g617 := jLI_fr (ft616 176 0 (by unfold w_X12_hullOf; omega)) (ft616 0 0 (by unfold w_X12_hullOf; omega)) (fun t => ft616 87 t (by unfold w_X12_hullOf; omega)) li610
          have dli618 : g617 176 0 ≤ 2000 := li618.1
          rw [show v613 = v605 by omega, show v615 = v607 by omega] at zt616
          have qe620 := pr_hullOf ft608 ft616 zt608 zt616 sm
          have eqe620 := qe620.1
          have sm619 : jI g617 := qe620.2
          clear qe620 zt616
          show jGo E l 179 0 229 _ 1410 [.inr (.inr (.inl (-2))), .inr (.inr (.inl 0)), .inr (.inr (.inl 176)), .inl x3] [] 229 jr0 g617
          refine jGo_blk qL_law_1410 ?_
          have e621 : jw32 (x3 + 6) = x3 + 6 := j32e (by omega) (by omega)
          show jGo E l 179 0 229 _ 18 [.inr (.inr (.inl (-2))), .inr (.inr (.inl 0)), .inr (.inr (.inl 176)), .inl (jw32 (x3 + 6))] [] 229 jr0 g617
          exact ih (jw32 (x3 + 6)) g617 (by omega) li618 sm619 (by omega)
        · replace c6 : jand v4 63 = 33 := c6
          show jGo E l 179 0 229 _ 1331 [.inr (.inr (.inl (-2))), .inr (.inr (.inl 0)), .inr (.inr (.inl 176)), .inl x3] [] 229 jr0 g
          refine jGo_blk qL_law_1331 ?_
          have e622 : jw32 (x3 + 1) = x3 + 1 := j32e (by omega) (by omega)
          refine st_xi (N := E.2.2.2.2.1) (by decide) (by decide) rfl (show 0 ≤ jw32 (x3 + 1) by omega) (show jw32 (x3 + 1) < ((E.2.2.2.2.1 : Nat) : Int) by omega) (fun v623 ev623 => ?_)
          replace ev623 : v623 = jxv E (-2) (jw32 (x3 + 1)) := ev623
          have e624 : jw32 (x3 + 2) = x3 + 2 := j32e (by omega) (by omega)
          refine st_xi (N := E.2.2.2.2.1) (by decide) (by decide) rfl (show 0 ≤ jw32 (x3 + 2) by omega) (show jw32 (x3 + 2) < ((E.2.2.2.2.1 : Nat) : Int) by omega) (fun v625 ev625 => ?_)
          replace ev625 : v625 = jxv E (-2) (jw32 (x3 + 2)) := ev625
          refine st_cv (na := 2) (st := [.inl v625, .inl v623, .inr (.inr (.inl 0))]) jo_0 rfl rfl rfl (c_X11_basinOf v623 v625 g) rfl ?_
          rintro _ _ g627 ⟨rfl, ft626, t626, rfl, ht626, zt626⟩ kt626
          replace kt626 : -2147483648 ≤ t626 ∧ t626 ≤ 2147483647 := kt626
          replace zt626 : P_X11_basinOf v623 v625 t626 g := zt626
          have li628 : jLI g627 := jLI_fr (ft626 176 0 (by unfold w_X11_basinOf; omega)) (ft626 0 0 (by unfold w_X11_basinOf; omega)) (fun t => ft626 87 t (by unfold w_X11_basinOf; omega)) li
          have dli628 : g627 176 0 ≤ 2000 := li628.1
          have e630 : jw32 (x3 + 1) = x3 + 1 := j32e (by omega) (by omega)
          refine st_xi (N := E.2.2.2.2.1) (by decide) (by decide) rfl (show 0 ≤ jw32 (x3 + 1) by omega) (show jw32 (x3 + 1) < ((E.2.2.2.2.1 : Nat) : Int) by omega) (fun v631 ev631 => ?_)
          replace ev631 : v631 = jxv E (-2) (jw32 (x3 + 1)) := ev631
          have e632 : jw32 (x3 + 2) = x3 + 2 := j32e (by omega) (by omega)
          refine st_xi (N := E.2.2.2.2.1) (by decide) (by decide) rfl (show 0 ≤ jw32 (x3 + 2) by omega) (show jw32 (x3 + 2) < ((E.2.2.2.2.1 : Nat) : Int) by omega) (fun v633 ev633 => ?_)
          replace ev633 : v633 = jxv E (-2) (jw32 (x3 + 2)) := ev633
          refine st_cv (na := 2) (st := [.inl v633, .inl v631, .inr (.inr (.inl 176))]) jo_176 rfl rfl rfl (c_X12_basinOf v631 v633 g627) rfl ?_
          rintro _ _ g635 ⟨rfl, ft634, t634, rfl, ht634, zt634⟩ kt634
          replace kt634 : -2147483648 ≤ t634 ∧ t634 ≤ 2147483647 := kt634
          replace zt634 : P_X12_basinOf v631 v633 t634 g627 := zt634
          have li636 : jLI g635 := jLI_fr (ft634 176 0 (by unfold w_X12_basinOf; omega)) (ft634 0 0 (by unfold w_X12_basinOf; omega)) (fun t => ft634 87 t (by unfold w_X12_basinOf; omega)) li628
          have dli636 : g635 176 0 ≤ 2000 := li636.1
          rw [show v631 = v623 by omega, show v633 = v625 by omega] at zt634
          have qe638 := pr_basinOf ft626 ft634 zt626 zt634 sm
          have eqe638 := qe638.1
          have sm637 : jI g635 := qe638.2
          clear qe638 zt634
          show jGo E l 179 0 229 _ 1410 [.inr (.inr (.inl (-2))), .inr (.inr (.inl 0)), .inr (.inr (.inl 176)), .inl x3] [] 229 jr0 g635
          refine jGo_blk qL_law_1410 ?_
          have e639 : jw32 (x3 + 6) = x3 + 6 := j32e (by omega) (by omega)
          show jGo E l 179 0 229 _ 18 [.inr (.inr (.inl (-2))), .inr (.inr (.inl 0)), .inr (.inr (.inl 176)), .inl (jw32 (x3 + 6))] [] 229 jr0 g635
          exact ih (jw32 (x3 + 6)) g635 (by omega) li636 sm637 (by omega)
        · replace c6 : jand v4 63 = 34 := c6
          show jGo E l 179 0 229 _ 1364 [.inr (.inr (.inl (-2))), .inr (.inr (.inl 0)), .inr (.inr (.inl 176)), .inl x3] [] 229 jr0 g
          refine jGo_blk qL_law_1364 ?_
          have e640 : jw32 (x3 + 1) = x3 + 1 := j32e (by omega) (by omega)
          refine st_xi (N := E.2.2.2.2.1) (by decide) (by decide) rfl (show 0 ≤ jw32 (x3 + 1) by omega) (show jw32 (x3 + 1) < ((E.2.2.2.2.1 : Nat) : Int) by omega) (fun v641 ev641 => ?_)
          replace ev641 : v641 = jxv E (-2) (jw32 (x3 + 1)) := ev641
          refine st_cv (na := 1) (st := [.inl v641, .inr (.inr (.inl 0))]) jo_0 rfl rfl rfl (c_X11_stock v641 g) rfl ?_
          rintro _ _ g643 ⟨rfl, ft642, t642, rfl, ht642, zt642⟩ kt642
          replace kt642 : -2147483648 ≤ t642 ∧ t642 ≤ 2147483647 := kt642
          replace zt642 : P_X11_stock v641 t642 g := zt642
          have li644 : jLI g643 := jLI_fr (ft642 176 0 (by unfold w_X11_stock; omega)) (ft642 0 0 (by unfold w_X11_stock; omega)) (fun t => ft642 87 t (by unfold w_X11_stock; omega)) li
          have dli644 : g643 176 0 ≤ 2000 := li644.1
          have e646 : jw32 (x3 + 1) = x3 + 1 := j32e (by omega) (by omega)
          refine st_xi (N := E.2.2.2.2.1) (by decide) (by decide) rfl (show 0 ≤ jw32 (x3 + 1) by omega) (show jw32 (x3 + 1) < ((E.2.2.2.2.1 : Nat) : Int) by omega) (fun v647 ev647 => ?_)
          replace ev647 : v647 = jxv E (-2) (jw32 (x3 + 1)) := ev647
          refine st_cv (na := 1) (st := [.inl v647, .inr (.inr (.inl 176))]) jo_176 rfl rfl rfl (c_X12_stock v647 g643) rfl ?_
          rintro _ _ g649 ⟨rfl, ft648, t648, rfl, ht648, zt648⟩ kt648
          replace kt648 : -2147483648 ≤ t648 ∧ t648 ≤ 2147483647 := kt648
          replace zt648 : P_X12_stock v647 t648 g643 := zt648
          have li650 : jLI g649 := jLI_fr (ft648 176 0 (by unfold w_X12_stock; omega)) (ft648 0 0 (by unfold w_X12_stock; omega)) (fun t => ft648 87 t (by unfold w_X12_stock; omega)) li644
          have dli650 : g649 176 0 ≤ 2000 := li650.1
          rw [show v647 = v641 by omega] at zt648
          have qe652 := pr_stock ft642 ft648 zt642 zt648 sm
          have eqe652 := qe652.1
          have sm651 : jI g649 := qe652.2
          clear qe652 zt648
          show jGo E l 179 0 229 _ 1410 [.inr (.inr (.inl (-2))), .inr (.inr (.inl 0)), .inr (.inr (.inl 176)), .inl x3] [] 229 jr0 g649
          refine jGo_blk qL_law_1410 ?_
          have e653 : jw32 (x3 + 6) = x3 + 6 := j32e (by omega) (by omega)
          show jGo E l 179 0 229 _ 18 [.inr (.inr (.inl (-2))), .inr (.inr (.inl 0)), .inr (.inr (.inl 176)), .inl (jw32 (x3 + 6))] [] 229 jr0 g649
          exact ih (jw32 (x3 + 6)) g649 (by omega) li650 sm651 (by omega)
        · replace c6 : jand v4 63 = 35 := c6
          show jGo E l 179 0 229 _ 1387 [.inr (.inr (.inl (-2))), .inr (.inr (.inl 0)), .inr (.inr (.inl 176)), .inl x3] [] 229 jr0 g
          refine jGo_blk qL_law_1387 ?_
          have e654 : jw32 (x3 + 1) = x3 + 1 := j32e (by omega) (by omega)
          refine st_xi (N := E.2.2.2.2.1) (by decide) (by decide) rfl (show 0 ≤ jw32 (x3 + 1) by omega) (show jw32 (x3 + 1) < ((E.2.2.2.2.1 : Nat) : Int) by omega) (fun v655 ev655 => ?_)
          replace ev655 : v655 = jxv E (-2) (jw32 (x3 + 1)) := ev655
          refine st_cv (na := 1) (st := [.inl v655, .inr (.inr (.inl 0))]) jo_0 rfl rfl rfl (c_X11_told v655 g) rfl ?_
          rintro _ _ _ ⟨rfl, rfl, t656, rfl, ht656, zt656⟩ kt656
          replace kt656 : -2147483648 ≤ t656 ∧ t656 ≤ 2147483647 := kt656
          have e658 : jw32 (x3 + 1) = x3 + 1 := j32e (by omega) (by omega)
          refine st_xi (N := E.2.2.2.2.1) (by decide) (by decide) rfl (show 0 ≤ jw32 (x3 + 1) by omega) (show jw32 (x3 + 1) < ((E.2.2.2.2.1 : Nat) : Int) by omega) (fun v659 ev659 => ?_)
          replace ev659 : v659 = jxv E (-2) (jw32 (x3 + 1)) := ev659
          refine st_cv (na := 1) (st := [.inl v659, .inr (.inr (.inl 176))]) jo_176 rfl rfl rfl (c_X12_told v659 g) rfl ?_
          rintro _ _ _ ⟨rfl, rfl, t660, rfl, ht660, zt660⟩ kt660
          replace kt660 : -2147483648 ≤ t660 ∧ t660 ≤ 2147483647 := kt660
          show jGo E l 179 0 229 _ 1410 [.inr (.inr (.inl (-2))), .inr (.inr (.inl 0)), .inr (.inr (.inl 176)), .inl x3] [] 229 jr0 g
          refine jGo_blk qL_law_1410 ?_
          have e662 : jw32 (x3 + 6) = x3 + 6 := j32e (by omega) (by omega)
          show jGo E l 179 0 229 _ 18 [.inr (.inr (.inl (-2))), .inr (.inr (.inl 0)), .inr (.inr (.inl 176)), .inl (jw32 (x3 + 6))] [] 229 jr0 g
          exact ih (jw32 (x3 + 6)) g (by omega) li sm (by omega)
