/-! ===== THE LAW'S LOOP (by program) ===== -/
def jLI (h : JH) : Prop := h 176 0 ≤ 2000 ∧ jLG 0 h
theorem jLI_fr {h g : JH} (e : g 176 0 = h 176 0) (e0 : g 0 0 = h 0 0) (e87 : ∀ t : Int, g 87 t = h 87 t) (q : jLI h) : jLI g := ⟨by rw [e]; exact q.1, jLG_fr e0 e87 q.2⟩
def jlRT : JR := fun v _ _ _ => v = some (.inl 1)
theorem st_alx {E : JE} {K : JK} {ls s : List JV} {n : Nat} {r h : JH} (kk : ∀ v, v = ((E.2.2.2.2.1 : Nat) : Int) → K ls (.inl v :: s) n r h) : jaln E K ls (.inr (.inr (.inl (-2))) :: s) n r h := ⟨fun q => absurd q (by decide), fun _ => ⟨rfl, kk _ rfl⟩⟩
set_option maxHeartbeats 40000000 in
set_option maxRecDepth 20000 in
theorem law_loop {E : JE} {l : Launch} (hE : E.2.2.2.2.1 ≤ 3072) : ∀ N : Nat, ∀ (x3 : Int) (g : JH), (0 ≤ x3 ∧ x3 ≤ 3072) → jLI g → jI g → 3072 - x3 < (N : Int) → jGo E l 179 0 229 jlRT 18 [.inr (.inr (.inl (-2))), .inr (.inr (.inl 0)), .inr (.inr (.inl 176)), .inl x3] [] 229 jr0 g := by
  intro N
  induction N with
  | zero => exact fun x3 g hi _ _ hN => absurd hN (by omega)
  | succ N ih =>
      intro x3 g hi li sm hN
      have dli : g 176 0 ≤ 2000 := li.1
      have dd0 : 0 ≤ g 0 0 := li.2.1
      refine jGo_bd (fun hbd9 => ?_)
      refine jGo_blk qL_law_18 ?_
      refine st_alx (fun v1 ev1 => ?_)
      replace ev1 : v1 = ((E.2.2.2.2.1 : Nat) : Int) := ev1
      have bv1 : 0 ≤ v1 ∧ v1 ≤ 3072 := by omega
      have e2 : jw32 (v1 - 6) = v1 - 6 := j32e (by omega) (by omega)
      refine And.intro (fun c3 => ?_) (fun c3 => ?_)
      · replace c3 : jw32 (v1 - 6) < x3 := c3
        show jGo E l 179 0 229 _ 1416 [.inr (.inr (.inl (-2))), .inr (.inr (.inl 0)), .inr (.inr (.inl 176)), .inl x3] [] 229 jr0 g
        refine jGo_blk qL_law_1416 ?_
        exact st_r1 (ls := []) (Or.inr rfl) rfl
      · replace c3 : x3 ≤ jw32 (v1 - 6) := by first | exact c3 | exact Int.not_le.mp c3 | exact Int.not_lt.mp c3 | exact Decidable.not_not.mp c3
        refine st_xi (N := E.2.2.2.2.1) (by decide) (by decide) rfl (show 0 ≤ x3 by omega) (show x3 < ((E.2.2.2.2.1 : Nat) : Int) by omega) (fun v4 ev4 => ?_)
        replace ev4 : v4 = jxv E (-2) x3 := ev4
        have e5 := jand_le2 v4 63 (by omega) (by omega)
        refine And.intro (fun c6 => ?_) (And.intro (fun c6 => ?_) (And.intro (fun c6 => ?_) (And.intro (fun c6 => ?_) (And.intro (fun c6 => ?_) (And.intro (fun c6 => ?_) (And.intro (fun c6 => ?_) (And.intro (fun c6 => ?_) (And.intro (fun c6 => ?_) (And.intro (fun c6 => ?_) (And.intro (fun c6 => ?_) (And.intro (fun c6 => ?_) (And.intro (fun c6 => ?_) (And.intro (fun c6 => ?_) (And.intro (fun c6 => ?_) (And.intro (fun c6 => ?_) (And.intro (fun c6 => ?_) (And.intro (fun c6 => ?_) (And.intro (fun c6 => ?_) (And.intro (fun c6 => ?_) (And.intro (fun c6 => ?_) (And.intro (fun c6 => ?_) (And.intro (fun c6 => ?_) (And.intro (fun c6 => ?_) (And.intro (fun c6 => ?_) (And.intro (fun c6 => ?_) (And.intro (fun c6 => ?_) (And.intro (fun c6 => ?_) (And.intro (fun c6 => ?_) (And.intro (fun c6 => ?_) (And.intro (fun c6 => ?_) (And.intro (fun c6 => ?_) (And.intro (fun c6 => ?_) (And.intro (fun c6 => ?_) (And.intro (fun c6 => ?_) (And.intro (fun c6 => ?_) (And.intro (fun c6 => ?_) (trivial)))))))))))))))))))))))))))))))))))))
        · replace c6 : jand v4 63 < 0 ∨ 35 < jand v4 63 := c6
          show jGo E l 179 0 229 _ 1410 [.inr (.inr (.inl (-2))), .inr (.inr (.inl 0)), .inr (.inr (.inl 176)), .inl x3] [] 229 jr0 g
          refine jGo_blk qL_law_1410 ?_
          have e7 : jw32 (x3 + 6) = x3 + 6 := j32e (by omega) (by omega)
          show jGo E l 179 0 229 _ 18 [.inr (.inr (.inl (-2))), .inr (.inr (.inl 0)), .inr (.inr (.inl 176)), .inl (jw32 (x3 + 6))] [] 229 jr0 g
          exact ih (jw32 (x3 + 6)) g (by omega) li sm (by omega)
        · replace c6 : jand v4 63 = 0 := c6
          show jGo E l 179 0 229 _ 192 [.inr (.inr (.inl (-2))), .inr (.inr (.inl 0)), .inr (.inr (.inl 176)), .inl x3] [] 229 jr0 g
          refine jGo_blk qL_law_192 ?_
          have e8 : jw32 (x3 + 1) = x3 + 1 := j32e (by omega) (by omega)
          refine st_xi (N := E.2.2.2.2.1) (by decide) (by decide) rfl (show 0 ≤ jw32 (x3 + 1) by omega) (show jw32 (x3 + 1) < ((E.2.2.2.2.1 : Nat) : Int) by omega) (fun v9 ev9 => ?_)
          replace ev9 : v9 = jxv E (-2) (jw32 (x3 + 1)) := ev9
          have e10 : jw32 (x3 + 2) = x3 + 2 := j32e (by omega) (by omega)
          refine st_xi (N := E.2.2.2.2.1) (by decide) (by decide) rfl (show 0 ≤ jw32 (x3 + 2) by omega) (show jw32 (x3 + 2) < ((E.2.2.2.2.1 : Nat) : Int) by omega) (fun v11 ev11 => ?_)
          replace ev11 : v11 = jxv E (-2) (jw32 (x3 + 2)) := ev11
          refine st_cv (na := 2) (st := [.inl v11, .inl v9, .inr (.inr (.inl 0))]) jo_0 rfl rfl rfl (c_X11_hands v9 v11 g) rfl ?_
          rintro _ _ g13 ⟨rfl, ft12, t12, rfl, ht12, zt12⟩ kt12
          replace kt12 : -2147483648 ≤ t12 ∧ t12 ≤ 2147483647 := kt12
          replace ht12 : -7 ≤ t12 ∧ t12 ≤ 400 := ht12
          replace zt12 : P_X11_hands v9 v11 t12 g g13 := zt12
          have li14 : jLI g13 := jLI_fr (ft12 176 0 (by unfold w_X11_hands; omega)) (ft12 0 0 (by unfold w_X11_hands; omega)) (fun t => ft12 87 t (by unfold w_X11_hands; omega)) li
          have dli14 : g13 176 0 ≤ 2000 := li14.1
          have e16 : jw32 (x3 + 1) = x3 + 1 := j32e (by omega) (by omega)
          refine st_xi (N := E.2.2.2.2.1) (by decide) (by decide) rfl (show 0 ≤ jw32 (x3 + 1) by omega) (show jw32 (x3 + 1) < ((E.2.2.2.2.1 : Nat) : Int) by omega) (fun v17 ev17 => ?_)
          replace ev17 : v17 = jxv E (-2) (jw32 (x3 + 1)) := ev17
          have e18 : jw32 (x3 + 2) = x3 + 2 := j32e (by omega) (by omega)
          refine st_xi (N := E.2.2.2.2.1) (by decide) (by decide) rfl (show 0 ≤ jw32 (x3 + 2) by omega) (show jw32 (x3 + 2) < ((E.2.2.2.2.1 : Nat) : Int) by omega) (fun v19 ev19 => ?_)
          replace ev19 : v19 = jxv E (-2) (jw32 (x3 + 2)) := ev19
          refine st_cv (na := 2) (st := [.inl v19, .inl v17, .inr (.inr (.inl 176))]) jo_176 rfl rfl rfl (c_X12_hands v17 v19 g13) rfl ?_
          rintro _ _ g21 ⟨rfl, ft20, t20, rfl, ht20, zt20⟩ kt20
          replace kt20 : -2147483648 ≤ t20 ∧ t20 ≤ 2147483647 := kt20
          replace ht20 : -7 ≤ t20 ∧ t20 ≤ 400 := ht20
          replace zt20 : P_X12_hands v17 v19 t20 g13 g21 := zt20
          have li22 : jLI g21 := jLI_fr (ft20 176 0 (by unfold w_X12_hands; omega)) (ft20 0 0 (by unfold w_X12_hands; omega)) (fun t => ft20 87 t (by unfold w_X12_hands; omega)) li14
          have dli22 : g21 176 0 ≤ 2000 := li22.1
          rw [show v17 = v9 by omega, show v19 = v11 by omega] at zt20
          have qe24 := pr_hands ft12 ft20 zt12 zt20 sm
          have eqe24 := qe24.1
          have sm23 : jI g21 := qe24.2
          clear qe24 zt20
          show jGo E l 179 0 229 _ 1410 [.inr (.inr (.inl (-2))), .inr (.inr (.inl 0)), .inr (.inr (.inl 176)), .inl x3] [] 229 jr0 g21
          refine jGo_blk qL_law_1410 ?_
          have e25 : jw32 (x3 + 6) = x3 + 6 := j32e (by omega) (by omega)
          show jGo E l 179 0 229 _ 18 [.inr (.inr (.inl (-2))), .inr (.inr (.inl 0)), .inr (.inr (.inl 176)), .inl (jw32 (x3 + 6))] [] 229 jr0 g21
          exact ih (jw32 (x3 + 6)) g21 (by omega) li22 sm23 (by omega)
        · replace c6 : jand v4 63 = 1 := c6
          show jGo E l 179 0 229 _ 225 [.inr (.inr (.inl (-2))), .inr (.inr (.inl 0)), .inr (.inr (.inl 176)), .inl x3] [] 229 jr0 g
          refine jGo_blk qL_law_225 ?_
          have e26 : jw32 (x3 + 1) = x3 + 1 := j32e (by omega) (by omega)
          refine st_xi (N := E.2.2.2.2.1) (by decide) (by decide) rfl (show 0 ≤ jw32 (x3 + 1) by omega) (show jw32 (x3 + 1) < ((E.2.2.2.2.1 : Nat) : Int) by omega) (fun v27 ev27 => ?_)
          replace ev27 : v27 = jxv E (-2) (jw32 (x3 + 1)) := ev27
          have e28 : jw32 (x3 + 2) = x3 + 2 := j32e (by omega) (by omega)
          refine st_xi (N := E.2.2.2.2.1) (by decide) (by decide) rfl (show 0 ≤ jw32 (x3 + 2) by omega) (show jw32 (x3 + 2) < ((E.2.2.2.2.1 : Nat) : Int) by omega) (fun v29 ev29 => ?_)
          replace ev29 : v29 = jxv E (-2) (jw32 (x3 + 2)) := ev29
          refine st_cv (na := 2) (st := [.inl v29, .inl v27, .inr (.inr (.inl 0))]) jo_0 rfl rfl rfl (c_X11_bring v27 v29 g) rfl ?_
          rintro _ _ g31 ⟨rfl, ft30, t30, rfl, ht30, zt30⟩ kt30
          replace kt30 : -2147483648 ≤ t30 ∧ t30 ≤ 2147483647 := kt30
          replace zt30 : P_X11_bring v27 v29 t30 g g31 := zt30
          have li32 : jLI g31 := jLI_fr (ft30 176 0 (by unfold w_X11_bring; omega)) (ft30 0 0 (by unfold w_X11_bring; omega)) (fun t => ft30 87 t (by unfold w_X11_bring; omega)) li
          have dli32 : g31 176 0 ≤ 2000 := li32.1
          have e34 : jw32 (x3 + 1) = x3 + 1 := j32e (by omega) (by omega)
          refine st_xi (N := E.2.2.2.2.1) (by decide) (by decide) rfl (show 0 ≤ jw32 (x3 + 1) by omega) (show jw32 (x3 + 1) < ((E.2.2.2.2.1 : Nat) : Int) by omega) (fun v35 ev35 => ?_)
          replace ev35 : v35 = jxv E (-2) (jw32 (x3 + 1)) := ev35
          have e36 : jw32 (x3 + 2) = x3 + 2 := j32e (by omega) (by omega)
          refine st_xi (N := E.2.2.2.2.1) (by decide) (by decide) rfl (show 0 ≤ jw32 (x3 + 2) by omega) (show jw32 (x3 + 2) < ((E.2.2.2.2.1 : Nat) : Int) by omega) (fun v37 ev37 => ?_)
          replace ev37 : v37 = jxv E (-2) (jw32 (x3 + 2)) := ev37
          refine st_cv (na := 2) (st := [.inl v37, .inl v35, .inr (.inr (.inl 176))]) jo_176 rfl rfl rfl (c_X12_bring v35 v37 g31) rfl ?_
          rintro _ _ g39 ⟨rfl, ft38, t38, rfl, ht38, zt38⟩ kt38
          replace kt38 : -2147483648 ≤ t38 ∧ t38 ≤ 2147483647 := kt38
          replace zt38 : P_X12_bring v35 v37 t38 g31 g39 := zt38
          have li40 : jLI g39 := jLI_fr (ft38 176 0 (by unfold w_X12_bring; omega)) (ft38 0 0 (by unfold w_X12_bring; omega)) (fun t => ft38 87 t (by unfold w_X12_bring; omega)) li32
          have dli40 : g39 176 0 ≤ 2000 := li40.1
          rw [show v35 = v27 by omega, show v37 = v29 by omega] at zt38
          have qe42 := pr_bring ft30 ft38 zt30 zt38 sm
          have eqe42 := qe42.1
          have sm41 : jI g39 := qe42.2
          clear qe42 zt38
          show jGo E l 179 0 229 _ 1410 [.inr (.inr (.inl (-2))), .inr (.inr (.inl 0)), .inr (.inr (.inl 176)), .inl x3] [] 229 jr0 g39
          refine jGo_blk qL_law_1410 ?_
          have e43 : jw32 (x3 + 6) = x3 + 6 := j32e (by omega) (by omega)
          show jGo E l 179 0 229 _ 18 [.inr (.inr (.inl (-2))), .inr (.inr (.inl 0)), .inr (.inr (.inl 176)), .inl (jw32 (x3 + 6))] [] 229 jr0 g39
          exact ih (jw32 (x3 + 6)) g39 (by omega) li40 sm41 (by omega)
        · replace c6 : jand v4 63 = 2 := c6
          show jGo E l 179 0 229 _ 258 [.inr (.inr (.inl (-2))), .inr (.inr (.inl 0)), .inr (.inr (.inl 176)), .inl x3] [] 229 jr0 g
          refine jGo_blk qL_law_258 ?_
          have e44 : jw32 (x3 + 1) = x3 + 1 := j32e (by omega) (by omega)
          refine st_xi (N := E.2.2.2.2.1) (by decide) (by decide) rfl (show 0 ≤ jw32 (x3 + 1) by omega) (show jw32 (x3 + 1) < ((E.2.2.2.2.1 : Nat) : Int) by omega) (fun v45 ev45 => ?_)
          replace ev45 : v45 = jxv E (-2) (jw32 (x3 + 1)) := ev45
          have e46 : jw32 (x3 + 2) = x3 + 2 := j32e (by omega) (by omega)
          refine st_xi (N := E.2.2.2.2.1) (by decide) (by decide) rfl (show 0 ≤ jw32 (x3 + 2) by omega) (show jw32 (x3 + 2) < ((E.2.2.2.2.1 : Nat) : Int) by omega) (fun v47 ev47 => ?_)
          replace ev47 : v47 = jxv E (-2) (jw32 (x3 + 2)) := ev47
          refine st_cv (na := 2) (st := [.inl v47, .inl v45, .inr (.inr (.inl 0))]) jo_0 rfl rfl rfl (c_X11_row v45 v47 g) rfl ?_
          rintro _ _ g49 ⟨rfl, ft48, t48, rfl, ht48, zt48⟩ kt48
          replace kt48 : -2147483648 ≤ t48 ∧ t48 ≤ 2147483647 := kt48
          replace ht48 : -7 ≤ t48 ∧ t48 ≤ 30 := ht48
          replace zt48 : P_X11_row v45 v47 t48 g g49 := zt48
          have li50 : jLI g49 := jLI_fr (ft48 176 0 (by unfold w_X11_row; omega)) (ft48 0 0 (by unfold w_X11_row; omega)) (fun t => ft48 87 t (by unfold w_X11_row; omega)) li
          have dli50 : g49 176 0 ≤ 2000 := li50.1
          have e52 : jw32 (x3 + 1) = x3 + 1 := j32e (by omega) (by omega)
          refine st_xi (N := E.2.2.2.2.1) (by decide) (by decide) rfl (show 0 ≤ jw32 (x3 + 1) by omega) (show jw32 (x3 + 1) < ((E.2.2.2.2.1 : Nat) : Int) by omega) (fun v53 ev53 => ?_)
          replace ev53 : v53 = jxv E (-2) (jw32 (x3 + 1)) := ev53
          have e54 : jw32 (x3 + 2) = x3 + 2 := j32e (by omega) (by omega)
          refine st_xi (N := E.2.2.2.2.1) (by decide) (by decide) rfl (show 0 ≤ jw32 (x3 + 2) by omega) (show jw32 (x3 + 2) < ((E.2.2.2.2.1 : Nat) : Int) by omega) (fun v55 ev55 => ?_)
          replace ev55 : v55 = jxv E (-2) (jw32 (x3 + 2)) := ev55
          refine st_cv (na := 2) (st := [.inl v55, .inl v53, .inr (.inr (.inl 176))]) jo_176 rfl rfl rfl (c_X12_row v53 v55 g49) rfl ?_
          rintro _ _ g57 ⟨rfl, ft56, t56, rfl, ht56, zt56⟩ kt56
          replace kt56 : -2147483648 ≤ t56 ∧ t56 ≤ 2147483647 := kt56
          replace ht56 : -7 ≤ t56 ∧ t56 ≤ 30 := ht56
          replace zt56 : P_X12_row v53 v55 t56 g49 g57 := zt56
          have li58 : jLI g57 := jLI_fr (ft56 176 0 (by unfold w_X12_row; omega)) (ft56 0 0 (by unfold w_X12_row; omega)) (fun t => ft56 87 t (by unfold w_X12_row; omega)) li50
          have dli58 : g57 176 0 ≤ 2000 := li58.1
          rw [show v53 = v45 by omega, show v55 = v47 by omega] at zt56
          have qe60 := pr_row ft48 ft56 zt48 zt56 sm
          have eqe60 := qe60.1
          have sm59 : jI g57 := qe60.2
          clear qe60 zt56
          show jGo E l 179 0 229 _ 1410 [.inr (.inr (.inl (-2))), .inr (.inr (.inl 0)), .inr (.inr (.inl 176)), .inl x3] [] 229 jr0 g57
          refine jGo_blk qL_law_1410 ?_
          have e61 : jw32 (x3 + 6) = x3 + 6 := j32e (by omega) (by omega)
          show jGo E l 179 0 229 _ 18 [.inr (.inr (.inl (-2))), .inr (.inr (.inl 0)), .inr (.inr (.inl 176)), .inl (jw32 (x3 + 6))] [] 229 jr0 g57
          exact ih (jw32 (x3 + 6)) g57 (by omega) li58 sm59 (by omega)
        · replace c6 : jand v4 63 = 3 := c6
          show jGo E l 179 0 229 _ 291 [.inr (.inr (.inl (-2))), .inr (.inr (.inl 0)), .inr (.inr (.inl 176)), .inl x3] [] 229 jr0 g
          refine jGo_blk qL_law_291 ?_
          have e62 : jw32 (x3 + 1) = x3 + 1 := j32e (by omega) (by omega)
          refine st_xi (N := E.2.2.2.2.1) (by decide) (by decide) rfl (show 0 ≤ jw32 (x3 + 1) by omega) (show jw32 (x3 + 1) < ((E.2.2.2.2.1 : Nat) : Int) by omega) (fun v63 ev63 => ?_)
          replace ev63 : v63 = jxv E (-2) (jw32 (x3 + 1)) := ev63
          refine st_cv (na := 1) (st := [.inl v63, .inr (.inr (.inl 0))]) jo_0 rfl rfl rfl (c_X11_lose v63 g) rfl ?_
          rintro _ _ g65 ⟨rfl, ft64, t64, rfl, ht64, zt64⟩ kt64
          replace kt64 : -2147483648 ≤ t64 ∧ t64 ≤ 2147483647 := kt64
          replace ht64 : -7 ≤ t64 ∧ t64 ≤ 1 := ht64
          replace zt64 : P_X11_lose v63 t64 g g65 := zt64
          have li66 : jLI g65 := jLI_fr (ft64 176 0 (by unfold w_X11_lose; omega)) (ft64 0 0 (by unfold w_X11_lose; omega)) (fun t => ft64 87 t (by unfold w_X11_lose; omega)) li
          have dli66 : g65 176 0 ≤ 2000 := li66.1
          have e68 : jw32 (x3 + 1) = x3 + 1 := j32e (by omega) (by omega)
          refine st_xi (N := E.2.2.2.2.1) (by decide) (by decide) rfl (show 0 ≤ jw32 (x3 + 1) by omega) (show jw32 (x3 + 1) < ((E.2.2.2.2.1 : Nat) : Int) by omega) (fun v69 ev69 => ?_)
          replace ev69 : v69 = jxv E (-2) (jw32 (x3 + 1)) := ev69
          refine st_cv (na := 1) (st := [.inl v69, .inr (.inr (.inl 176))]) jo_176 rfl rfl rfl (c_X12_lose v69 g65) rfl ?_
          rintro _ _ g71 ⟨rfl, ft70, t70, rfl, ht70, zt70⟩ kt70
          replace kt70 : -2147483648 ≤ t70 ∧ t70 ≤ 2147483647 := kt70
          replace ht70 : -7 ≤ t70 ∧ t70 ≤ 1 := ht70
          replace zt70 : P_X12_lose v69 t70 g65 g71 := zt70
          have li72 : jLI g71 := jLI_fr (ft70 176 0 (by unfold w_X12_lose; omega)) (ft70 0 0 (by unfold w_X12_lose; omega)) (fun t => ft70 87 t (by unfold w_X12_lose; omega)) li66
          have dli72 : g71 176 0 ≤ 2000 := li72.1
          rw [show v69 = v63 by omega] at zt70
          have qe74 := pr_lose ft64 ft70 zt64 zt70 sm
          have eqe74 := qe74.1
          have sm73 : jI g71 := qe74.2
          clear qe74 zt70
          show jGo E l 179 0 229 _ 1410 [.inr (.inr (.inl (-2))), .inr (.inr (.inl 0)), .inr (.inr (.inl 176)), .inl x3] [] 229 jr0 g71
          refine jGo_blk qL_law_1410 ?_
          have e75 : jw32 (x3 + 6) = x3 + 6 := j32e (by omega) (by omega)
          show jGo E l 179 0 229 _ 18 [.inr (.inr (.inl (-2))), .inr (.inr (.inl 0)), .inr (.inr (.inl 176)), .inl (jw32 (x3 + 6))] [] 229 jr0 g71
          exact ih (jw32 (x3 + 6)) g71 (by omega) li72 sm73 (by omega)
        · replace c6 : jand v4 63 = 4 := c6
          show jGo E l 179 0 229 _ 314 [.inr (.inr (.inl (-2))), .inr (.inr (.inl 0)), .inr (.inr (.inl 176)), .inl x3] [] 229 jr0 g
          refine jGo_blk qL_law_314 ?_
          have e76 : jw32 (x3 + 1) = x3 + 1 := j32e (by omega) (by omega)
          refine st_xi (N := E.2.2.2.2.1) (by decide) (by decide) rfl (show 0 ≤ jw32 (x3 + 1) by omega) (show jw32 (x3 + 1) < ((E.2.2.2.2.1 : Nat) : Int) by omega) (fun v77 ev77 => ?_)
          replace ev77 : v77 = jxv E (-2) (jw32 (x3 + 1)) := ev77
          have e78 : jw32 (x3 + 2) = x3 + 2 := j32e (by omega) (by omega)
          refine st_xi (N := E.2.2.2.2.1) (by decide) (by decide) rfl (show 0 ≤ jw32 (x3 + 2) by omega) (show jw32 (x3 + 2) < ((E.2.2.2.2.1 : Nat) : Int) by omega) (fun v79 ev79 => ?_)
          replace ev79 : v79 = jxv E (-2) (jw32 (x3 + 2)) := ev79
          have e80 : jw32 (x3 + 3) = x3 + 3 := j32e (by omega) (by omega)
          refine st_xi (N := E.2.2.2.2.1) (by decide) (by decide) rfl (show 0 ≤ jw32 (x3 + 3) by omega) (show jw32 (x3 + 3) < ((E.2.2.2.2.1 : Nat) : Int) by omega) (fun v81 ev81 => ?_)
          replace ev81 : v81 = jxv E (-2) (jw32 (x3 + 3)) := ev81
          refine st_cv (na := 3) (st := [.inl v81, .inl v79, .inl v77, .inr (.inr (.inl 0))]) jo_0 rfl rfl rfl (c_X11_put v77 v79 v81 g) rfl ?_
          rintro _ _ g83 ⟨rfl, ft82, t82, rfl, ht82, zt82⟩ kt82
          replace kt82 : -2147483648 ≤ t82 ∧ t82 ≤ 2147483647 := kt82
          replace ht82 : -7 ≤ t82 ∧ t82 ≤ 400 := ht82
          replace zt82 : P_X11_put v77 v79 v81 t82 g g83 := zt82
          have li84 : jLI g83 := jLI_fr (ft82 176 0 (by unfold w_X11_put; omega)) (ft82 0 0 (by unfold w_X11_put; omega)) (fun t => ft82 87 t (by unfold w_X11_put; omega)) li
          have dli84 : g83 176 0 ≤ 2000 := li84.1
          have e86 : jw32 (x3 + 1) = x3 + 1 := j32e (by omega) (by omega)
          refine st_xi (N := E.2.2.2.2.1) (by decide) (by decide) rfl (show 0 ≤ jw32 (x3 + 1) by omega) (show jw32 (x3 + 1) < ((E.2.2.2.2.1 : Nat) : Int) by omega) (fun v87 ev87 => ?_)
          replace ev87 : v87 = jxv E (-2) (jw32 (x3 + 1)) := ev87
          have e88 : jw32 (x3 + 2) = x3 + 2 := j32e (by omega) (by omega)
          refine st_xi (N := E.2.2.2.2.1) (by decide) (by decide) rfl (show 0 ≤ jw32 (x3 + 2) by omega) (show jw32 (x3 + 2) < ((E.2.2.2.2.1 : Nat) : Int) by omega) (fun v89 ev89 => ?_)
          replace ev89 : v89 = jxv E (-2) (jw32 (x3 + 2)) := ev89
          have e90 : jw32 (x3 + 3) = x3 + 3 := j32e (by omega) (by omega)
          refine st_xi (N := E.2.2.2.2.1) (by decide) (by decide) rfl (show 0 ≤ jw32 (x3 + 3) by omega) (show jw32 (x3 + 3) < ((E.2.2.2.2.1 : Nat) : Int) by omega) (fun v91 ev91 => ?_)
          replace ev91 : v91 = jxv E (-2) (jw32 (x3 + 3)) := ev91
          refine st_cv (na := 3) (st := [.inl v91, .inl v89, .inl v87, .inr (.inr (.inl 176))]) jo_176 rfl rfl rfl (c_X12_put v87 v89 v91 g83) rfl ?_
          rintro _ _ g93 ⟨rfl, ft92, t92, rfl, ht92, zt92⟩ kt92
          replace kt92 : -2147483648 ≤ t92 ∧ t92 ≤ 2147483647 := kt92
          replace ht92 : -7 ≤ t92 ∧ t92 ≤ 400 := ht92
          replace zt92 : P_X12_put v87 v89 v91 t92 g83 g93 := zt92
          have li94 : jLI g93 := jLI_fr (ft92 176 0 (by unfold w_X12_put; omega)) (ft92 0 0 (by unfold w_X12_put; omega)) (fun t => ft92 87 t (by unfold w_X12_put; omega)) li84
          have dli94 : g93 176 0 ≤ 2000 := li94.1
          rw [show v87 = v77 by omega, show v89 = v79 by omega, show v91 = v81 by omega] at zt92
          have qe96 := pr_put ft82 ft92 zt82 zt92 sm
          have eqe96 := qe96.1
          have sm95 : jI g93 := qe96.2
          clear qe96 zt92
          show jGo E l 179 0 229 _ 1410 [.inr (.inr (.inl (-2))), .inr (.inr (.inl 0)), .inr (.inr (.inl 176)), .inl x3] [] 229 jr0 g93
          refine jGo_blk qL_law_1410 ?_
          have e97 : jw32 (x3 + 6) = x3 + 6 := j32e (by omega) (by omega)
          show jGo E l 179 0 229 _ 18 [.inr (.inr (.inl (-2))), .inr (.inr (.inl 0)), .inr (.inr (.inl 176)), .inl (jw32 (x3 + 6))] [] 229 jr0 g93
          exact ih (jw32 (x3 + 6)) g93 (by omega) li94 sm95 (by omega)
        · replace c6 : jand v4 63 = 5 := c6
          show jGo E l 179 0 229 _ 357 [.inr (.inr (.inl (-2))), .inr (.inr (.inl 0)), .inr (.inr (.inl 176)), .inl x3] [] 229 jr0 g
          refine jGo_blk qL_law_357 ?_
          have e98 : jw32 (x3 + 1) = x3 + 1 := j32e (by omega) (by omega)
          refine st_xi (N := E.2.2.2.2.1) (by decide) (by decide) rfl (show 0 ≤ jw32 (x3 + 1) by omega) (show jw32 (x3 + 1) < ((E.2.2.2.2.1 : Nat) : Int) by omega) (fun v99 ev99 => ?_)
          replace ev99 : v99 = jxv E (-2) (jw32 (x3 + 1)) := ev99
          have e100 : jw32 (x3 + 2) = x3 + 2 := j32e (by omega) (by omega)
          refine st_xi (N := E.2.2.2.2.1) (by decide) (by decide) rfl (show 0 ≤ jw32 (x3 + 2) by omega) (show jw32 (x3 + 2) < ((E.2.2.2.2.1 : Nat) : Int) by omega) (fun v101 ev101 => ?_)
          replace ev101 : v101 = jxv E (-2) (jw32 (x3 + 2)) := ev101
          have e102 : jw32 (x3 + 3) = x3 + 3 := j32e (by omega) (by omega)
          refine st_xi (N := E.2.2.2.2.1) (by decide) (by decide) rfl (show 0 ≤ jw32 (x3 + 3) by omega) (show jw32 (x3 + 3) < ((E.2.2.2.2.1 : Nat) : Int) by omega) (fun v103 ev103 => ?_)
          replace ev103 : v103 = jxv E (-2) (jw32 (x3 + 3)) := ev103
          have e104 : jw32 (x3 + 4) = x3 + 4 := j32e (by omega) (by omega)
          refine st_xi (N := E.2.2.2.2.1) (by decide) (by decide) rfl (show 0 ≤ jw32 (x3 + 4) by omega) (show jw32 (x3 + 4) < ((E.2.2.2.2.1 : Nat) : Int) by omega) (fun v105 ev105 => ?_)
          replace ev105 : v105 = jxv E (-2) (jw32 (x3 + 4)) := ev105
          have e106 : jw32 (x3 + 5) = x3 + 5 := j32e (by omega) (by omega)
          refine st_xi (N := E.2.2.2.2.1) (by decide) (by decide) rfl (show 0 ≤ jw32 (x3 + 5) by omega) (show jw32 (x3 + 5) < ((E.2.2.2.2.1 : Nat) : Int) by omega) (fun v107 ev107 => ?_)
          replace ev107 : v107 = jxv E (-2) (jw32 (x3 + 5)) := ev107
          refine st_cv (na := 5) (st := [.inl v107, .inl v105, .inl v103, .inl v101, .inl v99, .inr (.inr (.inl 0))]) jo_0 rfl rfl rfl (c_X11_copy v99 v101 v103 v105 v107 g) rfl ?_
          rintro _ _ g109 ⟨rfl, ft108, t108, rfl, ht108, zt108⟩ kt108
          replace kt108 : -2147483648 ≤ t108 ∧ t108 ≤ 2147483647 := kt108
          replace zt108 : P_X11_copy v99 v101 v103 v105 v107 t108 g g109 := zt108
          have li110 : jLI g109 := jLI_fr (ft108 176 0 (by unfold w_X11_copy; omega)) (ft108 0 0 (by unfold w_X11_copy; omega)) (fun t => ft108 87 t (by unfold w_X11_copy; omega)) li
          have dli110 : g109 176 0 ≤ 2000 := li110.1
          have e112 : jw32 (x3 + 1) = x3 + 1 := j32e (by omega) (by omega)
          refine st_xi (N := E.2.2.2.2.1) (by decide) (by decide) rfl (show 0 ≤ jw32 (x3 + 1) by omega) (show jw32 (x3 + 1) < ((E.2.2.2.2.1 : Nat) : Int) by omega) (fun v113 ev113 => ?_)
          replace ev113 : v113 = jxv E (-2) (jw32 (x3 + 1)) := ev113
          have e114 : jw32 (x3 + 2) = x3 + 2 := j32e (by omega) (by omega)
          refine st_xi (N := E.2.2.2.2.1) (by decide) (by decide) rfl (show 0 ≤ jw32 (x3 + 2) by omega) (show jw32 (x3 + 2) < ((E.2.2.2.2.1 : Nat) : Int) by omega) (fun v115 ev115 => ?_)
          replace ev115 : v115 = jxv E (-2) (jw32 (x3 + 2)) := ev115
          have e116 : jw32 (x3 + 3) = x3 + 3 := j32e (by omega) (by omega)
          refine st_xi (N := E.2.2.2.2.1) (by decide) (by decide) rfl (show 0 ≤ jw32 (x3 + 3) by omega) (show jw32 (x3 + 3) < ((E.2.2.2.2.1 : Nat) : Int) by omega) (fun v117 ev117 => ?_)
          replace ev117 : v117 = jxv E (-2) (jw32 (x3 + 3)) := ev117
          have e118 : jw32 (x3 + 4) = x3 + 4 := j32e (by omega) (by omega)
          refine st_xi (N := E.2.2.2.2.1) (by decide) (by decide) rfl (show 0 ≤ jw32 (x3 + 4) by omega) (show jw32 (x3 + 4) < ((E.2.2.2.2.1 : Nat) : Int) by omega) (fun v119 ev119 => ?_)
          replace ev119 : v119 = jxv E (-2) (jw32 (x3 + 4)) := ev119
          have e120 : jw32 (x3 + 5) = x3 + 5 := j32e (by omega) (by omega)
          refine st_xi (N := E.2.2.2.2.1) (by decide) (by decide) rfl (show 0 ≤ jw32 (x3 + 5) by omega) (show jw32 (x3 + 5) < ((E.2.2.2.2.1 : Nat) : Int) by omega) (fun v121 ev121 => ?_)
          replace ev121 : v121 = jxv E (-2) (jw32 (x3 + 5)) := ev121
          refine st_cv (na := 5) (st := [.inl v121, .inl v119, .inl v117, .inl v115, .inl v113, .inr (.inr (.inl 176))]) jo_176 rfl rfl rfl (c_X12_copy v113 v115 v117 v119 v121 g109) rfl ?_
          rintro _ _ g123 ⟨rfl, ft122, t122, rfl, ht122, zt122⟩ kt122
          replace kt122 : -2147483648 ≤ t122 ∧ t122 ≤ 2147483647 := kt122
          replace ht122 : -7 ≤ t122 ∧ t122 ≤ 30 := ht122
          replace zt122 : P_X12_copy v113 v115 v117 v119 v121 t122 g109 g123 := zt122
          have li124 : jLI g123 := jLI_fr (ft122 176 0 (by unfold w_X12_copy; omega)) (ft122 0 0 (by unfold w_X12_copy; omega)) (fun t => ft122 87 t (by unfold w_X12_copy; omega)) li110
          have dli124 : g123 176 0 ≤ 2000 := li124.1
          rw [show v113 = v99 by omega, show v115 = v101 by omega, show v117 = v103 by omega, show v119 = v105 by omega, show v121 = v107 by omega] at zt122
          have qe126 := pr_copy ft108 ft122 zt108 zt122 sm
          have eqe126 := qe126.1
          have sm125 : jI g123 := qe126.2
          clear qe126 zt122
          show jGo E l 179 0 229 _ 1410 [.inr (.inr (.inl (-2))), .inr (.inr (.inl 0)), .inr (.inr (.inl 176)), .inl x3] [] 229 jr0 g123
          refine jGo_blk qL_law_1410 ?_
          have e127 : jw32 (x3 + 6) = x3 + 6 := j32e (by omega) (by omega)
          show jGo E l 179 0 229 _ 18 [.inr (.inr (.inl (-2))), .inr (.inr (.inl 0)), .inr (.inr (.inl 176)), .inl (jw32 (x3 + 6))] [] 229 jr0 g123
          exact ih (jw32 (x3 + 6)) g123 (by omega) li124 sm125 (by omega)
        · replace c6 : jand v4 63 = 6 := c6
          show jGo E l 179 0 229 _ 420 [.inr (.inr (.inl (-2))), .inr (.inr (.inl 0)), .inr (.inr (.inl 176)), .inl x3] [] 229 jr0 g
          refine jGo_blk qL_law_420 ?_
          have e128 : jw32 (x3 + 1) = x3 + 1 := j32e (by omega) (by omega)
          refine st_xi (N := E.2.2.2.2.1) (by decide) (by decide) rfl (show 0 ≤ jw32 (x3 + 1) by omega) (show jw32 (x3 + 1) < ((E.2.2.2.2.1 : Nat) : Int) by omega) (fun v129 ev129 => ?_)
          replace ev129 : v129 = jxv E (-2) (jw32 (x3 + 1)) := ev129
          have e130 : jw32 (x3 + 2) = x3 + 2 := j32e (by omega) (by omega)
          refine st_xi (N := E.2.2.2.2.1) (by decide) (by decide) rfl (show 0 ≤ jw32 (x3 + 2) by omega) (show jw32 (x3 + 2) < ((E.2.2.2.2.1 : Nat) : Int) by omega) (fun v131 ev131 => ?_)
          replace ev131 : v131 = jxv E (-2) (jw32 (x3 + 2)) := ev131
          refine st_cv (na := 2) (st := [.inl v131, .inl v129, .inr (.inr (.inl 0))]) jo_0 rfl rfl rfl (c_X11_lead v129 v131 g) rfl ?_
          rintro _ _ g133 ⟨rfl, ft132, t132, rfl, ht132, zt132⟩ kt132
          replace kt132 : -2147483648 ≤ t132 ∧ t132 ≤ 2147483647 := kt132
          replace ht132 : -1 ≤ t132 ∧ t132 ≤ 2000000007 := ht132
          replace zt132 : P_X11_lead v129 v131 t132 g g133 := zt132
          have li134 : jLI g133 := jLI_fr (ft132 176 0 (by unfold w_X11_lead; omega)) (ft132 0 0 (by unfold w_X11_lead; omega)) (fun t => ft132 87 t (by unfold w_X11_lead; omega)) li
          have dli134 : g133 176 0 ≤ 2000 := li134.1
          have e136 : jw32 (x3 + 1) = x3 + 1 := j32e (by omega) (by omega)
          refine st_xi (N := E.2.2.2.2.1) (by decide) (by decide) rfl (show 0 ≤ jw32 (x3 + 1) by omega) (show jw32 (x3 + 1) < ((E.2.2.2.2.1 : Nat) : Int) by omega) (fun v137 ev137 => ?_)
          replace ev137 : v137 = jxv E (-2) (jw32 (x3 + 1)) := ev137
          have e138 : jw32 (x3 + 2) = x3 + 2 := j32e (by omega) (by omega)
          refine st_xi (N := E.2.2.2.2.1) (by decide) (by decide) rfl (show 0 ≤ jw32 (x3 + 2) by omega) (show jw32 (x3 + 2) < ((E.2.2.2.2.1 : Nat) : Int) by omega) (fun v139 ev139 => ?_)
          replace ev139 : v139 = jxv E (-2) (jw32 (x3 + 2)) := ev139
          refine st_cv (na := 2) (st := [.inl v139, .inl v137, .inr (.inr (.inl 176))]) jo_176 rfl rfl rfl (c_X12_lead v137 v139 g133) rfl ?_
          rintro _ _ g141 ⟨rfl, ft140, t140, rfl, ht140, zt140⟩ kt140
          replace kt140 : -2147483648 ≤ t140 ∧ t140 ≤ 2147483647 := kt140
          replace ht140 : -1 ≤ t140 ∧ t140 ≤ 2000000007 := ht140
          replace zt140 : P_X12_lead v137 v139 t140 g133 g141 := zt140
          have li142 : jLI g141 := jLI_fr (ft140 176 0 (by unfold w_X12_lead; omega)) (ft140 0 0 (by unfold w_X12_lead; omega)) (fun t => ft140 87 t (by unfold w_X12_lead; omega)) li134
          have dli142 : g141 176 0 ≤ 2000 := li142.1
          rw [show v137 = v129 by omega, show v139 = v131 by omega] at zt140
          have qe144 := pr_lead ft132 ft140 zt132 zt140 sm
          have eqe144 := qe144.1
          have sm143 : jI g141 := qe144.2
          clear qe144 zt140
          show jGo E l 179 0 229 _ 1410 [.inr (.inr (.inl (-2))), .inr (.inr (.inl 0)), .inr (.inr (.inl 176)), .inl x3] [] 229 jr0 g141
          refine jGo_blk qL_law_1410 ?_
          have e145 : jw32 (x3 + 6) = x3 + 6 := j32e (by omega) (by omega)
          show jGo E l 179 0 229 _ 18 [.inr (.inr (.inl (-2))), .inr (.inr (.inl 0)), .inr (.inr (.inl 176)), .inl (jw32 (x3 + 6))] [] 229 jr0 g141
          exact ih (jw32 (x3 + 6)) g141 (by omega) li142 sm143 (by omega)
        · replace c6 : jand v4 63 = 7 := c6
          show jGo E l 179 0 229 _ 453 [.inr (.inr (.inl (-2))), .inr (.inr (.inl 0)), .inr (.inr (.inl 176)), .inl x3] [] 229 jr0 g
          refine jGo_blk qL_law_453 ?_
          have e146 : jw32 (x3 + 1) = x3 + 1 := j32e (by omega) (by omega)
          refine st_xi (N := E.2.2.2.2.1) (by decide) (by decide) rfl (show 0 ≤ jw32 (x3 + 1) by omega) (show jw32 (x3 + 1) < ((E.2.2.2.2.1 : Nat) : Int) by omega) (fun v147 ev147 => ?_)
          replace ev147 : v147 = jxv E (-2) (jw32 (x3 + 1)) := ev147
          have e148 : jw32 (x3 + 2) = x3 + 2 := j32e (by omega) (by omega)
          refine st_xi (N := E.2.2.2.2.1) (by decide) (by decide) rfl (show 0 ≤ jw32 (x3 + 2) by omega) (show jw32 (x3 + 2) < ((E.2.2.2.2.1 : Nat) : Int) by omega) (fun v149 ev149 => ?_)
          replace ev149 : v149 = jxv E (-2) (jw32 (x3 + 2)) := ev149
          refine st_cv (na := 2) (st := [.inl v149, .inl v147, .inr (.inr (.inl 0))]) jo_0 rfl rfl rfl (c_X11_handsOn v147 v149 g) rfl ?_
          rintro _ _ g151 ⟨rfl, ft150, t150, rfl, ht150, zt150⟩ kt150
          replace kt150 : -2147483648 ≤ t150 ∧ t150 ≤ 2147483647 := kt150
          replace ht150 : -7 ≤ t150 ∧ t150 ≤ 400 := ht150
          replace zt150 : P_X11_handsOn v147 v149 t150 g := zt150
          have li152 : jLI g151 := jLI_fr (ft150 176 0 (by unfold w_X11_handsOn; omega)) (ft150 0 0 (by unfold w_X11_handsOn; omega)) (fun t => ft150 87 t (by unfold w_X11_handsOn; omega)) li
          have dli152 : g151 176 0 ≤ 2000 := li152.1
          have e154 : jw32 (x3 + 1) = x3 + 1 := j32e (by omega) (by omega)
          refine st_xi (N := E.2.2.2.2.1) (by decide) (by decide) rfl (show 0 ≤ jw32 (x3 + 1) by omega) (show jw32 (x3 + 1) < ((E.2.2.2.2.1 : Nat) : Int) by omega) (fun v155 ev155 => ?_)
          replace ev155 : v155 = jxv E (-2) (jw32 (x3 + 1)) := ev155
          have e156 : jw32 (x3 + 2) = x3 + 2 := j32e (by omega) (by omega)
          refine st_xi (N := E.2.2.2.2.1) (by decide) (by decide) rfl (show 0 ≤ jw32 (x3 + 2) by omega) (show jw32 (x3 + 2) < ((E.2.2.2.2.1 : Nat) : Int) by omega) (fun v157 ev157 => ?_)
          replace ev157 : v157 = jxv E (-2) (jw32 (x3 + 2)) := ev157
          refine st_cv (na := 2) (st := [.inl v157, .inl v155, .inr (.inr (.inl 176))]) jo_176 rfl rfl rfl (c_X12_handsOn v155 v157 g151) rfl ?_
          rintro _ _ g159 ⟨rfl, ft158, t158, rfl, ht158, zt158⟩ kt158
          replace kt158 : -2147483648 ≤ t158 ∧ t158 ≤ 2147483647 := kt158
          replace ht158 : -7 ≤ t158 ∧ t158 ≤ 400 := ht158
          replace zt158 : P_X12_handsOn v155 v157 t158 g151 := zt158
          have li160 : jLI g159 := jLI_fr (ft158 176 0 (by unfold w_X12_handsOn; omega)) (ft158 0 0 (by unfold w_X12_handsOn; omega)) (fun t => ft158 87 t (by unfold w_X12_handsOn; omega)) li152
          have dli160 : g159 176 0 ≤ 2000 := li160.1
          rw [show v155 = v147 by omega, show v157 = v149 by omega] at zt158
          have qe162 := pr_handsOn ft150 ft158 zt150 zt158 sm
          have eqe162 := qe162.1
          have sm161 : jI g159 := qe162.2
          clear qe162 zt158
          show jGo E l 179 0 229 _ 1410 [.inr (.inr (.inl (-2))), .inr (.inr (.inl 0)), .inr (.inr (.inl 176)), .inl x3] [] 229 jr0 g159
          refine jGo_blk qL_law_1410 ?_
          have e163 : jw32 (x3 + 6) = x3 + 6 := j32e (by omega) (by omega)
          show jGo E l 179 0 229 _ 18 [.inr (.inr (.inl (-2))), .inr (.inr (.inl 0)), .inr (.inr (.inl 176)), .inl (jw32 (x3 + 6))] [] 229 jr0 g159
          exact ih (jw32 (x3 + 6)) g159 (by omega) li160 sm161 (by omega)
        · replace c6 : jand v4 63 = 8 := c6
          show jGo E l 179 0 229 _ 486 [.inr (.inr (.inl (-2))), .inr (.inr (.inl 0)), .inr (.inr (.inl 176)), .inl x3] [] 229 jr0 g
          refine jGo_blk qL_law_486 ?_
          have e164 : jw32 (x3 + 1) = x3 + 1 := j32e (by omega) (by omega)
          refine st_xi (N := E.2.2.2.2.1) (by decide) (by decide) rfl (show 0 ≤ jw32 (x3 + 1) by omega) (show jw32 (x3 + 1) < ((E.2.2.2.2.1 : Nat) : Int) by omega) (fun v165 ev165 => ?_)
          replace ev165 : v165 = jxv E (-2) (jw32 (x3 + 1)) := ev165
          have e166 : jw32 (x3 + 2) = x3 + 2 := j32e (by omega) (by omega)
          refine st_xi (N := E.2.2.2.2.1) (by decide) (by decide) rfl (show 0 ≤ jw32 (x3 + 2) by omega) (show jw32 (x3 + 2) < ((E.2.2.2.2.1 : Nat) : Int) by omega) (fun v167 ev167 => ?_)
          replace ev167 : v167 = jxv E (-2) (jw32 (x3 + 2)) := ev167
          have e168 : jw32 (x3 + 3) = x3 + 3 := j32e (by omega) (by omega)
          refine st_xi (N := E.2.2.2.2.1) (by decide) (by decide) rfl (show 0 ≤ jw32 (x3 + 3) by omega) (show jw32 (x3 + 3) < ((E.2.2.2.2.1 : Nat) : Int) by omega) (fun v169 ev169 => ?_)
          replace ev169 : v169 = jxv E (-2) (jw32 (x3 + 3)) := ev169
          have e170 : jw32 (x3 + 4) = x3 + 4 := j32e (by omega) (by omega)
          refine st_xi (N := E.2.2.2.2.1) (by decide) (by decide) rfl (show 0 ≤ jw32 (x3 + 4) by omega) (show jw32 (x3 + 4) < ((E.2.2.2.2.1 : Nat) : Int) by omega) (fun v171 ev171 => ?_)
          replace ev171 : v171 = jxv E (-2) (jw32 (x3 + 4)) := ev171
          refine st_cv (na := 4) (st := [.inl v171, .inl v169, .inl v167, .inl v165, .inr (.inr (.inl 0))]) jo_0 rfl rfl rfl (c_X11_decree v165 v167 v169 v171 g) rfl ?_
          rintro _ _ g173 ⟨rfl, ft172, t172, rfl, ht172, zt172⟩ kt172
          replace kt172 : -2147483648 ≤ t172 ∧ t172 ≤ 2147483647 := kt172
          replace ht172 : -7 ≤ t172 ∧ t172 ≤ 39 := ht172
          replace zt172 : P_X11_decree v165 v167 v169 v171 t172 g g173 := zt172
          have li174 : jLI g173 := jLI_fr (ft172 176 0 (by unfold w_X11_decree; omega)) (ft172 0 0 (by unfold w_X11_decree; omega)) (fun t => ft172 87 t (by unfold w_X11_decree; omega)) li
          have dli174 : g173 176 0 ≤ 2000 := li174.1
          have e176 : jw32 (x3 + 1) = x3 + 1 := j32e (by omega) (by omega)
          refine st_xi (N := E.2.2.2.2.1) (by decide) (by decide) rfl (show 0 ≤ jw32 (x3 + 1) by omega) (show jw32 (x3 + 1) < ((E.2.2.2.2.1 : Nat) : Int) by omega) (fun v177 ev177 => ?_)
          replace ev177 : v177 = jxv E (-2) (jw32 (x3 + 1)) := ev177
          have e178 : jw32 (x3 + 2) = x3 + 2 := j32e (by omega) (by omega)
          refine st_xi (N := E.2.2.2.2.1) (by decide) (by decide) rfl (show 0 ≤ jw32 (x3 + 2) by omega) (show jw32 (x3 + 2) < ((E.2.2.2.2.1 : Nat) : Int) by omega) (fun v179 ev179 => ?_)
          replace ev179 : v179 = jxv E (-2) (jw32 (x3 + 2)) := ev179
          have e180 : jw32 (x3 + 3) = x3 + 3 := j32e (by omega) (by omega)
          refine st_xi (N := E.2.2.2.2.1) (by decide) (by decide) rfl (show 0 ≤ jw32 (x3 + 3) by omega) (show jw32 (x3 + 3) < ((E.2.2.2.2.1 : Nat) : Int) by omega) (fun v181 ev181 => ?_)
          replace ev181 : v181 = jxv E (-2) (jw32 (x3 + 3)) := ev181
          have e182 : jw32 (x3 + 4) = x3 + 4 := j32e (by omega) (by omega)
          refine st_xi (N := E.2.2.2.2.1) (by decide) (by decide) rfl (show 0 ≤ jw32 (x3 + 4) by omega) (show jw32 (x3 + 4) < ((E.2.2.2.2.1 : Nat) : Int) by omega) (fun v183 ev183 => ?_)
          replace ev183 : v183 = jxv E (-2) (jw32 (x3 + 4)) := ev183
          refine st_cv (na := 4) (st := [.inl v183, .inl v181, .inl v179, .inl v177, .inr (.inr (.inl 176))]) jo_176 rfl rfl rfl (c_X12_decree v177 v179 v181 v183 g173) rfl ?_
          rintro _ _ g185 ⟨rfl, ft184, t184, rfl, ht184, zt184⟩ kt184
          replace kt184 : -2147483648 ≤ t184 ∧ t184 ≤ 2147483647 := kt184
          replace ht184 : -7 ≤ t184 ∧ t184 ≤ 39 := ht184
          replace zt184 : P_X12_decree v177 v179 v181 v183 t184 g173 g185 := zt184
          have li186 : jLI g185 := jLI_fr (ft184 176 0 (by unfold w_X12_decree; omega)) (ft184 0 0 (by unfold w_X12_decree; omega)) (fun t => ft184 87 t (by unfold w_X12_decree; omega)) li174
          have dli186 : g185 176 0 ≤ 2000 := li186.1
          rw [show v177 = v165 by omega, show v179 = v167 by omega, show v181 = v169 by omega, show v183 = v171 by omega] at zt184
          have qe188 := pr_decree ft172 ft184 zt172 zt184 sm dd0
          have eqe188 := qe188.1
          have sm187 : jI g185 := qe188.2
          clear qe188 zt184
          show jGo E l 179 0 229 _ 1410 [.inr (.inr (.inl (-2))), .inr (.inr (.inl 0)), .inr (.inr (.inl 176)), .inl x3] [] 229 jr0 g185
          refine jGo_blk qL_law_1410 ?_
          have e189 : jw32 (x3 + 6) = x3 + 6 := j32e (by omega) (by omega)
          show jGo E l 179 0 229 _ 18 [.inr (.inr (.inl (-2))), .inr (.inr (.inl 0)), .inr (.inr (.inl 176)), .inl (jw32 (x3 + 6))] [] 229 jr0 g185
          exact ih (jw32 (x3 + 6)) g185 (by omega) li186 sm187 (by omega)
        · replace c6 : jand v4 63 = 9 := c6
          show jGo E l 179 0 229 _ 539 [.inr (.inr (.inl (-2))), .inr (.inr (.inl 0)), .inr (.inr (.inl 176)), .inl x3] [] 229 jr0 g
          refine jGo_blk qL_law_539 ?_
          have e190 : jw32 (x3 + 1) = x3 + 1 := j32e (by omega) (by omega)
          refine st_xi (N := E.2.2.2.2.1) (by decide) (by decide) rfl (show 0 ≤ jw32 (x3 + 1) by omega) (show jw32 (x3 + 1) < ((E.2.2.2.2.1 : Nat) : Int) by omega) (fun v191 ev191 => ?_)
          replace ev191 : v191 = jxv E (-2) (jw32 (x3 + 1)) := ev191
          have e192 : jw32 (x3 + 2) = x3 + 2 := j32e (by omega) (by omega)
          refine st_xi (N := E.2.2.2.2.1) (by decide) (by decide) rfl (show 0 ≤ jw32 (x3 + 2) by omega) (show jw32 (x3 + 2) < ((E.2.2.2.2.1 : Nat) : Int) by omega) (fun v193 ev193 => ?_)
          replace ev193 : v193 = jxv E (-2) (jw32 (x3 + 2)) := ev193
          have e194 : jw32 (x3 + 3) = x3 + 3 := j32e (by omega) (by omega)
          refine st_xi (N := E.2.2.2.2.1) (by decide) (by decide) rfl (show 0 ≤ jw32 (x3 + 3) by omega) (show jw32 (x3 + 3) < ((E.2.2.2.2.1 : Nat) : Int) by omega) (fun v195 ev195 => ?_)
          replace ev195 : v195 = jxv E (-2) (jw32 (x3 + 3)) := ev195
          refine st_cv (na := 3) (st := [.inl v195, .inl v193, .inl v191, .inr (.inr (.inl 0))]) jo_0 rfl rfl rfl (c_X11_force v191 v193 v195 g) rfl ?_
          rintro _ _ g197 ⟨rfl, ft196, t196, rfl, ht196, zt196⟩ kt196
          replace kt196 : -2147483648 ≤ t196 ∧ t196 ≤ 2147483647 := kt196
          replace ht196 : -7 ≤ t196 ∧ t196 ≤ 200 := ht196
          replace zt196 : P_X11_force v191 v193 v195 t196 g := zt196
          have li198 : jLI g197 := jLI_fr (ft196 176 0 (by unfold w_X11_force; omega)) (ft196 0 0 (by unfold w_X11_force; omega)) (fun t => ft196 87 t (by unfold w_X11_force; omega)) li
          have dli198 : g197 176 0 ≤ 2000 := li198.1
          have e200 : jw32 (x3 + 1) = x3 + 1 := j32e (by omega) (by omega)
          refine st_xi (N := E.2.2.2.2.1) (by decide) (by decide) rfl (show 0 ≤ jw32 (x3 + 1) by omega) (show jw32 (x3 + 1) < ((E.2.2.2.2.1 : Nat) : Int) by omega) (fun v201 ev201 => ?_)
          replace ev201 : v201 = jxv E (-2) (jw32 (x3 + 1)) := ev201
          have e202 : jw32 (x3 + 2) = x3 + 2 := j32e (by omega) (by omega)
          refine st_xi (N := E.2.2.2.2.1) (by decide) (by decide) rfl (show 0 ≤ jw32 (x3 + 2) by omega) (show jw32 (x3 + 2) < ((E.2.2.2.2.1 : Nat) : Int) by omega) (fun v203 ev203 => ?_)
          replace ev203 : v203 = jxv E (-2) (jw32 (x3 + 2)) := ev203
          have e204 : jw32 (x3 + 3) = x3 + 3 := j32e (by omega) (by omega)
          refine st_xi (N := E.2.2.2.2.1) (by decide) (by decide) rfl (show 0 ≤ jw32 (x3 + 3) by omega) (show jw32 (x3 + 3) < ((E.2.2.2.2.1 : Nat) : Int) by omega) (fun v205 ev205 => ?_)
          replace ev205 : v205 = jxv E (-2) (jw32 (x3 + 3)) := ev205
          refine st_cv (na := 3) (st := [.inl v205, .inl v203, .inl v201, .inr (.inr (.inl 176))]) jo_176 rfl rfl rfl (c_X12_force v201 v203 v205 g197) rfl ?_
          rintro _ _ g207 ⟨rfl, ft206, t206, rfl, ht206, zt206⟩ kt206
          replace kt206 : -2147483648 ≤ t206 ∧ t206 ≤ 2147483647 := kt206
          replace ht206 : -7 ≤ t206 ∧ t206 ≤ 200 := ht206
          replace zt206 : P_X12_force v201 v203 v205 t206 g197 := zt206
          have li208 : jLI g207 := jLI_fr (ft206 176 0 (by unfold w_X12_force; omega)) (ft206 0 0 (by unfold w_X12_force; omega)) (fun t => ft206 87 t (by unfold w_X12_force; omega)) li198
          have dli208 : g207 176 0 ≤ 2000 := li208.1
          rw [show v201 = v191 by omega, show v203 = v193 by omega, show v205 = v195 by omega] at zt206
          have qe210 := pr_force ft196 ft206 zt196 zt206 sm
          have eqe210 := qe210.1
          have sm209 : jI g207 := qe210.2
          clear qe210 zt206
          show jGo E l 179 0 229 _ 1410 [.inr (.inr (.inl (-2))), .inr (.inr (.inl 0)), .inr (.inr (.inl 176)), .inl x3] [] 229 jr0 g207
          refine jGo_blk qL_law_1410 ?_
          have e211 : jw32 (x3 + 6) = x3 + 6 := j32e (by omega) (by omega)
          show jGo E l 179 0 229 _ 18 [.inr (.inr (.inl (-2))), .inr (.inr (.inl 0)), .inr (.inr (.inl 176)), .inl (jw32 (x3 + 6))] [] 229 jr0 g207
          exact ih (jw32 (x3 + 6)) g207 (by omega) li208 sm209 (by omega)
        · replace c6 : jand v4 63 = 10 := c6
          show jGo E l 179 0 229 _ 582 [.inr (.inr (.inl (-2))), .inr (.inr (.inl 0)), .inr (.inr (.inl 176)), .inl x3] [] 229 jr0 g
          refine jGo_blk qL_law_582 ?_
          have e212 : jw32 (x3 + 1) = x3 + 1 := j32e (by omega) (by omega)
          refine st_xi (N := E.2.2.2.2.1) (by decide) (by decide) rfl (show 0 ≤ jw32 (x3 + 1) by omega) (show jw32 (x3 + 1) < ((E.2.2.2.2.1 : Nat) : Int) by omega) (fun v213 ev213 => ?_)
          replace ev213 : v213 = jxv E (-2) (jw32 (x3 + 1)) := ev213
          have e214 : jw32 (x3 + 2) = x3 + 2 := j32e (by omega) (by omega)
          refine st_xi (N := E.2.2.2.2.1) (by decide) (by decide) rfl (show 0 ≤ jw32 (x3 + 2) by omega) (show jw32 (x3 + 2) < ((E.2.2.2.2.1 : Nat) : Int) by omega) (fun v215 ev215 => ?_)
          replace ev215 : v215 = jxv E (-2) (jw32 (x3 + 2)) := ev215
          have e216 : jw32 (x3 + 3) = x3 + 3 := j32e (by omega) (by omega)
          refine st_xi (N := E.2.2.2.2.1) (by decide) (by decide) rfl (show 0 ≤ jw32 (x3 + 3) by omega) (show jw32 (x3 + 3) < ((E.2.2.2.2.1 : Nat) : Int) by omega) (fun v217 ev217 => ?_)
          replace ev217 : v217 = jxv E (-2) (jw32 (x3 + 3)) := ev217
          have e218 : jw32 (x3 + 4) = x3 + 4 := j32e (by omega) (by omega)
          refine st_xi (N := E.2.2.2.2.1) (by decide) (by decide) rfl (show 0 ≤ jw32 (x3 + 4) by omega) (show jw32 (x3 + 4) < ((E.2.2.2.2.1 : Nat) : Int) by omega) (fun v219 ev219 => ?_)
          replace ev219 : v219 = jxv E (-2) (jw32 (x3 + 4)) := ev219
          refine st_cv (na := 4) (st := [.inl v219, .inl v217, .inl v215, .inl v213, .inr (.inr (.inl 0))]) jo_0 rfl rfl rfl (c_X11_task v213 v215 v217 v219 g) rfl ?_
          rintro _ _ g221 ⟨rfl, ft220, t220, rfl, ht220, zt220⟩ kt220
          replace kt220 : -2147483648 ≤ t220 ∧ t220 ≤ 2147483647 := kt220
          replace ht220 : -7 ≤ t220 ∧ t220 ≤ 2000 := ht220
          replace zt220 : P_X11_task v213 v215 v217 v219 t220 g g221 := zt220
          have li222 : jLI g221 := jLI_fr (ft220 176 0 (by unfold w_X11_task; omega)) (ft220 0 0 (by unfold w_X11_task; omega)) (fun t => ft220 87 t (by unfold w_X11_task; omega)) li
          have dli222 : g221 176 0 ≤ 2000 := li222.1
          have e224 : jw32 (x3 + 1) = x3 + 1 := j32e (by omega) (by omega)
          refine st_xi (N := E.2.2.2.2.1) (by decide) (by decide) rfl (show 0 ≤ jw32 (x3 + 1) by omega) (show jw32 (x3 + 1) < ((E.2.2.2.2.1 : Nat) : Int) by omega) (fun v225 ev225 => ?_)
          replace ev225 : v225 = jxv E (-2) (jw32 (x3 + 1)) := ev225
          have e226 : jw32 (x3 + 2) = x3 + 2 := j32e (by omega) (by omega)
          refine st_xi (N := E.2.2.2.2.1) (by decide) (by decide) rfl (show 0 ≤ jw32 (x3 + 2) by omega) (show jw32 (x3 + 2) < ((E.2.2.2.2.1 : Nat) : Int) by omega) (fun v227 ev227 => ?_)
          replace ev227 : v227 = jxv E (-2) (jw32 (x3 + 2)) := ev227
          have e228 : jw32 (x3 + 3) = x3 + 3 := j32e (by omega) (by omega)
          refine st_xi (N := E.2.2.2.2.1) (by decide) (by decide) rfl (show 0 ≤ jw32 (x3 + 3) by omega) (show jw32 (x3 + 3) < ((E.2.2.2.2.1 : Nat) : Int) by omega) (fun v229 ev229 => ?_)
          replace ev229 : v229 = jxv E (-2) (jw32 (x3 + 3)) := ev229
          have e230 : jw32 (x3 + 4) = x3 + 4 := j32e (by omega) (by omega)
          refine st_xi (N := E.2.2.2.2.1) (by decide) (by decide) rfl (show 0 ≤ jw32 (x3 + 4) by omega) (show jw32 (x3 + 4) < ((E.2.2.2.2.1 : Nat) : Int) by omega) (fun v231 ev231 => ?_)
          replace ev231 : v231 = jxv E (-2) (jw32 (x3 + 4)) := ev231
          refine st_cv (na := 4) (st := [.inl v231, .inl v229, .inl v227, .inl v225, .inr (.inr (.inl 176))]) jo_176 rfl rfl rfl (c_X12_task v225 v227 v229 v231 g221) rfl ?_
          rintro _ _ g233 ⟨rfl, ft232, t232, rfl, ht232, zt232⟩ kt232
          replace kt232 : -2147483648 ≤ t232 ∧ t232 ≤ 2147483647 := kt232
          replace ht232 : -7 ≤ t232 ∧ t232 ≤ 2000 := ht232
          replace zt232 : P_X12_task v225 v227 v229 v231 t232 g221 g233 := zt232
          have li234 : jLI g233 := jLI_fr (ft232 176 0 (by unfold w_X12_task; omega)) (ft232 0 0 (by unfold w_X12_task; omega)) (fun t => ft232 87 t (by unfold w_X12_task; omega)) li222
          have dli234 : g233 176 0 ≤ 2000 := li234.1
          rw [show v225 = v213 by omega, show v227 = v215 by omega, show v229 = v217 by omega, show v231 = v219 by omega] at zt232
          have qe236 := pr_task ft220 ft232 zt220 zt232 sm
          have eqe236 := qe236.1
          have sm235 : jI g233 := qe236.2
          clear qe236 zt232
          show jGo E l 179 0 229 _ 1410 [.inr (.inr (.inl (-2))), .inr (.inr (.inl 0)), .inr (.inr (.inl 176)), .inl x3] [] 229 jr0 g233
          refine jGo_blk qL_law_1410 ?_
          have e237 : jw32 (x3 + 6) = x3 + 6 := j32e (by omega) (by omega)
          show jGo E l 179 0 229 _ 18 [.inr (.inr (.inl (-2))), .inr (.inr (.inl 0)), .inr (.inr (.inl 176)), .inl (jw32 (x3 + 6))] [] 229 jr0 g233
          exact ih (jw32 (x3 + 6)) g233 (by omega) li234 sm235 (by omega)
        · replace c6 : jand v4 63 = 11 := c6
          show jGo E l 179 0 229 _ 635 [.inr (.inr (.inl (-2))), .inr (.inr (.inl 0)), .inr (.inr (.inl 176)), .inl x3] [] 229 jr0 g
          refine jGo_blk qL_law_635 ?_
          have e238 : jw32 (x3 + 1) = x3 + 1 := j32e (by omega) (by omega)
          refine st_xi (N := E.2.2.2.2.1) (by decide) (by decide) rfl (show 0 ≤ jw32 (x3 + 1) by omega) (show jw32 (x3 + 1) < ((E.2.2.2.2.1 : Nat) : Int) by omega) (fun v239 ev239 => ?_)
          replace ev239 : v239 = jxv E (-2) (jw32 (x3 + 1)) := ev239
          have e240 : jw32 (x3 + 2) = x3 + 2 := j32e (by omega) (by omega)
          refine st_xi (N := E.2.2.2.2.1) (by decide) (by decide) rfl (show 0 ≤ jw32 (x3 + 2) by omega) (show jw32 (x3 + 2) < ((E.2.2.2.2.1 : Nat) : Int) by omega) (fun v241 ev241 => ?_)
          replace ev241 : v241 = jxv E (-2) (jw32 (x3 + 2)) := ev241
          have e242 : jw32 (x3 + 3) = x3 + 3 := j32e (by omega) (by omega)
          refine st_xi (N := E.2.2.2.2.1) (by decide) (by decide) rfl (show 0 ≤ jw32 (x3 + 3) by omega) (show jw32 (x3 + 3) < ((E.2.2.2.2.1 : Nat) : Int) by omega) (fun v243 ev243 => ?_)
          replace ev243 : v243 = jxv E (-2) (jw32 (x3 + 3)) := ev243
          have e244 : jw32 (x3 + 4) = x3 + 4 := j32e (by omega) (by omega)
          refine st_xi (N := E.2.2.2.2.1) (by decide) (by decide) rfl (show 0 ≤ jw32 (x3 + 4) by omega) (show jw32 (x3 + 4) < ((E.2.2.2.2.1 : Nat) : Int) by omega) (fun v245 ev245 => ?_)
          replace ev245 : v245 = jxv E (-2) (jw32 (x3 + 4)) := ev245
          refine st_cv (na := 4) (st := [.inl v245, .inl v243, .inl v241, .inl v239, .inr (.inr (.inl 0))]) jo_0 rfl rfl rfl (c_X11_needs v239 v241 v243 v245 g) rfl ?_
          rintro _ _ g247 ⟨rfl, ft246, t246, rfl, ht246, zt246⟩ kt246
          replace kt246 : -2147483648 ≤ t246 ∧ t246 ≤ 2147483647 := kt246
          replace ht246 : -7 ≤ t246 ∧ t246 ≤ 500 := ht246
          replace zt246 : P_X11_needs v239 v241 v243 v245 t246 g g247 := zt246
          have li248 : jLI g247 := jLI_fr (ft246 176 0 (by unfold w_X11_needs; omega)) (ft246 0 0 (by unfold w_X11_needs; omega)) (fun t => ft246 87 t (by unfold w_X11_needs; omega)) li
          have dli248 : g247 176 0 ≤ 2000 := li248.1
          have e250 : jw32 (x3 + 1) = x3 + 1 := j32e (by omega) (by omega)
          refine st_xi (N := E.2.2.2.2.1) (by decide) (by decide) rfl (show 0 ≤ jw32 (x3 + 1) by omega) (show jw32 (x3 + 1) < ((E.2.2.2.2.1 : Nat) : Int) by omega) (fun v251 ev251 => ?_)
          replace ev251 : v251 = jxv E (-2) (jw32 (x3 + 1)) := ev251
          have e252 : jw32 (x3 + 2) = x3 + 2 := j32e (by omega) (by omega)
          refine st_xi (N := E.2.2.2.2.1) (by decide) (by decide) rfl (show 0 ≤ jw32 (x3 + 2) by omega) (show jw32 (x3 + 2) < ((E.2.2.2.2.1 : Nat) : Int) by omega) (fun v253 ev253 => ?_)
          replace ev253 : v253 = jxv E (-2) (jw32 (x3 + 2)) := ev253
          have e254 : jw32 (x3 + 3) = x3 + 3 := j32e (by omega) (by omega)
          refine st_xi (N := E.2.2.2.2.1) (by decide) (by decide) rfl (show 0 ≤ jw32 (x3 + 3) by omega) (show jw32 (x3 + 3) < ((E.2.2.2.2.1 : Nat) : Int) by omega) (fun v255 ev255 => ?_)
          replace ev255 : v255 = jxv E (-2) (jw32 (x3 + 3)) := ev255
          have e256 : jw32 (x3 + 4) = x3 + 4 := j32e (by omega) (by omega)
          refine st_xi (N := E.2.2.2.2.1) (by decide) (by decide) rfl (show 0 ≤ jw32 (x3 + 4) by omega) (show jw32 (x3 + 4) < ((E.2.2.2.2.1 : Nat) : Int) by omega) (fun v257 ev257 => ?_)
          replace ev257 : v257 = jxv E (-2) (jw32 (x3 + 4)) := ev257
          refine st_cv (na := 4) (st := [.inl v257, .inl v255, .inl v253, .inl v251, .inr (.inr (.inl 176))]) jo_176 rfl rfl rfl (c_X12_needs v251 v253 v255 v257 g247) rfl ?_
          rintro _ _ g259 ⟨rfl, ft258, t258, rfl, ht258, zt258⟩ kt258
          replace kt258 : -2147483648 ≤ t258 ∧ t258 ≤ 2147483647 := kt258
          replace ht258 : -7 ≤ t258 ∧ t258 ≤ 500 := ht258
          replace zt258 : P_X12_needs v251 v253 v255 v257 t258 g247 g259 := zt258
          have li260 : jLI g259 := jLI_fr (ft258 176 0 (by unfold w_X12_needs; omega)) (ft258 0 0 (by unfold w_X12_needs; omega)) (fun t => ft258 87 t (by unfold w_X12_needs; omega)) li248
          have dli260 : g259 176 0 ≤ 2000 := li260.1
          rw [show v251 = v239 by omega, show v253 = v241 by omega, show v255 = v243 by omega, show v257 = v245 by omega] at zt258
          have qe262 := pr_needs ft246 ft258 zt246 zt258 sm
          have eqe262 := qe262.1
          have sm261 : jI g259 := qe262.2
          clear qe262 zt258
          show jGo E l 179 0 229 _ 1410 [.inr (.inr (.inl (-2))), .inr (.inr (.inl 0)), .inr (.inr (.inl 176)), .inl x3] [] 229 jr0 g259
          refine jGo_blk qL_law_1410 ?_
          have e263 : jw32 (x3 + 6) = x3 + 6 := j32e (by omega) (by omega)
          show jGo E l 179 0 229 _ 18 [.inr (.inr (.inl (-2))), .inr (.inr (.inl 0)), .inr (.inr (.inl 176)), .inl (jw32 (x3 + 6))] [] 229 jr0 g259
          exact ih (jw32 (x3 + 6)) g259 (by omega) li260 sm261 (by omega)
        · replace c6 : jand v4 63 = 12 := c6
          show jGo E l 179 0 229 _ 688 [.inr (.inr (.inl (-2))), .inr (.inr (.inl 0)), .inr (.inr (.inl 176)), .inl x3] [] 229 jr0 g
          refine jGo_blk qL_law_688 ?_
          have e264 : jw32 (x3 + 1) = x3 + 1 := j32e (by omega) (by omega)
          refine st_xi (N := E.2.2.2.2.1) (by decide) (by decide) rfl (show 0 ≤ jw32 (x3 + 1) by omega) (show jw32 (x3 + 1) < ((E.2.2.2.2.1 : Nat) : Int) by omega) (fun v265 ev265 => ?_)
          replace ev265 : v265 = jxv E (-2) (jw32 (x3 + 1)) := ev265
          have e266 : jw32 (x3 + 2) = x3 + 2 := j32e (by omega) (by omega)
          refine st_xi (N := E.2.2.2.2.1) (by decide) (by decide) rfl (show 0 ≤ jw32 (x3 + 2) by omega) (show jw32 (x3 + 2) < ((E.2.2.2.2.1 : Nat) : Int) by omega) (fun v267 ev267 => ?_)
          replace ev267 : v267 = jxv E (-2) (jw32 (x3 + 2)) := ev267
          have e268 : jw32 (x3 + 3) = x3 + 3 := j32e (by omega) (by omega)
          refine st_xi (N := E.2.2.2.2.1) (by decide) (by decide) rfl (show 0 ≤ jw32 (x3 + 3) by omega) (show jw32 (x3 + 3) < ((E.2.2.2.2.1 : Nat) : Int) by omega) (fun v269 ev269 => ?_)
          replace ev269 : v269 = jxv E (-2) (jw32 (x3 + 3)) := ev269
          refine st_cv (na := 3) (st := [.inl v269, .inl v267, .inl v265, .inr (.inr (.inl 0))]) jo_0 rfl rfl rfl (c_X11_hull v265 v267 v269 g) rfl ?_
          rintro _ _ g271 ⟨rfl, ft270, t270, rfl, ht270, zt270⟩ kt270
          replace kt270 : -2147483648 ≤ t270 ∧ t270 ≤ 2147483647 := kt270
          replace ht270 : -7 ≤ t270 ∧ t270 ≤ 15 := ht270
          replace zt270 : P_X11_hull v265 v267 v269 t270 g g271 := zt270
          have li272 : jLI g271 := jLI_fr (ft270 176 0 (by unfold w_X11_hull; omega)) (ft270 0 0 (by unfold w_X11_hull; omega)) (fun t => ft270 87 t (by unfold w_X11_hull; omega)) li
          have dli272 : g271 176 0 ≤ 2000 := li272.1
          have e274 : jw32 (x3 + 1) = x3 + 1 := j32e (by omega) (by omega)
          refine st_xi (N := E.2.2.2.2.1) (by decide) (by decide) rfl (show 0 ≤ jw32 (x3 + 1) by omega) (show jw32 (x3 + 1) < ((E.2.2.2.2.1 : Nat) : Int) by omega) (fun v275 ev275 => ?_)
          replace ev275 : v275 = jxv E (-2) (jw32 (x3 + 1)) := ev275
          have e276 : jw32 (x3 + 2) = x3 + 2 := j32e (by omega) (by omega)
          refine st_xi (N := E.2.2.2.2.1) (by decide) (by decide) rfl (show 0 ≤ jw32 (x3 + 2) by omega) (show jw32 (x3 + 2) < ((E.2.2.2.2.1 : Nat) : Int) by omega) (fun v277 ev277 => ?_)
          replace ev277 : v277 = jxv E (-2) (jw32 (x3 + 2)) := ev277
          have e278 : jw32 (x3 + 3) = x3 + 3 := j32e (by omega) (by omega)
          refine st_xi (N := E.2.2.2.2.1) (by decide) (by decide) rfl (show 0 ≤ jw32 (x3 + 3) by omega) (show jw32 (x3 + 3) < ((E.2.2.2.2.1 : Nat) : Int) by omega) (fun v279 ev279 => ?_)
          replace ev279 : v279 = jxv E (-2) (jw32 (x3 + 3)) := ev279
          refine st_cv (na := 3) (st := [.inl v279, .inl v277, .inl v275, .inr (.inr (.inl 176))]) jo_176 rfl rfl rfl (c_X12_hull v275 v277 v279 g271) rfl ?_
          rintro _ _ g281 ⟨rfl, ft280, t280, rfl, ht280, zt280⟩ kt280
          replace kt280 : -2147483648 ≤ t280 ∧ t280 ≤ 2147483647 := kt280
          replace ht280 : -7 ≤ t280 ∧ t280 ≤ 15 := ht280
          replace zt280 : P_X12_hull v275 v277 v279 t280 g271 g281 := zt280
          have li282 : jLI g281 := jLI_fr (ft280 176 0 (by unfold w_X12_hull; omega)) (ft280 0 0 (by unfold w_X12_hull; omega)) (fun t => ft280 87 t (by unfold w_X12_hull; omega)) li272
          have dli282 : g281 176 0 ≤ 2000 := li282.1
          rw [show v275 = v265 by omega, show v277 = v267 by omega, show v279 = v269 by omega] at zt280
          have qe284 := pr_hull ft270 ft280 zt270 zt280 sm ((jbf_10_4 jo_29 _).1 (hbd9 29 4)).1
          have eqe284 := qe284.1
          have sm283 : jI g281 := qe284.2
          clear qe284 zt280
          show jGo E l 179 0 229 _ 1410 [.inr (.inr (.inl (-2))), .inr (.inr (.inl 0)), .inr (.inr (.inl 176)), .inl x3] [] 229 jr0 g281
          refine jGo_blk qL_law_1410 ?_
          have e285 : jw32 (x3 + 6) = x3 + 6 := j32e (by omega) (by omega)
          show jGo E l 179 0 229 _ 18 [.inr (.inr (.inl (-2))), .inr (.inr (.inl 0)), .inr (.inr (.inl 176)), .inl (jw32 (x3 + 6))] [] 229 jr0 g281
          exact ih (jw32 (x3 + 6)) g281 (by omega) li282 sm283 (by omega)
        · replace c6 : jand v4 63 = 13 := c6
          show jGo E l 179 0 229 _ 731 [.inr (.inr (.inl (-2))), .inr (.inr (.inl 0)), .inr (.inr (.inl 176)), .inl x3] [] 229 jr0 g
          refine jGo_blk qL_law_731 ?_
          have e286 : jw32 (x3 + 1) = x3 + 1 := j32e (by omega) (by omega)
          refine st_xi (N := E.2.2.2.2.1) (by decide) (by decide) rfl (show 0 ≤ jw32 (x3 + 1) by omega) (show jw32 (x3 + 1) < ((E.2.2.2.2.1 : Nat) : Int) by omega) (fun v287 ev287 => ?_)
          replace ev287 : v287 = jxv E (-2) (jw32 (x3 + 1)) := ev287
          have e288 : jw32 (x3 + 2) = x3 + 2 := j32e (by omega) (by omega)
          refine st_xi (N := E.2.2.2.2.1) (by decide) (by decide) rfl (show 0 ≤ jw32 (x3 + 2) by omega) (show jw32 (x3 + 2) < ((E.2.2.2.2.1 : Nat) : Int) by omega) (fun v289 ev289 => ?_)
          replace ev289 : v289 = jxv E (-2) (jw32 (x3 + 2)) := ev289
          refine st_cv (na := 2) (st := [.inl v289, .inl v287, .inr (.inr (.inl 0))]) jo_0 rfl rfl rfl (c_X11_priority v287 v289 g) rfl ?_
          rintro _ _ g291 ⟨rfl, ft290, t290, rfl, ht290, zt290⟩ kt290
          replace kt290 : -2147483648 ≤ t290 ∧ t290 ≤ 2147483647 := kt290
          replace ht290 : -7 ≤ t290 ∧ t290 ≤ 99 := ht290
          replace zt290 : P_X11_priority v287 v289 t290 g g291 := zt290
          have li292 : jLI g291 := jLI_fr (ft290 176 0 (by unfold w_X11_priority; omega)) (ft290 0 0 (by unfold w_X11_priority; omega)) (fun t => ft290 87 t (by unfold w_X11_priority; omega)) li
          have dli292 : g291 176 0 ≤ 2000 := li292.1
          have e294 : jw32 (x3 + 1) = x3 + 1 := j32e (by omega) (by omega)
          refine st_xi (N := E.2.2.2.2.1) (by decide) (by decide) rfl (show 0 ≤ jw32 (x3 + 1) by omega) (show jw32 (x3 + 1) < ((E.2.2.2.2.1 : Nat) : Int) by omega) (fun v295 ev295 => ?_)
          replace ev295 : v295 = jxv E (-2) (jw32 (x3 + 1)) := ev295
          have e296 : jw32 (x3 + 2) = x3 + 2 := j32e (by omega) (by omega)
          refine st_xi (N := E.2.2.2.2.1) (by decide) (by decide) rfl (show 0 ≤ jw32 (x3 + 2) by omega) (show jw32 (x3 + 2) < ((E.2.2.2.2.1 : Nat) : Int) by omega) (fun v297 ev297 => ?_)
          replace ev297 : v297 = jxv E (-2) (jw32 (x3 + 2)) := ev297
          refine st_cv (na := 2) (st := [.inl v297, .inl v295, .inr (.inr (.inl 176))]) jo_176 rfl rfl rfl (c_X12_priority v295 v297 g291) rfl ?_
          rintro _ _ g299 ⟨rfl, ft298, t298, rfl, ht298, zt298⟩ kt298
          replace kt298 : -2147483648 ≤ t298 ∧ t298 ≤ 2147483647 := kt298
          replace ht298 : -7 ≤ t298 ∧ t298 ≤ 99 := ht298
          replace zt298 : P_X12_priority v295 v297 t298 g291 g299 := zt298
          have li300 : jLI g299 := jLI_fr (ft298 176 0 (by unfold w_X12_priority; omega)) (ft298 0 0 (by unfold w_X12_priority; omega)) (fun t => ft298 87 t (by unfold w_X12_priority; omega)) li292
          have dli300 : g299 176 0 ≤ 2000 := li300.1
          rw [show v295 = v287 by omega, show v297 = v289 by omega] at zt298
          have qe302 := pr_priority ft290 ft298 zt290 zt298 sm (fun k => ((jba_192 k _).1 (hbd9 192 k)).1) ((jbf_10_4 jo_29 _).1 (hbd9 29 4)).2
          have eqe302 := qe302.1
          have sm301 : jI g299 := qe302.2
          clear qe302 zt298
          show jGo E l 179 0 229 _ 1410 [.inr (.inr (.inl (-2))), .inr (.inr (.inl 0)), .inr (.inr (.inl 176)), .inl x3] [] 229 jr0 g299
          refine jGo_blk qL_law_1410 ?_
          have e303 : jw32 (x3 + 6) = x3 + 6 := j32e (by omega) (by omega)
          show jGo E l 179 0 229 _ 18 [.inr (.inr (.inl (-2))), .inr (.inr (.inl 0)), .inr (.inr (.inl 176)), .inl (jw32 (x3 + 6))] [] 229 jr0 g299
          exact ih (jw32 (x3 + 6)) g299 (by omega) li300 sm301 (by omega)
        · replace c6 : jand v4 63 = 14 := c6
          show jGo E l 179 0 229 _ 764 [.inr (.inr (.inl (-2))), .inr (.inr (.inl 0)), .inr (.inr (.inl 176)), .inl x3] [] 229 jr0 g
          refine jGo_blk qL_law_764 ?_
          have e304 : jw32 (x3 + 1) = x3 + 1 := j32e (by omega) (by omega)
          refine st_xi (N := E.2.2.2.2.1) (by decide) (by decide) rfl (show 0 ≤ jw32 (x3 + 1) by omega) (show jw32 (x3 + 1) < ((E.2.2.2.2.1 : Nat) : Int) by omega) (fun v305 ev305 => ?_)
          replace ev305 : v305 = jxv E (-2) (jw32 (x3 + 1)) := ev305
          have e306 : jw32 (x3 + 2) = x3 + 2 := j32e (by omega) (by omega)
          refine st_xi (N := E.2.2.2.2.1) (by decide) (by decide) rfl (show 0 ≤ jw32 (x3 + 2) by omega) (show jw32 (x3 + 2) < ((E.2.2.2.2.1 : Nat) : Int) by omega) (fun v307 ev307 => ?_)
          replace ev307 : v307 = jxv E (-2) (jw32 (x3 + 2)) := ev307
          refine st_cv (na := 2) (st := [.inl v307, .inl v305, .inr (.inr (.inl 0))]) jo_0 rfl rfl rfl (c_X11_raft v305 v307 g) rfl ?_
          rintro _ _ g309 ⟨rfl, ft308, t308, rfl, ht308, zt308⟩ kt308
          replace kt308 : -2147483648 ≤ t308 ∧ t308 ≤ 2147483647 := kt308
          replace ht308 : -7 ≤ t308 ∧ t308 ≤ 1 := ht308
          replace zt308 : P_X11_raft v305 v307 t308 g g309 := zt308
          have li310 : jLI g309 := jLI_fr (ft308 176 0 (by unfold w_X11_raft; omega)) (ft308 0 0 (by unfold w_X11_raft; omega)) (fun t => ft308 87 t (by unfold w_X11_raft; omega)) li
          have dli310 : g309 176 0 ≤ 2000 := li310.1
          have e312 : jw32 (x3 + 1) = x3 + 1 := j32e (by omega) (by omega)
          refine st_xi (N := E.2.2.2.2.1) (by decide) (by decide) rfl (show 0 ≤ jw32 (x3 + 1) by omega) (show jw32 (x3 + 1) < ((E.2.2.2.2.1 : Nat) : Int) by omega) (fun v313 ev313 => ?_)
          replace ev313 : v313 = jxv E (-2) (jw32 (x3 + 1)) := ev313
          have e314 : jw32 (x3 + 2) = x3 + 2 := j32e (by omega) (by omega)
          refine st_xi (N := E.2.2.2.2.1) (by decide) (by decide) rfl (show 0 ≤ jw32 (x3 + 2) by omega) (show jw32 (x3 + 2) < ((E.2.2.2.2.1 : Nat) : Int) by omega) (fun v315 ev315 => ?_)
          replace ev315 : v315 = jxv E (-2) (jw32 (x3 + 2)) := ev315
          refine st_cv (na := 2) (st := [.inl v315, .inl v313, .inr (.inr (.inl 176))]) jo_176 rfl rfl rfl (c_X12_raft v313 v315 g309) rfl ?_
          rintro _ _ g317 ⟨rfl, ft316, t316, rfl, ht316, zt316⟩ kt316
          replace kt316 : -2147483648 ≤ t316 ∧ t316 ≤ 2147483647 := kt316
          replace ht316 : -7 ≤ t316 ∧ t316 ≤ 1 := ht316
          replace zt316 : P_X12_raft v313 v315 t316 g309 g317 := zt316
          have li318 : jLI g317 := jLI_fr (ft316 176 0 (by unfold w_X12_raft; omega)) (ft316 0 0 (by unfold w_X12_raft; omega)) (fun t => ft316 87 t (by unfold w_X12_raft; omega)) li310
          have dli318 : g317 176 0 ≤ 2000 := li318.1
          rw [show v313 = v305 by omega, show v315 = v307 by omega] at zt316
          have qe320 := pr_raft ft308 ft316 zt308 zt316 sm
          have eqe320 := qe320.1
          have sm319 : jI g317 := qe320.2
          clear qe320 zt316
          show jGo E l 179 0 229 _ 1410 [.inr (.inr (.inl (-2))), .inr (.inr (.inl 0)), .inr (.inr (.inl 176)), .inl x3] [] 229 jr0 g317
          refine jGo_blk qL_law_1410 ?_
          have e321 : jw32 (x3 + 6) = x3 + 6 := j32e (by omega) (by omega)
          show jGo E l 179 0 229 _ 18 [.inr (.inr (.inl (-2))), .inr (.inr (.inl 0)), .inr (.inr (.inl 176)), .inl (jw32 (x3 + 6))] [] 229 jr0 g317
          exact ih (jw32 (x3 + 6)) g317 (by omega) li318 sm319 (by omega)
        · replace c6 : jand v4 63 = 15 := c6
          show jGo E l 179 0 229 _ 797 [.inr (.inr (.inl (-2))), .inr (.inr (.inl 0)), .inr (.inr (.inl 176)), .inl x3] [] 229 jr0 g
          refine jGo_blk qL_law_797 ?_
          have e322 : jw32 (x3 + 1) = x3 + 1 := j32e (by omega) (by omega)
          refine st_xi (N := E.2.2.2.2.1) (by decide) (by decide) rfl (show 0 ≤ jw32 (x3 + 1) by omega) (show jw32 (x3 + 1) < ((E.2.2.2.2.1 : Nat) : Int) by omega) (fun v323 ev323 => ?_)
          replace ev323 : v323 = jxv E (-2) (jw32 (x3 + 1)) := ev323
          refine st_cv (na := 1) (st := [.inl v323, .inr (.inr (.inl 0))]) jo_0 rfl rfl rfl (c_X11_unraft v323 g) rfl ?_
          rintro _ _ g325 ⟨rfl, ft324, t324, rfl, ht324, zt324⟩ kt324
          replace kt324 : -2147483648 ≤ t324 ∧ t324 ≤ 2147483647 := kt324
          replace zt324 : P_X11_unraft v323 t324 g g325 := zt324
          have li326 : jLI g325 := jLI_fr (ft324 176 0 (by unfold w_X11_unraft; omega)) (ft324 0 0 (by unfold w_X11_unraft; omega)) (fun t => ft324 87 t (by unfold w_X11_unraft; omega)) li
          have dli326 : g325 176 0 ≤ 2000 := li326.1
          have e328 : jw32 (x3 + 1) = x3 + 1 := j32e (by omega) (by omega)
          refine st_xi (N := E.2.2.2.2.1) (by decide) (by decide) rfl (show 0 ≤ jw32 (x3 + 1) by omega) (show jw32 (x3 + 1) < ((E.2.2.2.2.1 : Nat) : Int) by omega) (fun v329 ev329 => ?_)
          replace ev329 : v329 = jxv E (-2) (jw32 (x3 + 1)) := ev329
          refine st_cv (na := 1) (st := [.inl v329, .inr (.inr (.inl 176))]) jo_176 rfl rfl rfl (c_X12_unraft v329 g325) rfl ?_
          rintro _ _ g331 ⟨rfl, ft330, t330, rfl, ht330, zt330⟩ kt330
          replace kt330 : -2147483648 ≤ t330 ∧ t330 ≤ 2147483647 := kt330
          replace zt330 : P_X12_unraft v329 t330 g325 g331 := zt330
          have li332 : jLI g331 := jLI_fr (ft330 176 0 (by unfold w_X12_unraft; omega)) (ft330 0 0 (by unfold w_X12_unraft; omega)) (fun t => ft330 87 t (by unfold w_X12_unraft; omega)) li326
          have dli332 : g331 176 0 ≤ 2000 := li332.1
          rw [show v329 = v323 by omega] at zt330
          have qe334 := pr_unraft ft324 ft330 zt324 zt330 sm
          have eqe334 := qe334.1
          have sm333 : jI g331 := qe334.2
          clear qe334 zt330
          show jGo E l 179 0 229 _ 1410 [.inr (.inr (.inl (-2))), .inr (.inr (.inl 0)), .inr (.inr (.inl 176)), .inl x3] [] 229 jr0 g331
          refine jGo_blk qL_law_1410 ?_
          have e335 : jw32 (x3 + 6) = x3 + 6 := j32e (by omega) (by omega)
          show jGo E l 179 0 229 _ 18 [.inr (.inr (.inl (-2))), .inr (.inr (.inl 0)), .inr (.inr (.inl 176)), .inl (jw32 (x3 + 6))] [] 229 jr0 g331
          exact ih (jw32 (x3 + 6)) g331 (by omega) li332 sm333 (by omega)
        · replace c6 : jand v4 63 = 16 := c6
          show jGo E l 179 0 229 _ 820 [.inr (.inr (.inl (-2))), .inr (.inr (.inl 0)), .inr (.inr (.inl 176)), .inl x3] [] 229 jr0 g
          refine jGo_blk qL_law_820 ?_
          have e336 : jw32 (x3 + 1) = x3 + 1 := j32e (by omega) (by omega)
          refine st_xi (N := E.2.2.2.2.1) (by decide) (by decide) rfl (show 0 ≤ jw32 (x3 + 1) by omega) (show jw32 (x3 + 1) < ((E.2.2.2.2.1 : Nat) : Int) by omega) (fun v337 ev337 => ?_)
          replace ev337 : v337 = jxv E (-2) (jw32 (x3 + 1)) := ev337
          refine st_cv (na := 1) (st := [.inl v337, .inr (.inr (.inl 0))]) jo_0 rfl rfl rfl (c_X11_days v337 g li.2) rfl ?_
          rintro _ _ g339 ⟨rfl, ft338, t338, rfl, ht338, zt338⟩ kt338
          replace kt338 : -2147483648 ≤ t338 ∧ t338 ≤ 2147483647 := kt338
          replace zt338 : ((jLG 0 g339 ∧ P_X11_days v337 g g339) ∧ (((v337 < 0 ∨ 2000 - g 0 0 < v337) ∧ ∀ i k : Int, ¬ i = 1 → g339 i k = g i k) ∨ (0 ≤ v337 ∧ v337 ≤ 2000 - g 0 0 ∧ ∀ (fl : Prop) (hm : JH), jDR fl g hm → jDR fl g339 (jit jmDy (v337).toNat hm) ∧ jRft hm (jit jmDy (v337).toNat hm)))) ∧ ∀ i : Int, 36 ≤ i → i ≤ 83 → g339 i 10 = g i 10 := zt338
          have li340 : jLI g339 := ⟨by rw [(ft338 176 0 (by unfold w_X11_days; omega))]; exact li.1, zt338.1.1.1⟩
          have dli340 : g339 176 0 ≤ 2000 := li340.1
          have e342 : jw32 (x3 + 1) = x3 + 1 := j32e (by omega) (by omega)
          refine st_xi (N := E.2.2.2.2.1) (by decide) (by decide) rfl (show 0 ≤ jw32 (x3 + 1) by omega) (show jw32 (x3 + 1) < ((E.2.2.2.2.1 : Nat) : Int) by omega) (fun v343 ev343 => ?_)
          replace ev343 : v343 = jxv E (-2) (jw32 (x3 + 1)) := ev343
          have e344 : g339 176 0 = g 176 0 := ft338 176 0 (by unfold w_X11_days; omega)
          refine st_cv (na := 1) (st := [.inl v343, .inr (.inr (.inl 176))]) jo_176 rfl rfl rfl (c_X12_days v343 g339 (by omega)) rfl ?_
          rintro _ _ g346 ⟨rfl, ft345, t345, rfl, ht345, zt345⟩ kt345
          replace kt345 : -2147483648 ≤ t345 ∧ t345 ≤ 2147483647 := kt345
          replace zt345 : ((g346 176 0 ≤ 2000 ∧ P_X12_days v343 g339 g346) ∧ (((v343 < 1 ∨ 2000 - g339 176 0 < v343) ∧ ∀ i k : Int, ¬ i = 219 → g346 i k = g339 i k) ∨ (1 ≤ v343 ∧ v343 ≤ 2000 - g339 176 0 ∧ g346 = jit jmDy (v343).toNat g339))) ∧ (jG9 g339 → jG9 g346) := zt345
          have li347 : jLI g346 := ⟨zt345.1.1.1, jLG_fr (ft345 0 0 (by unfold w_X12_days; omega)) (fun t => ft345 87 t (by unfold w_X12_days; omega)) li340.2⟩
          have dli347 : g346 176 0 ≤ 2000 := li347.1
          have zd349 := zt345.1.1.2
          have zd350 := zt345.1.2
          rw [show v343 = v337 by omega] at zd349 zd350
          have sm348 : jI g346 := pr_days ft338 ft345 zt338.1.1.2 zt338.1.2 zd349 zd350 sm hbd9 zt338.2 zt345.2
          show jGo E l 179 0 229 _ 1410 [.inr (.inr (.inl (-2))), .inr (.inr (.inl 0)), .inr (.inr (.inl 176)), .inl x3] [] 229 jr0 g346
          refine jGo_blk qL_law_1410 ?_
          have e351 : jw32 (x3 + 6) = x3 + 6 := j32e (by omega) (by omega)
          show jGo E l 179 0 229 _ 18 [.inr (.inr (.inl (-2))), .inr (.inr (.inl 0)), .inr (.inr (.inl 176)), .inl (jw32 (x3 + 6))] [] 229 jr0 g346
          exact ih (jw32 (x3 + 6)) g346 (by omega) li347 sm348 (by omega)
        · replace c6 : jand v4 63 = 17 := c6
          show jGo E l 179 0 229 _ 843 [.inr (.inr (.inl (-2))), .inr (.inr (.inl 0)), .inr (.inr (.inl 176)), .inl x3] [] 229 jr0 g
          refine jGo_blk qL_law_843 ?_
          have e352 : jw32 (x3 + 1) = x3 + 1 := j32e (by omega) (by omega)
          refine st_xi (N := E.2.2.2.2.1) (by decide) (by decide) rfl (show 0 ≤ jw32 (x3 + 1) by omega) (show jw32 (x3 + 1) < ((E.2.2.2.2.1 : Nat) : Int) by omega) (fun v353 ev353 => ?_)
          replace ev353 : v353 = jxv E (-2) (jw32 (x3 + 1)) := ev353
          refine st_cv (na := 1) (st := [.inl v353, .inr (.inr (.inl 0))]) jo_0 rfl rfl rfl (c_X11_breakUp v353 g) rfl ?_
          rintro _ _ g355 ⟨rfl, ft354, t354, rfl, ht354, zt354⟩ kt354
          replace kt354 : -2147483648 ≤ t354 ∧ t354 ≤ 2147483647 := kt354
          replace zt354 : P_X11_breakUp v353 t354 g g355 := zt354
          have li356 : jLI g355 := jLI_fr (ft354 176 0 (by unfold w_X11_breakUp; omega)) (ft354 0 0 (by unfold w_X11_breakUp; omega)) (fun t => ft354 87 t (by unfold w_X11_breakUp; omega)) li
          have dli356 : g355 176 0 ≤ 2000 := li356.1
          have e358 : jw32 (x3 + 1) = x3 + 1 := j32e (by omega) (by omega)
          refine st_xi (N := E.2.2.2.2.1) (by decide) (by decide) rfl (show 0 ≤ jw32 (x3 + 1) by omega) (show jw32 (x3 + 1) < ((E.2.2.2.2.1 : Nat) : Int) by omega) (fun v359 ev359 => ?_)
          replace ev359 : v359 = jxv E (-2) (jw32 (x3 + 1)) := ev359
          refine st_cv (na := 1) (st := [.inl v359, .inr (.inr (.inl 176))]) jo_176 rfl rfl rfl (c_X12_breakUp v359 g355) rfl ?_
          rintro _ _ g361 ⟨rfl, ft360, t360, rfl, ht360, zt360⟩ kt360
          replace kt360 : -2147483648 ≤ t360 ∧ t360 ≤ 2147483647 := kt360
          replace zt360 : P_X12_breakUp v359 t360 g355 g361 := zt360
          have li362 : jLI g361 := jLI_fr (ft360 176 0 (by unfold w_X12_breakUp; omega)) (ft360 0 0 (by unfold w_X12_breakUp; omega)) (fun t => ft360 87 t (by unfold w_X12_breakUp; omega)) li356
          have dli362 : g361 176 0 ≤ 2000 := li362.1
          rw [show v359 = v353 by omega] at zt360
          have qe364 := pr_breakUp ft354 ft360 zt354 zt360 sm ((jbf_10_4 jo_29 _).1 (hbd9 29 4)).2
          have eqe364 := qe364.1
          have sm363 : jI g361 := qe364.2
          clear qe364 zt360
          show jGo E l 179 0 229 _ 1410 [.inr (.inr (.inl (-2))), .inr (.inr (.inl 0)), .inr (.inr (.inl 176)), .inl x3] [] 229 jr0 g361
          refine jGo_blk qL_law_1410 ?_
          have e365 : jw32 (x3 + 6) = x3 + 6 := j32e (by omega) (by omega)
          show jGo E l 179 0 229 _ 18 [.inr (.inr (.inl (-2))), .inr (.inr (.inl 0)), .inr (.inr (.inl 176)), .inl (jw32 (x3 + 6))] [] 229 jr0 g361
          exact ih (jw32 (x3 + 6)) g361 (by omega) li362 sm363 (by omega)
        · replace c6 : jand v4 63 = 18 := c6
          show jGo E l 179 0 229 _ 866 [.inr (.inr (.inl (-2))), .inr (.inr (.inl 0)), .inr (.inr (.inl 176)), .inl x3] [] 229 jr0 g
          refine jGo_blk qL_law_866 ?_
          have e366 : jw32 (x3 + 1) = x3 + 1 := j32e (by omega) (by omega)
          refine st_xi (N := E.2.2.2.2.1) (by decide) (by decide) rfl (show 0 ≤ jw32 (x3 + 1) by omega) (show jw32 (x3 + 1) < ((E.2.2.2.2.1 : Nat) : Int) by omega) (fun v367 ev367 => ?_)
          replace ev367 : v367 = jxv E (-2) (jw32 (x3 + 1)) := ev367
          have e368 : jw32 (x3 + 2) = x3 + 2 := j32e (by omega) (by omega)
          refine st_xi (N := E.2.2.2.2.1) (by decide) (by decide) rfl (show 0 ≤ jw32 (x3 + 2) by omega) (show jw32 (x3 + 2) < ((E.2.2.2.2.1 : Nat) : Int) by omega) (fun v369 ev369 => ?_)
          replace ev369 : v369 = jxv E (-2) (jw32 (x3 + 2)) := ev369
          refine st_cv (na := 2) (st := [.inl v369, .inl v367, .inr (.inr (.inl 0))]) jo_0 rfl rfl rfl (c_X11_growth v367 v369 g) rfl ?_
          rintro _ _ g371 ⟨rfl, ft370, t370, rfl, ht370, zt370⟩ kt370
          replace kt370 : -2147483648 ≤ t370 ∧ t370 ≤ 2147483647 := kt370
          replace ht370 : -7 ≤ t370 ∧ t370 ≤ 9 := ht370
          replace zt370 : P_X11_growth v367 v369 t370 g g371 := zt370
          have li372 : jLI g371 := jLI_fr (ft370 176 0 (by unfold w_X11_growth; omega)) (ft370 0 0 (by unfold w_X11_growth; omega)) (fun t => ft370 87 t (by unfold w_X11_growth; omega)) li
          have dli372 : g371 176 0 ≤ 2000 := li372.1
          have e374 : jw32 (x3 + 1) = x3 + 1 := j32e (by omega) (by omega)
          refine st_xi (N := E.2.2.2.2.1) (by decide) (by decide) rfl (show 0 ≤ jw32 (x3 + 1) by omega) (show jw32 (x3 + 1) < ((E.2.2.2.2.1 : Nat) : Int) by omega) (fun v375 ev375 => ?_)
          replace ev375 : v375 = jxv E (-2) (jw32 (x3 + 1)) := ev375
          have e376 : jw32 (x3 + 2) = x3 + 2 := j32e (by omega) (by omega)
          refine st_xi (N := E.2.2.2.2.1) (by decide) (by decide) rfl (show 0 ≤ jw32 (x3 + 2) by omega) (show jw32 (x3 + 2) < ((E.2.2.2.2.1 : Nat) : Int) by omega) (fun v377 ev377 => ?_)
          replace ev377 : v377 = jxv E (-2) (jw32 (x3 + 2)) := ev377
          refine st_cv (na := 2) (st := [.inl v377, .inl v375, .inr (.inr (.inl 176))]) jo_176 rfl rfl rfl (c_X12_growth v375 v377 g371) rfl ?_
          rintro _ _ g379 ⟨rfl, ft378, t378, rfl, ht378, zt378⟩ kt378
          replace kt378 : -2147483648 ≤ t378 ∧ t378 ≤ 2147483647 := kt378
          replace ht378 : -7 ≤ t378 ∧ t378 ≤ 9 := ht378
          replace zt378 : P_X12_growth v375 v377 t378 g371 g379 := zt378
          have li380 : jLI g379 := jLI_fr (ft378 176 0 (by unfold w_X12_growth; omega)) (ft378 0 0 (by unfold w_X12_growth; omega)) (fun t => ft378 87 t (by unfold w_X12_growth; omega)) li372
          have dli380 : g379 176 0 ≤ 2000 := li380.1
          rw [show v375 = v367 by omega, show v377 = v369 by omega] at zt378
          have qe382 := pr_growth ft370 ft378 zt370 zt378 sm
          have eqe382 := qe382.1
          have sm381 : jI g379 := qe382.2
          clear qe382 zt378
          show jGo E l 179 0 229 _ 1410 [.inr (.inr (.inl (-2))), .inr (.inr (.inl 0)), .inr (.inr (.inl 176)), .inl x3] [] 229 jr0 g379
          refine jGo_blk qL_law_1410 ?_
          have e383 : jw32 (x3 + 6) = x3 + 6 := j32e (by omega) (by omega)
          show jGo E l 179 0 229 _ 18 [.inr (.inr (.inl (-2))), .inr (.inr (.inl 0)), .inr (.inr (.inl 176)), .inl (jw32 (x3 + 6))] [] 229 jr0 g379
          exact ih (jw32 (x3 + 6)) g379 (by omega) li380 sm381 (by omega)
        · replace c6 : jand v4 63 = 19 := c6
          show jGo E l 179 0 229 _ 899 [.inr (.inr (.inl (-2))), .inr (.inr (.inl 0)), .inr (.inr (.inl 176)), .inl x3] [] 229 jr0 g
          refine jGo_blk qL_law_899 ?_
          have e384 : jw32 (x3 + 1) = x3 + 1 := j32e (by omega) (by omega)
          refine st_xi (N := E.2.2.2.2.1) (by decide) (by decide) rfl (show 0 ≤ jw32 (x3 + 1) by omega) (show jw32 (x3 + 1) < ((E.2.2.2.2.1 : Nat) : Int) by omega) (fun v385 ev385 => ?_)
          replace ev385 : v385 = jxv E (-2) (jw32 (x3 + 1)) := ev385
          have e386 : jw32 (x3 + 2) = x3 + 2 := j32e (by omega) (by omega)
          refine st_xi (N := E.2.2.2.2.1) (by decide) (by decide) rfl (show 0 ≤ jw32 (x3 + 2) by omega) (show jw32 (x3 + 2) < ((E.2.2.2.2.1 : Nat) : Int) by omega) (fun v387 ev387 => ?_)
          replace ev387 : v387 = jxv E (-2) (jw32 (x3 + 2)) := ev387
          have e388 : jw32 (x3 + 3) = x3 + 3 := j32e (by omega) (by omega)
          refine st_xi (N := E.2.2.2.2.1) (by decide) (by decide) rfl (show 0 ≤ jw32 (x3 + 3) by omega) (show jw32 (x3 + 3) < ((E.2.2.2.2.1 : Nat) : Int) by omega) (fun v389 ev389 => ?_)
          replace ev389 : v389 = jxv E (-2) (jw32 (x3 + 3)) := ev389
          refine st_cv (na := 3) (st := [.inl v389, .inl v387, .inl v385, .inr (.inr (.inl 0))]) jo_0 rfl rfl rfl (c_X11_tree v385 v387 v389 g) rfl ?_
          rintro _ _ g391 ⟨rfl, ft390, t390, rfl, ht390, zt390⟩ kt390
          replace kt390 : -2147483648 ≤ t390 ∧ t390 ≤ 2147483647 := kt390
          replace ht390 : -7 ≤ t390 ∧ t390 ≤ 39 := ht390
          replace zt390 : (∀ t : Int, g391 87 t = g 87 t ∨ (1 ≤ g391 87 t ∧ g391 87 t ≤ 500)) ∧ P_X11_tree v385 v387 v389 t390 g g391 := zt390
          have li392 : jLI g391 := ⟨by rw [(ft390 176 0 (by unfold w_X11_tree; omega))]; exact li.1, jLG_tree (ft390 0 0 (by unfold w_X11_tree; omega)) zt390.1 li.2⟩
          have dli392 : g391 176 0 ≤ 2000 := li392.1
          have e394 : jw32 (x3 + 1) = x3 + 1 := j32e (by omega) (by omega)
          refine st_xi (N := E.2.2.2.2.1) (by decide) (by decide) rfl (show 0 ≤ jw32 (x3 + 1) by omega) (show jw32 (x3 + 1) < ((E.2.2.2.2.1 : Nat) : Int) by omega) (fun v395 ev395 => ?_)
          replace ev395 : v395 = jxv E (-2) (jw32 (x3 + 1)) := ev395
          have e396 : jw32 (x3 + 2) = x3 + 2 := j32e (by omega) (by omega)
          refine st_xi (N := E.2.2.2.2.1) (by decide) (by decide) rfl (show 0 ≤ jw32 (x3 + 2) by omega) (show jw32 (x3 + 2) < ((E.2.2.2.2.1 : Nat) : Int) by omega) (fun v397 ev397 => ?_)
          replace ev397 : v397 = jxv E (-2) (jw32 (x3 + 2)) := ev397
          have e398 : jw32 (x3 + 3) = x3 + 3 := j32e (by omega) (by omega)
          refine st_xi (N := E.2.2.2.2.1) (by decide) (by decide) rfl (show 0 ≤ jw32 (x3 + 3) by omega) (show jw32 (x3 + 3) < ((E.2.2.2.2.1 : Nat) : Int) by omega) (fun v399 ev399 => ?_)
          replace ev399 : v399 = jxv E (-2) (jw32 (x3 + 3)) := ev399
          refine st_cv (na := 3) (st := [.inl v399, .inl v397, .inl v395, .inr (.inr (.inl 176))]) jo_176 rfl rfl rfl (c_X12_tree v395 v397 v399 g391) rfl ?_
          rintro _ _ g401 ⟨rfl, ft400, t400, rfl, ht400, zt400⟩ kt400
          replace kt400 : -2147483648 ≤ t400 ∧ t400 ≤ 2147483647 := kt400
          replace ht400 : -7 ≤ t400 ∧ t400 ≤ 39 := ht400
          replace zt400 : P_X12_tree v395 v397 v399 t400 g391 g401 := zt400
          have li402 : jLI g401 := jLI_fr (ft400 176 0 (by unfold w_X12_tree; omega)) (ft400 0 0 (by unfold w_X12_tree; omega)) (fun t => ft400 87 t (by unfold w_X12_tree; omega)) li392
          have dli402 : g401 176 0 ≤ 2000 := li402.1
          rw [show v395 = v385 by omega, show v397 = v387 by omega, show v399 = v389 by omega] at zt400
          have qe404 := pr_tree ft390 ft400 zt390.2 zt400 sm dd0 ((jbf_3_0 jo_84 _).1 (hbd9 84 0)).1
          have eqe404 := qe404.1
          have sm403 : jI g401 := qe404.2
          clear qe404 zt400
          show jGo E l 179 0 229 _ 1410 [.inr (.inr (.inl (-2))), .inr (.inr (.inl 0)), .inr (.inr (.inl 176)), .inl x3] [] 229 jr0 g401
          refine jGo_blk qL_law_1410 ?_
          have e405 : jw32 (x3 + 6) = x3 + 6 := j32e (by omega) (by omega)
          show jGo E l 179 0 229 _ 18 [.inr (.inr (.inl (-2))), .inr (.inr (.inl 0)), .inr (.inr (.inl 176)), .inl (jw32 (x3 + 6))] [] 229 jr0 g401
          exact ih (jw32 (x3 + 6)) g401 (by omega) li402 sm403 (by omega)
        · replace c6 : jand v4 63 = 20 := c6
          show jGo E l 179 0 229 _ 942 [.inr (.inr (.inl (-2))), .inr (.inr (.inl 0)), .inr (.inr (.inl 176)), .inl x3] [] 229 jr0 g
          refine jGo_blk qL_law_942 ?_
          have e406 : jw32 (x3 + 1) = x3 + 1 := j32e (by omega) (by omega)
          refine st_xi (N := E.2.2.2.2.1) (by decide) (by decide) rfl (show 0 ≤ jw32 (x3 + 1) by omega) (show jw32 (x3 + 1) < ((E.2.2.2.2.1 : Nat) : Int) by omega) (fun v407 ev407 => ?_)
          replace ev407 : v407 = jxv E (-2) (jw32 (x3 + 1)) := ev407
          have e408 : jw32 (x3 + 2) = x3 + 2 := j32e (by omega) (by omega)
          refine st_xi (N := E.2.2.2.2.1) (by decide) (by decide) rfl (show 0 ≤ jw32 (x3 + 2) by omega) (show jw32 (x3 + 2) < ((E.2.2.2.2.1 : Nat) : Int) by omega) (fun v409 ev409 => ?_)
          replace ev409 : v409 = jxv E (-2) (jw32 (x3 + 2)) := ev409
          have e410 : jw32 (x3 + 3) = x3 + 3 := j32e (by omega) (by omega)
          refine st_xi (N := E.2.2.2.2.1) (by decide) (by decide) rfl (show 0 ≤ jw32 (x3 + 3) by omega) (show jw32 (x3 + 3) < ((E.2.2.2.2.1 : Nat) : Int) by omega) (fun v411 ev411 => ?_)
          replace ev411 : v411 = jxv E (-2) (jw32 (x3 + 3)) := ev411
          have e412 : jw32 (x3 + 4) = x3 + 4 := j32e (by omega) (by omega)
          refine st_xi (N := E.2.2.2.2.1) (by decide) (by decide) rfl (show 0 ≤ jw32 (x3 + 4) by omega) (show jw32 (x3 + 4) < ((E.2.2.2.2.1 : Nat) : Int) by omega) (fun v413 ev413 => ?_)
          replace ev413 : v413 = jxv E (-2) (jw32 (x3 + 4)) := ev413
          have e414 : jw32 (x3 + 5) = x3 + 5 := j32e (by omega) (by omega)
          refine st_xi (N := E.2.2.2.2.1) (by decide) (by decide) rfl (show 0 ≤ jw32 (x3 + 5) by omega) (show jw32 (x3 + 5) < ((E.2.2.2.2.1 : Nat) : Int) by omega) (fun v415 ev415 => ?_)
          replace ev415 : v415 = jxv E (-2) (jw32 (x3 + 5)) := ev415
          refine st_cv (na := 5) (st := [.inl v415, .inl v413, .inl v411, .inl v409, .inl v407, .inr (.inr (.inl 0))]) jo_0 rfl rfl rfl (c_X11_part v407 v409 v411 v413 v415 g) rfl ?_
          rintro _ _ g417 ⟨rfl, ft416, t416, rfl, ht416, zt416⟩ kt416
          replace kt416 : -2147483648 ≤ t416 ∧ t416 ≤ 2147483647 := kt416
          replace ht416 : -7 ≤ t416 ∧ t416 ≤ 5 := ht416
          replace zt416 : P_X11_part v407 v409 v411 v413 v415 t416 g g417 := zt416
          have li418 : jLI g417 := jLI_fr (ft416 176 0 (by unfold w_X11_part; omega)) (ft416 0 0 (by unfold w_X11_part; omega)) (fun t => ft416 87 t (by unfold w_X11_part; omega)) li
          have dli418 : g417 176 0 ≤ 2000 := li418.1
          have e420 : jw32 (x3 + 1) = x3 + 1 := j32e (by omega) (by omega)
          refine st_xi (N := E.2.2.2.2.1) (by decide) (by decide) rfl (show 0 ≤ jw32 (x3 + 1) by omega) (show jw32 (x3 + 1) < ((E.2.2.2.2.1 : Nat) : Int) by omega) (fun v421 ev421 => ?_)
          replace ev421 : v421 = jxv E (-2) (jw32 (x3 + 1)) := ev421
          have e422 : jw32 (x3 + 2) = x3 + 2 := j32e (by omega) (by omega)
          refine st_xi (N := E.2.2.2.2.1) (by decide) (by decide) rfl (show 0 ≤ jw32 (x3 + 2) by omega) (show jw32 (x3 + 2) < ((E.2.2.2.2.1 : Nat) : Int) by omega) (fun v423 ev423 => ?_)
          replace ev423 : v423 = jxv E (-2) (jw32 (x3 + 2)) := ev423
          have e424 : jw32 (x3 + 3) = x3 + 3 := j32e (by omega) (by omega)
          refine st_xi (N := E.2.2.2.2.1) (by decide) (by decide) rfl (show 0 ≤ jw32 (x3 + 3) by omega) (show jw32 (x3 + 3) < ((E.2.2.2.2.1 : Nat) : Int) by omega) (fun v425 ev425 => ?_)
          replace ev425 : v425 = jxv E (-2) (jw32 (x3 + 3)) := ev425
          have e426 : jw32 (x3 + 4) = x3 + 4 := j32e (by omega) (by omega)
          refine st_xi (N := E.2.2.2.2.1) (by decide) (by decide) rfl (show 0 ≤ jw32 (x3 + 4) by omega) (show jw32 (x3 + 4) < ((E.2.2.2.2.1 : Nat) : Int) by omega) (fun v427 ev427 => ?_)
          replace ev427 : v427 = jxv E (-2) (jw32 (x3 + 4)) := ev427
          have e428 : jw32 (x3 + 5) = x3 + 5 := j32e (by omega) (by omega)
          refine st_xi (N := E.2.2.2.2.1) (by decide) (by decide) rfl (show 0 ≤ jw32 (x3 + 5) by omega) (show jw32 (x3 + 5) < ((E.2.2.2.2.1 : Nat) : Int) by omega) (fun v429 ev429 => ?_)
          replace ev429 : v429 = jxv E (-2) (jw32 (x3 + 5)) := ev429
          refine st_cv (na := 5) (st := [.inl v429, .inl v427, .inl v425, .inl v423, .inl v421, .inr (.inr (.inl 176))]) jo_176 rfl rfl rfl (c_X12_part v421 v423 v425 v427 v429 g417) rfl ?_
          rintro _ _ g431 ⟨rfl, ft430, t430, rfl, ht430, zt430⟩ kt430
          replace kt430 : -2147483648 ≤ t430 ∧ t430 ≤ 2147483647 := kt430
          replace ht430 : -7 ≤ t430 ∧ t430 ≤ 5 := ht430
          replace zt430 : P_X12_part v421 v423 v425 v427 v429 t430 g417 g431 := zt430
          have li432 : jLI g431 := jLI_fr (ft430 176 0 (by unfold w_X12_part; omega)) (ft430 0 0 (by unfold w_X12_part; omega)) (fun t => ft430 87 t (by unfold w_X12_part; omega)) li418
          have dli432 : g431 176 0 ≤ 2000 := li432.1
          rw [show v421 = v407 by omega, show v423 = v409 by omega, show v425 = v411 by omega, show v427 = v413 by omega, show v429 = v415 by omega] at zt430
          have qe434 := pr_part ft416 ft430 zt416 zt430 sm (fun k => (jba_92 k _).1 (hbd9 92 k))
          have eqe434 := qe434.1
          have sm433 : jI g431 := qe434.2
          clear qe434 zt430
          show jGo E l 179 0 229 _ 1410 [.inr (.inr (.inl (-2))), .inr (.inr (.inl 0)), .inr (.inr (.inl 176)), .inl x3] [] 229 jr0 g431
          refine jGo_blk qL_law_1410 ?_
          have e435 : jw32 (x3 + 6) = x3 + 6 := j32e (by omega) (by omega)
          show jGo E l 179 0 229 _ 18 [.inr (.inr (.inl (-2))), .inr (.inr (.inl 0)), .inr (.inr (.inl 176)), .inl (jw32 (x3 + 6))] [] 229 jr0 g431
          exact ih (jw32 (x3 + 6)) g431 (by omega) li432 sm433 (by omega)
        · replace c6 : jand v4 63 = 21 := c6
          show jGo E l 179 0 229 _ 1005 [.inr (.inr (.inl (-2))), .inr (.inr (.inl 0)), .inr (.inr (.inl 176)), .inl x3] [] 229 jr0 g
          refine jGo_blk qL_law_1005 ?_
          have e436 : jw32 (x3 + 1) = x3 + 1 := j32e (by omega) (by omega)
          refine st_xi (N := E.2.2.2.2.1) (by decide) (by decide) rfl (show 0 ≤ jw32 (x3 + 1) by omega) (show jw32 (x3 + 1) < ((E.2.2.2.2.1 : Nat) : Int) by omega) (fun v437 ev437 => ?_)
          replace ev437 : v437 = jxv E (-2) (jw32 (x3 + 1)) := ev437
          have e438 : jw32 (x3 + 2) = x3 + 2 := j32e (by omega) (by omega)
          refine st_xi (N := E.2.2.2.2.1) (by decide) (by decide) rfl (show 0 ≤ jw32 (x3 + 2) by omega) (show jw32 (x3 + 2) < ((E.2.2.2.2.1 : Nat) : Int) by omega) (fun v439 ev439 => ?_)
          replace ev439 : v439 = jxv E (-2) (jw32 (x3 + 2)) := ev439
          refine st_cv (na := 2) (st := [.inl v439, .inl v437, .inr (.inr (.inl 0))]) jo_0 rfl rfl rfl (c_X11_match v437 v439 g (jLG_ok li.2)) rfl ?_
          rintro _ _ g441 ⟨rfl, ft440, t440, rfl, ht440, zt440⟩ kt440
          replace kt440 : -2147483648 ≤ t440 ∧ t440 ≤ 2147483647 := kt440
          replace zt440 : P_X11_match v437 v439 t440 g := zt440
          have li442 : jLI g441 := jLI_fr (ft440 176 0 (by unfold w_X11_match; omega)) (ft440 0 0 (by unfold w_X11_match; omega)) (fun t => ft440 87 t (by unfold w_X11_match; omega)) li
          have dli442 : g441 176 0 ≤ 2000 := li442.1
          have e444 : jw32 (x3 + 1) = x3 + 1 := j32e (by omega) (by omega)
          refine st_xi (N := E.2.2.2.2.1) (by decide) (by decide) rfl (show 0 ≤ jw32 (x3 + 1) by omega) (show jw32 (x3 + 1) < ((E.2.2.2.2.1 : Nat) : Int) by omega) (fun v445 ev445 => ?_)
          replace ev445 : v445 = jxv E (-2) (jw32 (x3 + 1)) := ev445
          have e446 : jw32 (x3 + 2) = x3 + 2 := j32e (by omega) (by omega)
          refine st_xi (N := E.2.2.2.2.1) (by decide) (by decide) rfl (show 0 ≤ jw32 (x3 + 2) by omega) (show jw32 (x3 + 2) < ((E.2.2.2.2.1 : Nat) : Int) by omega) (fun v447 ev447 => ?_)
          replace ev447 : v447 = jxv E (-2) (jw32 (x3 + 2)) := ev447
          refine st_cv (na := 2) (st := [.inl v447, .inl v445, .inr (.inr (.inl 176)), .inl t440]) jo_176 rfl rfl rfl (c_X12_match v445 v447 g441 (jM7_fr (fun t => ft440 207 t (by unfold w_X11_match; omega)) (jI_7 sm dli))) rfl ?_
          rintro _ _ g449 ⟨rfl, ft448, t448, rfl, ht448, zt448⟩ kt448
          replace kt448 : -2147483648 ≤ t448 ∧ t448 ≤ 2147483647 := kt448
          replace zt448 : P_X12_match v445 v447 t448 g441 := zt448
          have li450 : jLI g449 := jLI_fr (ft448 176 0 (by unfold w_X12_match; omega)) (ft448 0 0 (by unfold w_X12_match; omega)) (fun t => ft448 87 t (by unfold w_X12_match; omega)) li442
          have dli450 : g449 176 0 ≤ 2000 := li450.1
          rw [show v445 = v437 by omega, show v447 = v439 by omega] at zt448
          have qe452 := pr_match ft440 ft448 zt440 zt448 sm ((jbf_3_0 jo_84 _).1 (hbd9 84 0)).2 dli
          have eqe452 := qe452.1
          have sm451 : jI g449 := qe452.2
          clear qe452 zt448
          refine And.intro (fun c453 => ?_) (fun c453 => ?_)
          · replace c453 : t440 = t448 := c453
            show jGo E l 179 0 229 _ 1410 [.inr (.inr (.inl (-2))), .inr (.inr (.inl 0)), .inr (.inr (.inl 176)), .inl x3] [] 229 jr0 g449
            refine jGo_blk qL_law_1410 ?_
            have e454 : jw32 (x3 + 6) = x3 + 6 := j32e (by omega) (by omega)
            show jGo E l 179 0 229 _ 18 [.inr (.inr (.inl (-2))), .inr (.inr (.inl 0)), .inr (.inr (.inl 176)), .inl (jw32 (x3 + 6))] [] 229 jr0 g449
            exact ih (jw32 (x3 + 6)) g449 (by omega) li450 sm451 (by omega)
          · replace c453 : ¬ t440 = t448 := by first | exact c453 | exact Int.not_le.mp c453 | exact Int.not_lt.mp c453 | exact Decidable.not_not.mp c453
            exfalso; omega
        · replace c6 : jand v4 63 = 22 := c6
          show jGo E l 179 0 229 _ 1038 [.inr (.inr (.inl (-2))), .inr (.inr (.inl 0)), .inr (.inr (.inl 176)), .inl x3] [] 229 jr0 g
          refine jGo_blk qL_law_1038 ?_
          have e455 : jw32 (x3 + 1) = x3 + 1 := j32e (by omega) (by omega)
          refine st_xi (N := E.2.2.2.2.1) (by decide) (by decide) rfl (show 0 ≤ jw32 (x3 + 1) by omega) (show jw32 (x3 + 1) < ((E.2.2.2.2.1 : Nat) : Int) by omega) (fun v456 ev456 => ?_)
          replace ev456 : v456 = jxv E (-2) (jw32 (x3 + 1)) := ev456
          refine st_cv (na := 1) (st := [.inl v456, .inr (.inr (.inl 0))]) jo_0 rfl rfl rfl (c_X11_fell v456 g (jLG_ok li.2)) rfl ?_
          rintro _ _ g458 ⟨rfl, ft457, t457, rfl, ht457, zt457⟩ kt457
          replace kt457 : -2147483648 ≤ t457 ∧ t457 ≤ 2147483647 := kt457
          replace zt457 : (∀ i k : Int, 36 ≤ i → i ≤ 83 → ¬ k = 10 → g458 i k = g i k) ∧ P_X11_fell v456 t457 g g458 := zt457
          have li459 : jLI g458 := jLI_fr (ft457 176 0 (by unfold w_X11_fell; omega)) (ft457 0 0 (by unfold w_X11_fell; omega)) (fun t => ft457 87 t (by unfold w_X11_fell; omega)) li
          have dli459 : g458 176 0 ≤ 2000 := li459.1
          have e461 : jw32 (x3 + 1) = x3 + 1 := j32e (by omega) (by omega)
          refine st_xi (N := E.2.2.2.2.1) (by decide) (by decide) rfl (show 0 ≤ jw32 (x3 + 1) by omega) (show jw32 (x3 + 1) < ((E.2.2.2.2.1 : Nat) : Int) by omega) (fun v462 ev462 => ?_)
          replace ev462 : v462 = jxv E (-2) (jw32 (x3 + 1)) := ev462
          refine st_cv (na := 1) (st := [.inl v462, .inr (.inr (.inl 176))]) jo_176 rfl rfl rfl (c_X12_fell v462 g458 (jM7_fr (fun t => ft457 207 t (by unfold w_X11_fell; omega)) (jI_7 sm dli))) rfl ?_
          rintro _ _ g464 ⟨rfl, ft463, t463, rfl, ht463, zt463⟩ kt463
          replace kt463 : -2147483648 ≤ t463 ∧ t463 ≤ 2147483647 := kt463
          replace zt463 : P_X12_fell v462 t463 g458 g464 := zt463
          have li465 : jLI g464 := jLI_fr (ft463 176 0 (by unfold w_X12_fell; omega)) (ft463 0 0 (by unfold w_X12_fell; omega)) (fun t => ft463 87 t (by unfold w_X12_fell; omega)) li459
          have dli465 : g464 176 0 ≤ 2000 := li465.1
          rw [show v462 = v456 by omega] at zt463
          have qe467 := pr_fell ft457 ft463 zt457.1 zt457.2 zt463 sm ((jbf_3_0 jo_84 _).1 (hbd9 84 0)).2 dli (fun k => ((jba_192 k _).1 (hbd9 192 k)).1) ((jbf_10_4 jo_29 _).1 (hbd9 29 4)).2
          have eqe467 := qe467.1
          have sm466 : jI g464 := qe467.2
          clear qe467 zt463
          show jGo E l 179 0 229 _ 1410 [.inr (.inr (.inl (-2))), .inr (.inr (.inl 0)), .inr (.inr (.inl 176)), .inl x3] [] 229 jr0 g464
          refine jGo_blk qL_law_1410 ?_
          have e468 : jw32 (x3 + 6) = x3 + 6 := j32e (by omega) (by omega)
          show jGo E l 179 0 229 _ 18 [.inr (.inr (.inl (-2))), .inr (.inr (.inl 0)), .inr (.inr (.inl 176)), .inl (jw32 (x3 + 6))] [] 229 jr0 g464
          exact ih (jw32 (x3 + 6)) g464 (by omega) li465 sm466 (by omega)
        · replace c6 : jand v4 63 = 23 := c6
          show jGo E l 179 0 229 _ 1061 [.inr (.inr (.inl (-2))), .inr (.inr (.inl 0)), .inr (.inr (.inl 176)), .inl x3] [] 229 jr0 g
          refine jGo_blk qL_law_1061 ?_
          have e469 : jw32 (x3 + 1) = x3 + 1 := j32e (by omega) (by omega)
          refine st_xi (N := E.2.2.2.2.1) (by decide) (by decide) rfl (show 0 ≤ jw32 (x3 + 1) by omega) (show jw32 (x3 + 1) < ((E.2.2.2.2.1 : Nat) : Int) by omega) (fun v470 ev470 => ?_)
          replace ev470 : v470 = jxv E (-2) (jw32 (x3 + 1)) := ev470
          have e471 : jw32 (x3 + 2) = x3 + 2 := j32e (by omega) (by omega)
          refine st_xi (N := E.2.2.2.2.1) (by decide) (by decide) rfl (show 0 ≤ jw32 (x3 + 2) by omega) (show jw32 (x3 + 2) < ((E.2.2.2.2.1 : Nat) : Int) by omega) (fun v472 ev472 => ?_)
          replace ev472 : v472 = jxv E (-2) (jw32 (x3 + 2)) := ev472
          refine st_cv (na := 2) (st := [.inl v472, .inl v470, .inr (.inr (.inl 0))]) jo_0 rfl rfl rfl (c_X11_treeFor v470 v472 g) rfl ?_
          rintro _ _ g474 ⟨rfl, ft473, t473, rfl, ht473, zt473⟩ kt473
          replace kt473 : -2147483648 ≤ t473 ∧ t473 ≤ 2147483647 := kt473
          replace ht473 : -9 ≤ t473 ∧ t473 ≤ 39 := ht473
          replace zt473 : P_X11_treeFor v470 v472 t473 g := zt473
          have li475 : jLI g474 := jLI_fr (ft473 176 0 (by unfold w_X11_treeFor; omega)) (ft473 0 0 (by unfold w_X11_treeFor; omega)) (fun t => ft473 87 t (by unfold w_X11_treeFor; omega)) li
          have dli475 : g474 176 0 ≤ 2000 := li475.1
          have e477 : jw32 (x3 + 1) = x3 + 1 := j32e (by omega) (by omega)
          refine st_xi (N := E.2.2.2.2.1) (by decide) (by decide) rfl (show 0 ≤ jw32 (x3 + 1) by omega) (show jw32 (x3 + 1) < ((E.2.2.2.2.1 : Nat) : Int) by omega) (fun v478 ev478 => ?_)
          replace ev478 : v478 = jxv E (-2) (jw32 (x3 + 1)) := ev478
          have e479 : jw32 (x3 + 2) = x3 + 2 := j32e (by omega) (by omega)
          refine st_xi (N := E.2.2.2.2.1) (by decide) (by decide) rfl (show 0 ≤ jw32 (x3 + 2) by omega) (show jw32 (x3 + 2) < ((E.2.2.2.2.1 : Nat) : Int) by omega) (fun v480 ev480 => ?_)
          replace ev480 : v480 = jxv E (-2) (jw32 (x3 + 2)) := ev480
          refine st_cv (na := 2) (st := [.inl v480, .inl v478, .inr (.inr (.inl 176))]) jo_176 rfl rfl rfl (c_X12_treeFor v478 v480 g474) rfl ?_
          rintro _ _ g482 ⟨rfl, ft481, t481, rfl, ht481, zt481⟩ kt481
          replace kt481 : -2147483648 ≤ t481 ∧ t481 ≤ 2147483647 := kt481
          replace ht481 : -9 ≤ t481 ∧ t481 ≤ 39 := ht481
          replace zt481 : P_X12_treeFor v478 v480 t481 g474 := zt481
          have li483 : jLI g482 := jLI_fr (ft481 176 0 (by unfold w_X12_treeFor; omega)) (ft481 0 0 (by unfold w_X12_treeFor; omega)) (fun t => ft481 87 t (by unfold w_X12_treeFor; omega)) li475
          have dli483 : g482 176 0 ≤ 2000 := li483.1
          rw [show v478 = v470 by omega, show v480 = v472 by omega] at zt481
          have qe485 := pr_treeFor ft473 ft481 zt473 zt481 sm
          have eqe485 := qe485.1
          have sm484 : jI g482 := qe485.2
          clear qe485 zt481
          show jGo E l 179 0 229 _ 1410 [.inr (.inr (.inl (-2))), .inr (.inr (.inl 0)), .inr (.inr (.inl 176)), .inl x3] [] 229 jr0 g482
          refine jGo_blk qL_law_1410 ?_
          have e486 : jw32 (x3 + 6) = x3 + 6 := j32e (by omega) (by omega)
          show jGo E l 179 0 229 _ 18 [.inr (.inr (.inl (-2))), .inr (.inr (.inl 0)), .inr (.inr (.inl 176)), .inl (jw32 (x3 + 6))] [] 229 jr0 g482
          exact ih (jw32 (x3 + 6)) g482 (by omega) li483 sm484 (by omega)
        · replace c6 : jand v4 63 = 24 := c6
          show jGo E l 179 0 229 _ 1094 [.inr (.inr (.inl (-2))), .inr (.inr (.inl 0)), .inr (.inr (.inl 176)), .inl x3] [] 229 jr0 g
          refine jGo_blk qL_law_1094 ?_
          have e487 : jw32 (x3 + 1) = x3 + 1 := j32e (by omega) (by omega)
          refine st_xi (N := E.2.2.2.2.1) (by decide) (by decide) rfl (show 0 ≤ jw32 (x3 + 1) by omega) (show jw32 (x3 + 1) < ((E.2.2.2.2.1 : Nat) : Int) by omega) (fun v488 ev488 => ?_)
          replace ev488 : v488 = jxv E (-2) (jw32 (x3 + 1)) := ev488
          have e489 : jw32 (x3 + 2) = x3 + 2 := j32e (by omega) (by omega)
          refine st_xi (N := E.2.2.2.2.1) (by decide) (by decide) rfl (show 0 ≤ jw32 (x3 + 2) by omega) (show jw32 (x3 + 2) < ((E.2.2.2.2.1 : Nat) : Int) by omega) (fun v490 ev490 => ?_)
          replace ev490 : v490 = jxv E (-2) (jw32 (x3 + 2)) := ev490
          refine st_cv (na := 2) (st := [.inl v490, .inl v488, .inr (.inr (.inl 0))]) jo_0 rfl rfl rfl (c_X11_treeOf v488 v490 g) rfl ?_
          rintro _ _ g492 ⟨rfl, ft491, t491, rfl, ht491, zt491⟩ kt491
          replace kt491 : -2147483648 ≤ t491 ∧ t491 ≤ 2147483647 := kt491
          replace zt491 : P_X11_treeOf v488 v490 t491 g := zt491
          have li493 : jLI g492 := jLI_fr (ft491 176 0 (by unfold w_X11_treeOf; omega)) (ft491 0 0 (by unfold w_X11_treeOf; omega)) (fun t => ft491 87 t (by unfold w_X11_treeOf; omega)) li
          have dli493 : g492 176 0 ≤ 2000 := li493.1
          have e495 : jw32 (x3 + 1) = x3 + 1 := j32e (by omega) (by omega)
          refine st_xi (N := E.2.2.2.2.1) (by decide) (by decide) rfl (show 0 ≤ jw32 (x3 + 1) by omega) (show jw32 (x3 + 1) < ((E.2.2.2.2.1 : Nat) : Int) by omega) (fun v496 ev496 => ?_)
          replace ev496 : v496 = jxv E (-2) (jw32 (x3 + 1)) := ev496
          have e497 : jw32 (x3 + 2) = x3 + 2 := j32e (by omega) (by omega)
          refine st_xi (N := E.2.2.2.2.1) (by decide) (by decide) rfl (show 0 ≤ jw32 (x3 + 2) by omega) (show jw32 (x3 + 2) < ((E.2.2.2.2.1 : Nat) : Int) by omega) (fun v498 ev498 => ?_)
          replace ev498 : v498 = jxv E (-2) (jw32 (x3 + 2)) := ev498
          refine st_cv (na := 2) (st := [.inl v498, .inl v496, .inr (.inr (.inl 176))]) jo_176 rfl rfl rfl (c_X12_treeOf v496 v498 g492) rfl ?_
          rintro _ _ g500 ⟨rfl, ft499, t499, rfl, ht499, zt499⟩ kt499
          replace kt499 : -2147483648 ≤ t499 ∧ t499 ≤ 2147483647 := kt499
          replace zt499 : P_X12_treeOf v496 v498 t499 g492 := zt499
          have li501 : jLI g500 := jLI_fr (ft499 176 0 (by unfold w_X12_treeOf; omega)) (ft499 0 0 (by unfold w_X12_treeOf; omega)) (fun t => ft499 87 t (by unfold w_X12_treeOf; omega)) li493
          have dli501 : g500 176 0 ≤ 2000 := li501.1
          rw [show v496 = v488 by omega, show v498 = v490 by omega] at zt499
          have qe503 := pr_treeOf ft491 ft499 zt491 zt499 sm
          have eqe503 := qe503.1
          have sm502 : jI g500 := qe503.2
          clear qe503 zt499
          show jGo E l 179 0 229 _ 1410 [.inr (.inr (.inl (-2))), .inr (.inr (.inl 0)), .inr (.inr (.inl 176)), .inl x3] [] 229 jr0 g500
          refine jGo_blk qL_law_1410 ?_
          have e504 : jw32 (x3 + 6) = x3 + 6 := j32e (by omega) (by omega)
          show jGo E l 179 0 229 _ 18 [.inr (.inr (.inl (-2))), .inr (.inr (.inl 0)), .inr (.inr (.inl 176)), .inl (jw32 (x3 + 6))] [] 229 jr0 g500
          exact ih (jw32 (x3 + 6)) g500 (by omega) li501 sm502 (by omega)
        · replace c6 : jand v4 63 = 25 := c6
          show jGo E l 179 0 229 _ 1127 [.inr (.inr (.inl (-2))), .inr (.inr (.inl 0)), .inr (.inr (.inl 176)), .inl x3] [] 229 jr0 g
          refine jGo_blk qL_law_1127 ?_
          have e505 : jw32 (x3 + 1) = x3 + 1 := j32e (by omega) (by omega)
          refine st_xi (N := E.2.2.2.2.1) (by decide) (by decide) rfl (show 0 ≤ jw32 (x3 + 1) by omega) (show jw32 (x3 + 1) < ((E.2.2.2.2.1 : Nat) : Int) by omega) (fun v506 ev506 => ?_)
          replace ev506 : v506 = jxv E (-2) (jw32 (x3 + 1)) := ev506
          have e507 : jw32 (x3 + 2) = x3 + 2 := j32e (by omega) (by omega)
          refine st_xi (N := E.2.2.2.2.1) (by decide) (by decide) rfl (show 0 ≤ jw32 (x3 + 2) by omega) (show jw32 (x3 + 2) < ((E.2.2.2.2.1 : Nat) : Int) by omega) (fun v508 ev508 => ?_)
          replace ev508 : v508 = jxv E (-2) (jw32 (x3 + 2)) := ev508
          refine st_cv (na := 2) (st := [.inl v508, .inl v506, .inr (.inr (.inl 0))]) jo_0 rfl rfl rfl (c_X11_count v506 v508 g) rfl ?_
          rintro _ _ g510 ⟨rfl, ft509, t509, rfl, ht509, zt509⟩ kt509
          replace kt509 : -2147483648 ≤ t509 ∧ t509 ≤ 2147483647 := kt509
          replace zt509 : P_X11_count v506 v508 t509 g g510 := zt509
          have li511 : jLI g510 := jLI_fr (ft509 176 0 (by unfold w_X11_count; omega)) (ft509 0 0 (by unfold w_X11_count; omega)) (fun t => ft509 87 t (by unfold w_X11_count; omega)) li
          have dli511 : g510 176 0 ≤ 2000 := li511.1
          have e513 : jw32 (x3 + 1) = x3 + 1 := j32e (by omega) (by omega)
          refine st_xi (N := E.2.2.2.2.1) (by decide) (by decide) rfl (show 0 ≤ jw32 (x3 + 1) by omega) (show jw32 (x3 + 1) < ((E.2.2.2.2.1 : Nat) : Int) by omega) (fun v514 ev514 => ?_)
          replace ev514 : v514 = jxv E (-2) (jw32 (x3 + 1)) := ev514
          have e515 : jw32 (x3 + 2) = x3 + 2 := j32e (by omega) (by omega)
          refine st_xi (N := E.2.2.2.2.1) (by decide) (by decide) rfl (show 0 ≤ jw32 (x3 + 2) by omega) (show jw32 (x3 + 2) < ((E.2.2.2.2.1 : Nat) : Int) by omega) (fun v516 ev516 => ?_)
          replace ev516 : v516 = jxv E (-2) (jw32 (x3 + 2)) := ev516
          have e517 : g510 176 0 = g 176 0 := ft509 176 0 (by unfold w_X11_count; omega)
          refine st_cv (na := 2) (st := [.inl v516, .inl v514, .inr (.inr (.inl 176))]) jo_176 rfl rfl rfl (c_X12_count v514 v516 g510 (by omega)) rfl ?_
          rintro _ _ g519 ⟨rfl, ft518, t518, rfl, ht518, zt518⟩ kt518
          replace kt518 : -2147483648 ≤ t518 ∧ t518 ≤ 2147483647 := kt518
          replace zt518 : P_X12_count v514 v516 t518 g510 g519 := zt518
          have li520 : jLI g519 := jLI_fr (ft518 176 0 (by unfold w_X12_count; omega)) (ft518 0 0 (by unfold w_X12_count; omega)) (fun t => ft518 87 t (by unfold w_X12_count; omega)) li511
          have dli520 : g519 176 0 ≤ 2000 := li520.1
          rw [show v514 = v506 by omega, show v516 = v508 by omega] at zt518
          have qe522 := pr_count ft509 ft518 zt509 zt518 sm ((jbf_5_0 jo_101 _).1 (hbd9 101 0)).1
          have eqe522 := qe522.1
          have sm521 : jI g519 := qe522.2
          clear qe522 zt518
          show jGo E l 179 0 229 _ 1410 [.inr (.inr (.inl (-2))), .inr (.inr (.inl 0)), .inr (.inr (.inl 176)), .inl x3] [] 229 jr0 g519
          refine jGo_blk qL_law_1410 ?_
          have e523 : jw32 (x3 + 6) = x3 + 6 := j32e (by omega) (by omega)
          show jGo E l 179 0 229 _ 18 [.inr (.inr (.inl (-2))), .inr (.inr (.inl 0)), .inr (.inr (.inl 176)), .inl (jw32 (x3 + 6))] [] 229 jr0 g519
          exact ih (jw32 (x3 + 6)) g519 (by omega) li520 sm521 (by omega)
        · replace c6 : jand v4 63 = 26 := c6
          show jGo E l 179 0 229 _ 1160 [.inr (.inr (.inl (-2))), .inr (.inr (.inl 0)), .inr (.inr (.inl 176)), .inl x3] [] 229 jr0 g
          refine jGo_blk qL_law_1160 ?_
          have e524 : jw32 (x3 + 1) = x3 + 1 := j32e (by omega) (by omega)
          refine st_xi (N := E.2.2.2.2.1) (by decide) (by decide) rfl (show 0 ≤ jw32 (x3 + 1) by omega) (show jw32 (x3 + 1) < ((E.2.2.2.2.1 : Nat) : Int) by omega) (fun v525 ev525 => ?_)
          replace ev525 : v525 = jxv E (-2) (jw32 (x3 + 1)) := ev525
          have e526 : jw32 (x3 + 2) = x3 + 2 := j32e (by omega) (by omega)
          refine st_xi (N := E.2.2.2.2.1) (by decide) (by decide) rfl (show 0 ≤ jw32 (x3 + 2) by omega) (show jw32 (x3 + 2) < ((E.2.2.2.2.1 : Nat) : Int) by omega) (fun v527 ev527 => ?_)
          replace ev527 : v527 = jxv E (-2) (jw32 (x3 + 2)) := ev527
          refine st_cv (na := 2) (st := [.inl v527, .inl v525, .inr (.inr (.inl 0))]) jo_0 rfl rfl rfl (c_X11_gap v525 v527 g) rfl ?_
          rintro _ _ g529 ⟨rfl, ft528, t528, rfl, ht528, zt528⟩ kt528
          replace kt528 : -2147483648 ≤ t528 ∧ t528 ≤ 2147483647 := kt528
          replace zt528 : P_X11_gap v525 v527 t528 g := zt528
          have li530 : jLI g529 := jLI_fr (ft528 176 0 (by unfold w_X11_gap; omega)) (ft528 0 0 (by unfold w_X11_gap; omega)) (fun t => ft528 87 t (by unfold w_X11_gap; omega)) li
          have dli530 : g529 176 0 ≤ 2000 := li530.1
          have e532 : jw32 (x3 + 1) = x3 + 1 := j32e (by omega) (by omega)
          refine st_xi (N := E.2.2.2.2.1) (by decide) (by decide) rfl (show 0 ≤ jw32 (x3 + 1) by omega) (show jw32 (x3 + 1) < ((E.2.2.2.2.1 : Nat) : Int) by omega) (fun v533 ev533 => ?_)
          replace ev533 : v533 = jxv E (-2) (jw32 (x3 + 1)) := ev533
          have e534 : jw32 (x3 + 2) = x3 + 2 := j32e (by omega) (by omega)
          refine st_xi (N := E.2.2.2.2.1) (by decide) (by decide) rfl (show 0 ≤ jw32 (x3 + 2) by omega) (show jw32 (x3 + 2) < ((E.2.2.2.2.1 : Nat) : Int) by omega) (fun v535 ev535 => ?_)
          replace ev535 : v535 = jxv E (-2) (jw32 (x3 + 2)) := ev535
          refine st_cv (na := 2) (st := [.inl v535, .inl v533, .inr (.inr (.inl 176))]) jo_176 rfl rfl rfl (c_X12_gap v533 v535 g529) rfl ?_
          rintro _ _ g537 ⟨rfl, ft536, t536, rfl, ht536, zt536⟩ kt536
          replace kt536 : -2147483648 ≤ t536 ∧ t536 ≤ 2147483647 := kt536
          replace zt536 : P_X12_gap v533 v535 t536 g529 := zt536
          have li538 : jLI g537 := jLI_fr (ft536 176 0 (by unfold w_X12_gap; omega)) (ft536 0 0 (by unfold w_X12_gap; omega)) (fun t => ft536 87 t (by unfold w_X12_gap; omega)) li530
          have dli538 : g537 176 0 ≤ 2000 := li538.1
          rw [show v533 = v525 by omega, show v535 = v527 by omega] at zt536
          have qe540 := pr_gap ft528 ft536 zt528 zt536 sm
          have eqe540 := qe540.1
          have sm539 : jI g537 := qe540.2
          clear qe540 zt536
          show jGo E l 179 0 229 _ 1410 [.inr (.inr (.inl (-2))), .inr (.inr (.inl 0)), .inr (.inr (.inl 176)), .inl x3] [] 229 jr0 g537
          refine jGo_blk qL_law_1410 ?_
          have e541 : jw32 (x3 + 6) = x3 + 6 := j32e (by omega) (by omega)
          show jGo E l 179 0 229 _ 18 [.inr (.inr (.inl (-2))), .inr (.inr (.inl 0)), .inr (.inr (.inl 176)), .inl (jw32 (x3 + 6))] [] 229 jr0 g537
          exact ih (jw32 (x3 + 6)) g537 (by omega) li538 sm539 (by omega)
        · replace c6 : jand v4 63 = 27 := c6
          show jGo E l 179 0 229 _ 1193 [.inr (.inr (.inl (-2))), .inr (.inr (.inl 0)), .inr (.inr (.inl 176)), .inl x3] [] 229 jr0 g
          refine jGo_blk qL_law_1193 ?_
          have e542 : jw32 (x3 + 1) = x3 + 1 := j32e (by omega) (by omega)
          refine st_xi (N := E.2.2.2.2.1) (by decide) (by decide) rfl (show 0 ≤ jw32 (x3 + 1) by omega) (show jw32 (x3 + 1) < ((E.2.2.2.2.1 : Nat) : Int) by omega) (fun v543 ev543 => ?_)
          replace ev543 : v543 = jxv E (-2) (jw32 (x3 + 1)) := ev543
          refine st_cv (na := 1) (st := [.inl v543, .inr (.inr (.inl 0))]) jo_0 rfl rfl rfl (c_X11_worst v543 g) rfl ?_
          rintro _ _ g545 ⟨rfl, ft544, t544, rfl, ht544, zt544⟩ kt544
          replace kt544 : -2147483648 ≤ t544 ∧ t544 ≤ 2147483647 := kt544
          replace ht544 : -9 ≤ t544 ∧ t544 ≤ 39 := ht544
          replace zt544 : P_X11_worst v543 t544 g := zt544
          have li546 : jLI g545 := jLI_fr (ft544 176 0 (by unfold w_X11_worst; omega)) (ft544 0 0 (by unfold w_X11_worst; omega)) (fun t => ft544 87 t (by unfold w_X11_worst; omega)) li
          have dli546 : g545 176 0 ≤ 2000 := li546.1
          have e548 : jw32 (x3 + 1) = x3 + 1 := j32e (by omega) (by omega)
          refine st_xi (N := E.2.2.2.2.1) (by decide) (by decide) rfl (show 0 ≤ jw32 (x3 + 1) by omega) (show jw32 (x3 + 1) < ((E.2.2.2.2.1 : Nat) : Int) by omega) (fun v549 ev549 => ?_)
          replace ev549 : v549 = jxv E (-2) (jw32 (x3 + 1)) := ev549
          refine st_cv (na := 1) (st := [.inl v549, .inr (.inr (.inl 176))]) jo_176 rfl rfl rfl (c_X12_worst v549 g545) rfl ?_
          rintro _ _ g551 ⟨rfl, ft550, t550, rfl, ht550, zt550⟩ kt550
          replace kt550 : -2147483648 ≤ t550 ∧ t550 ≤ 2147483647 := kt550
          replace ht550 : -9 ≤ t550 ∧ t550 ≤ 39 := ht550
          replace zt550 : P_X12_worst v549 t550 g545 := zt550
          have li552 : jLI g551 := jLI_fr (ft550 176 0 (by unfold w_X12_worst; omega)) (ft550 0 0 (by unfold w_X12_worst; omega)) (fun t => ft550 87 t (by unfold w_X12_worst; omega)) li546
          have dli552 : g551 176 0 ≤ 2000 := li552.1
          rw [show v549 = v543 by omega] at zt550
          have qe554 := pr_worst ft544 ft550 zt544 zt550 sm ((jbf_5_0 jo_101 _).1 (hbd9 101 0)).1
          have eqe554 := qe554.1
          have sm553 : jI g551 := qe554.2
          clear qe554 zt550
          show jGo E l 179 0 229 _ 1410 [.inr (.inr (.inl (-2))), .inr (.inr (.inl 0)), .inr (.inr (.inl 176)), .inl x3] [] 229 jr0 g551
          refine jGo_blk qL_law_1410 ?_
          have e555 : jw32 (x3 + 6) = x3 + 6 := j32e (by omega) (by omega)
          show jGo E l 179 0 229 _ 18 [.inr (.inr (.inl (-2))), .inr (.inr (.inl 0)), .inr (.inr (.inl 176)), .inl (jw32 (x3 + 6))] [] 229 jr0 g551
          exact ih (jw32 (x3 + 6)) g551 (by omega) li552 sm553 (by omega)
        · replace c6 : jand v4 63 = 28 := c6
          show jGo E l 179 0 229 _ 1216 [.inr (.inr (.inl (-2))), .inr (.inr (.inl 0)), .inr (.inr (.inl 176)), .inl x3] [] 229 jr0 g
          refine jGo_blk qL_law_1216 ?_
          have e556 : jw32 (x3 + 1) = x3 + 1 := j32e (by omega) (by omega)
          refine st_xi (N := E.2.2.2.2.1) (by decide) (by decide) rfl (show 0 ≤ jw32 (x3 + 1) by omega) (show jw32 (x3 + 1) < ((E.2.2.2.2.1 : Nat) : Int) by omega) (fun v557 ev557 => ?_)
          replace ev557 : v557 = jxv E (-2) (jw32 (x3 + 1)) := ev557
          refine st_cv (na := 1) (st := [.inl v557, .inr (.inr (.inl 0))]) jo_0 rfl rfl rfl (c_X11_ready v557 g) rfl ?_
          rintro _ _ g559 ⟨rfl, ft558, t558, rfl, ht558, zt558⟩ kt558
          replace kt558 : -2147483648 ≤ t558 ∧ t558 ≤ 2147483647 := kt558
          have li560 : jLI g559 := jLI_fr (ft558 176 0 (by unfold w_X11_ready; omega)) (ft558 0 0 (by unfold w_X11_ready; omega)) (fun t => ft558 87 t (by unfold w_X11_ready; omega)) li
          have dli560 : g559 176 0 ≤ 2000 := li560.1
          have e562 : jw32 (x3 + 1) = x3 + 1 := j32e (by omega) (by omega)
          refine st_xi (N := E.2.2.2.2.1) (by decide) (by decide) rfl (show 0 ≤ jw32 (x3 + 1) by omega) (show jw32 (x3 + 1) < ((E.2.2.2.2.1 : Nat) : Int) by omega) (fun v563 ev563 => ?_)
          replace ev563 : v563 = jxv E (-2) (jw32 (x3 + 1)) := ev563
          have e564 : g559 176 0 = g 176 0 := ft558 176 0 (by unfold w_X11_ready; omega)
          refine st_cv (na := 1) (st := [.inl v563, .inr (.inr (.inl 176))]) jo_176 rfl rfl rfl (c_X12_ready v563 g559 (by omega)) rfl ?_
          rintro _ _ g566 ⟨rfl, ft565, t565, rfl, ht565, zt565⟩ kt565
          replace kt565 : -2147483648 ≤ t565 ∧ t565 ≤ 2147483647 := kt565
          replace zt565 : (g566 176 0 = g559 176 0) ∧ ∀ L k : Int, jlv L k → g566 L k = g559 L k := zt565
          have li567 : jLI g566 := ⟨by rw [show g566 176 0 = g559 176 0 from zt565.1]; exact li560.1, jLG_fr (ft565 0 0 (by unfold w_X12_ready; omega)) (fun t => ft565 87 t (by unfold w_X12_ready; omega)) li560.2⟩
          have dli567 : g566 176 0 ≤ 2000 := li567.1
          have sm568 : jI g566 := pf_ready ft558 ft565 zt565 sm
          show jGo E l 179 0 229 _ 1410 [.inr (.inr (.inl (-2))), .inr (.inr (.inl 0)), .inr (.inr (.inl 176)), .inl x3] [] 229 jr0 g566
          refine jGo_blk qL_law_1410 ?_
          have e569 : jw32 (x3 + 6) = x3 + 6 := j32e (by omega) (by omega)
          show jGo E l 179 0 229 _ 18 [.inr (.inr (.inl (-2))), .inr (.inr (.inl 0)), .inr (.inr (.inl 176)), .inl (jw32 (x3 + 6))] [] 229 jr0 g566
          exact ih (jw32 (x3 + 6)) g566 (by omega) li567 sm568 (by omega)
        · replace c6 : jand v4 63 = 29 := c6
          show jGo E l 179 0 229 _ 1239 [.inr (.inr (.inl (-2))), .inr (.inr (.inl 0)), .inr (.inr (.inl 176)), .inl x3] [] 229 jr0 g
          refine jGo_blk qL_law_1239 ?_
          have e570 : jw32 (x3 + 1) = x3 + 1 := j32e (by omega) (by omega)
          refine st_xi (N := E.2.2.2.2.1) (by decide) (by decide) rfl (show 0 ≤ jw32 (x3 + 1) by omega) (show jw32 (x3 + 1) < ((E.2.2.2.2.1 : Nat) : Int) by omega) (fun v571 ev571 => ?_)
          replace ev571 : v571 = jxv E (-2) (jw32 (x3 + 1)) := ev571
          refine st_cv (na := 1) (st := [.inl v571, .inr (.inr (.inl 0))]) jo_0 rfl rfl rfl (c_X11_late v571 g) rfl ?_
          rintro _ _ g573 ⟨rfl, ft572, t572, rfl, ht572, zt572⟩ kt572
          replace kt572 : -2147483648 ≤ t572 ∧ t572 ≤ 2147483647 := kt572
          have li574 : jLI g573 := jLI_fr (ft572 176 0 (by unfold w_X11_late; omega)) (ft572 0 0 (by unfold w_X11_late; omega)) (fun t => ft572 87 t (by unfold w_X11_late; omega)) li
          have dli574 : g573 176 0 ≤ 2000 := li574.1
          have e576 : jw32 (x3 + 1) = x3 + 1 := j32e (by omega) (by omega)
          refine st_xi (N := E.2.2.2.2.1) (by decide) (by decide) rfl (show 0 ≤ jw32 (x3 + 1) by omega) (show jw32 (x3 + 1) < ((E.2.2.2.2.1 : Nat) : Int) by omega) (fun v577 ev577 => ?_)
          replace ev577 : v577 = jxv E (-2) (jw32 (x3 + 1)) := ev577
          have e578 : g573 176 0 = g 176 0 := ft572 176 0 (by unfold w_X11_late; omega)
          refine st_cv (na := 1) (st := [.inl v577, .inr (.inr (.inl 176))]) jo_176 rfl rfl rfl (c_X12_late v577 g573 (by omega)) rfl ?_
          rintro _ _ g580 ⟨rfl, ft579, t579, rfl, ht579, zt579⟩ kt579
          replace kt579 : -2147483648 ≤ t579 ∧ t579 ≤ 2147483647 := kt579
          replace zt579 : (g580 176 0 = g573 176 0) ∧ ∀ L k : Int, jlv L k → g580 L k = g573 L k := zt579
          have li581 : jLI g580 := ⟨by rw [show g580 176 0 = g573 176 0 from zt579.1]; exact li574.1, jLG_fr (ft579 0 0 (by unfold w_X12_late; omega)) (fun t => ft579 87 t (by unfold w_X12_late; omega)) li574.2⟩
          have dli581 : g580 176 0 ≤ 2000 := li581.1
          have sm582 : jI g580 := pf_late ft572 ft579 zt579 sm
          show jGo E l 179 0 229 _ 1410 [.inr (.inr (.inl (-2))), .inr (.inr (.inl 0)), .inr (.inr (.inl 176)), .inl x3] [] 229 jr0 g580
          refine jGo_blk qL_law_1410 ?_
          have e583 : jw32 (x3 + 6) = x3 + 6 := j32e (by omega) (by omega)
          show jGo E l 179 0 229 _ 18 [.inr (.inr (.inl (-2))), .inr (.inr (.inl 0)), .inr (.inr (.inl 176)), .inl (jw32 (x3 + 6))] [] 229 jr0 g580
          exact ih (jw32 (x3 + 6)) g580 (by omega) li581 sm582 (by omega)
        · replace c6 : jand v4 63 = 30 := c6
          show jGo E l 179 0 229 _ 1262 [.inr (.inr (.inl (-2))), .inr (.inr (.inl 0)), .inr (.inr (.inl 176)), .inl x3] [] 229 jr0 g
          refine jGo_blk qL_law_1262 ?_
          refine st_cv (na := 0) (st := [.inr (.inr (.inl 0))]) jo_0 rfl rfl rfl (c_X11_least g) rfl ?_
          rintro _ _ g585 ⟨rfl, ft584, t584, rfl, ht584, zt584⟩ kt584
          replace kt584 : -2147483648 ≤ t584 ∧ t584 ≤ 2147483647 := kt584
          have li586 : jLI g585 := jLI_fr (ft584 176 0 (by unfold w_X11_least; omega)) (ft584 0 0 (by unfold w_X11_least; omega)) (fun t => ft584 87 t (by unfold w_X11_least; omega)) li
          have dli586 : g585 176 0 ≤ 2000 := li586.1
          have e588 : g585 176 0 = g 176 0 := ft584 176 0 (by unfold w_X11_least; omega)
          refine st_cv (na := 0) (st := [.inr (.inr (.inl 176))]) jo_176 rfl rfl rfl (c_X12_least g585 (by omega)) rfl ?_
          rintro _ _ g590 ⟨rfl, ft589, t589, rfl, ht589, zt589⟩ kt589
          replace kt589 : -2147483648 ≤ t589 ∧ t589 ≤ 2147483647 := kt589
          replace zt589 : (g590 176 0 = g585 176 0) ∧ ∀ L k : Int, jlv L k → g590 L k = g585 L k := zt589
          have li591 : jLI g590 := ⟨by rw [show g590 176 0 = g585 176 0 from zt589.1]; exact li586.1, jLG_fr (ft589 0 0 (by unfold w_X12_least; omega)) (fun t => ft589 87 t (by unfold w_X12_least; omega)) li586.2⟩
          have dli591 : g590 176 0 ≤ 2000 := li591.1
          have sm592 : jI g590 := pf_least ft584 ft589 zt589 sm
          show jGo E l 179 0 229 _ 1410 [.inr (.inr (.inl (-2))), .inr (.inr (.inl 0)), .inr (.inr (.inl 176)), .inl x3] [] 229 jr0 g590
          refine jGo_blk qL_law_1410 ?_
          have e593 : jw32 (x3 + 6) = x3 + 6 := j32e (by omega) (by omega)
          show jGo E l 179 0 229 _ 18 [.inr (.inr (.inl (-2))), .inr (.inr (.inl 0)), .inr (.inr (.inl 176)), .inl (jw32 (x3 + 6))] [] 229 jr0 g590
          exact ih (jw32 (x3 + 6)) g590 (by omega) li591 sm592 (by omega)
        · replace c6 : jand v4 63 = 31 := c6
          show jGo E l 179 0 229 _ 1275 [.inr (.inr (.inl (-2))), .inr (.inr (.inl 0)), .inr (.inr (.inl 176)), .inl x3] [] 229 jr0 g
          refine jGo_blk qL_law_1275 ?_
          have e594 : jw32 (x3 + 1) = x3 + 1 := j32e (by omega) (by omega)
          refine st_xi (N := E.2.2.2.2.1) (by decide) (by decide) rfl (show 0 ≤ jw32 (x3 + 1) by omega) (show jw32 (x3 + 1) < ((E.2.2.2.2.1 : Nat) : Int) by omega) (fun v595 ev595 => ?_)
          replace ev595 : v595 = jxv E (-2) (jw32 (x3 + 1)) := ev595
          refine st_cv (na := 1) (st := [.inl v595, .inr (.inr (.inl 0))]) jo_0 rfl rfl rfl (c_X11_order v595 g) rfl ?_
          rintro _ _ g597 ⟨rfl, ft596, t596, rfl, ht596, zt596⟩ kt596
          replace kt596 : -2147483648 ≤ t596 ∧ t596 ≤ 2147483647 := kt596
          replace ht596 : -9 ≤ t596 ∧ t596 ≤ 15 := ht596
          have li598 : jLI g597 := jLI_fr (ft596 176 0 (by unfold w_X11_order; omega)) (ft596 0 0 (by unfold w_X11_order; omega)) (fun t => ft596 87 t (by unfold w_X11_order; omega)) li
          have dli598 : g597 176 0 ≤ 2000 := li598.1
          have e600 : jw32 (x3 + 1) = x3 + 1 := j32e (by omega) (by omega)
          refine st_xi (N := E.2.2.2.2.1) (by decide) (by decide) rfl (show 0 ≤ jw32 (x3 + 1) by omega) (show jw32 (x3 + 1) < ((E.2.2.2.2.1 : Nat) : Int) by omega) (fun v601 ev601 => ?_)
          replace ev601 : v601 = jxv E (-2) (jw32 (x3 + 1)) := ev601
          have e602 : g597 176 0 = g 176 0 := ft596 176 0 (by unfold w_X11_order; omega)
          refine st_cv (na := 1) (st := [.inl v601, .inr (.inr (.inl 176))]) jo_176 rfl rfl rfl (c_X12_order v601 g597 (by omega)) rfl ?_
          rintro _ _ g604 ⟨rfl, ft603, t603, rfl, ht603, zt603⟩ kt603
          replace kt603 : -2147483648 ≤ t603 ∧ t603 ≤ 2147483647 := kt603
          replace ht603 : -9 ≤ t603 ∧ t603 ≤ 15 := ht603
          replace zt603 : (g604 176 0 = g597 176 0) ∧ ∀ L k : Int, jlv L k → g604 L k = g597 L k := zt603
          have li605 : jLI g604 := ⟨by rw [show g604 176 0 = g597 176 0 from zt603.1]; exact li598.1, jLG_fr (ft603 0 0 (by unfold w_X12_order; omega)) (fun t => ft603 87 t (by unfold w_X12_order; omega)) li598.2⟩
          have dli605 : g604 176 0 ≤ 2000 := li605.1
          have sm606 : jI g604 := pf_order ft596 ft603 zt603 sm
          show jGo E l 179 0 229 _ 1410 [.inr (.inr (.inl (-2))), .inr (.inr (.inl 0)), .inr (.inr (.inl 176)), .inl x3] [] 229 jr0 g604
          refine jGo_blk qL_law_1410 ?_
          have e607 : jw32 (x3 + 6) = x3 + 6 := j32e (by omega) (by omega)
          show jGo E l 179 0 229 _ 18 [.inr (.inr (.inl (-2))), .inr (.inr (.inl 0)), .inr (.inr (.inl 176)), .inl (jw32 (x3 + 6))] [] 229 jr0 g604
          exact ih (jw32 (x3 + 6)) g604 (by omega) li605 sm606 (by omega)
        · replace c6 : jand v4 63 = 32 := c6
          show jGo E l 179 0 229 _ 1298 [.inr (.inr (.inl (-2))), .inr (.inr (.inl 0)), .inr (.inr (.inl 176)), .inl x3] [] 229 jr0 g
          refine jGo_blk qL_law_1298 ?_
          have e608 : jw32 (x3 + 1) = x3 + 1 := j32e (by omega) (by omega)
          refine st_xi (N := E.2.2.2.2.1) (by decide) (by decide) rfl (show 0 ≤ jw32 (x3 + 1) by omega) (show jw32 (x3 + 1) < ((E.2.2.2.2.1 : Nat) : Int) by omega) (fun v609 ev609 => ?_)
          replace ev609 : v609 = jxv E (-2) (jw32 (x3 + 1)) := ev609
          have e610 : jw32 (x3 + 2) = x3 + 2 := j32e (by omega) (by omega)
          refine st_xi (N := E.2.2.2.2.1) (by decide) (by decide) rfl (show 0 ≤ jw32 (x3 + 2) by omega) (show jw32 (x3 + 2) < ((E.2.2.2.2.1 : Nat) : Int) by omega) (fun v611 ev611 => ?_)
          replace ev611 : v611 = jxv E (-2) (jw32 (x3 + 2)) := ev611
          refine st_cv (na := 2) (st := [.inl v611, .inl v609, .inr (.inr (.inl 0))]) jo_0 rfl rfl rfl (c_X11_hullOf v609 v611 g) rfl ?_
          rintro _ _ g613 ⟨rfl, ft612, t612, rfl, ht612, zt612⟩ kt612
          replace kt612 : -2147483648 ≤ t612 ∧ t612 ≤ 2147483647 := kt612
          replace zt612 : P_X11_hullOf v609 v611 t612 g := zt612
          have li614 : jLI g613 := jLI_fr (ft612 176 0 (by unfold w_X11_hullOf; omega)) (ft612 0 0 (by unfold w_X11_hullOf; omega)) (fun t => ft612 87 t (by unfold w_X11_hullOf; omega)) li
          have dli614 : g613 176 0 ≤ 2000 := li614.1
          have e616 : jw32 (x3 + 1) = x3 + 1 := j32e (by omega) (by omega)
          refine st_xi (N := E.2.2.2.2.1) (by decide) (by decide) rfl (show 0 ≤ jw32 (x3 + 1) by omega) (show jw32 (x3 + 1) < ((E.2.2.2.2.1 : Nat) : Int) by omega) (fun v617 ev617 => ?_)
          replace ev617 : v617 = jxv E (-2) (jw32 (x3 + 1)) := ev617
          have e618 : jw32 (x3 + 2) = x3 + 2 := j32e (by omega) (by omega)
          refine st_xi (N := E.2.2.2.2.1) (by decide) (by decide) rfl (show 0 ≤ jw32 (x3 + 2) by omega) (show jw32 (x3 + 2) < ((E.2.2.2.2.1 : Nat) : Int) by omega) (fun v619 ev619 => ?_)
          replace ev619 : v619 = jxv E (-2) (jw32 (x3 + 2)) := ev619
          refine st_cv (na := 2) (st := [.inl v619, .inl v617, .inr (.inr (.inl 176))]) jo_176 rfl rfl rfl (c_X12_hullOf v617 v619 g613) rfl ?_
          rintro _ _ g621 ⟨rfl, ft620, t620, rfl, ht620, zt620⟩ kt620
          replace kt620 : -2147483648 ≤ t620 ∧ t620 ≤ 2147483647 := kt620
          replace zt620 : P_X12_hullOf v617 v619 t620 g613 := zt620
          have li622 : jLI g621 := jLI_fr (ft620 176 0 (by unfold w_X12_hullOf; omega)) (ft620 0 0 (by unfold w_X12_hullOf; omega)) (fun t => ft620 87 t (by unfold w_X12_hullOf; omega)) li614
          have dli622 : g621 176 0 ≤ 2000 := li622.1
          rw [show v617 = v609 by omega, show v619 = v611 by omega] at zt620
          have qe624 := pr_hullOf ft612 ft620 zt612 zt620 sm
          have eqe624 := qe624.1
          have sm623 : jI g621 := qe624.2
          clear qe624 zt620
          show jGo E l 179 0 229 _ 1410 [.inr (.inr (.inl (-2))), .inr (.inr (.inl 0)), .inr (.inr (.inl 176)), .inl x3] [] 229 jr0 g621
          refine jGo_blk qL_law_1410 ?_
          have e625 : jw32 (x3 + 6) = x3 + 6 := j32e (by omega) (by omega)
          show jGo E l 179 0 229 _ 18 [.inr (.inr (.inl (-2))), .inr (.inr (.inl 0)), .inr (.inr (.inl 176)), .inl (jw32 (x3 + 6))] [] 229 jr0 g621
          exact ih (jw32 (x3 + 6)) g621 (by omega) li622 sm623 (by omega)
        · replace c6 : jand v4 63 = 33 := c6
          show jGo E l 179 0 229 _ 1331 [.inr (.inr (.inl (-2))), .inr (.inr (.inl 0)), .inr (.inr (.inl 176)), .inl x3] [] 229 jr0 g
          refine jGo_blk qL_law_1331 ?_
          have e626 : jw32 (x3 + 1) = x3 + 1 := j32e (by omega) (by omega)
          refine st_xi (N := E.2.2.2.2.1) (by decide) (by decide) rfl (show 0 ≤ jw32 (x3 + 1) by omega) (show jw32 (x3 + 1) < ((E.2.2.2.2.1 : Nat) : Int) by omega) (fun v627 ev627 => ?_)
          replace ev627 : v627 = jxv E (-2) (jw32 (x3 + 1)) := ev627
          have e628 : jw32 (x3 + 2) = x3 + 2 := j32e (by omega) (by omega)
          refine st_xi (N := E.2.2.2.2.1) (by decide) (by decide) rfl (show 0 ≤ jw32 (x3 + 2) by omega) (show jw32 (x3 + 2) < ((E.2.2.2.2.1 : Nat) : Int) by omega) (fun v629 ev629 => ?_)
          replace ev629 : v629 = jxv E (-2) (jw32 (x3 + 2)) := ev629
          refine st_cv (na := 2) (st := [.inl v629, .inl v627, .inr (.inr (.inl 0))]) jo_0 rfl rfl rfl (c_X11_basinOf v627 v629 g) rfl ?_
          rintro _ _ g631 ⟨rfl, ft630, t630, rfl, ht630, zt630⟩ kt630
          replace kt630 : -2147483648 ≤ t630 ∧ t630 ≤ 2147483647 := kt630
          replace zt630 : P_X11_basinOf v627 v629 t630 g := zt630
          have li632 : jLI g631 := jLI_fr (ft630 176 0 (by unfold w_X11_basinOf; omega)) (ft630 0 0 (by unfold w_X11_basinOf; omega)) (fun t => ft630 87 t (by unfold w_X11_basinOf; omega)) li
          have dli632 : g631 176 0 ≤ 2000 := li632.1
          have e634 : jw32 (x3 + 1) = x3 + 1 := j32e (by omega) (by omega)
          refine st_xi (N := E.2.2.2.2.1) (by decide) (by decide) rfl (show 0 ≤ jw32 (x3 + 1) by omega) (show jw32 (x3 + 1) < ((E.2.2.2.2.1 : Nat) : Int) by omega) (fun v635 ev635 => ?_)
          replace ev635 : v635 = jxv E (-2) (jw32 (x3 + 1)) := ev635
          have e636 : jw32 (x3 + 2) = x3 + 2 := j32e (by omega) (by omega)
          refine st_xi (N := E.2.2.2.2.1) (by decide) (by decide) rfl (show 0 ≤ jw32 (x3 + 2) by omega) (show jw32 (x3 + 2) < ((E.2.2.2.2.1 : Nat) : Int) by omega) (fun v637 ev637 => ?_)
          replace ev637 : v637 = jxv E (-2) (jw32 (x3 + 2)) := ev637
          refine st_cv (na := 2) (st := [.inl v637, .inl v635, .inr (.inr (.inl 176))]) jo_176 rfl rfl rfl (c_X12_basinOf v635 v637 g631) rfl ?_
          rintro _ _ g639 ⟨rfl, ft638, t638, rfl, ht638, zt638⟩ kt638
          replace kt638 : -2147483648 ≤ t638 ∧ t638 ≤ 2147483647 := kt638
          replace zt638 : P_X12_basinOf v635 v637 t638 g631 := zt638
          have li640 : jLI g639 := jLI_fr (ft638 176 0 (by unfold w_X12_basinOf; omega)) (ft638 0 0 (by unfold w_X12_basinOf; omega)) (fun t => ft638 87 t (by unfold w_X12_basinOf; omega)) li632
          have dli640 : g639 176 0 ≤ 2000 := li640.1
          rw [show v635 = v627 by omega, show v637 = v629 by omega] at zt638
          have qe642 := pr_basinOf ft630 ft638 zt630 zt638 sm
          have eqe642 := qe642.1
          have sm641 : jI g639 := qe642.2
          clear qe642 zt638
          show jGo E l 179 0 229 _ 1410 [.inr (.inr (.inl (-2))), .inr (.inr (.inl 0)), .inr (.inr (.inl 176)), .inl x3] [] 229 jr0 g639
          refine jGo_blk qL_law_1410 ?_
          have e643 : jw32 (x3 + 6) = x3 + 6 := j32e (by omega) (by omega)
          show jGo E l 179 0 229 _ 18 [.inr (.inr (.inl (-2))), .inr (.inr (.inl 0)), .inr (.inr (.inl 176)), .inl (jw32 (x3 + 6))] [] 229 jr0 g639
          exact ih (jw32 (x3 + 6)) g639 (by omega) li640 sm641 (by omega)
        · replace c6 : jand v4 63 = 34 := c6
          show jGo E l 179 0 229 _ 1364 [.inr (.inr (.inl (-2))), .inr (.inr (.inl 0)), .inr (.inr (.inl 176)), .inl x3] [] 229 jr0 g
          refine jGo_blk qL_law_1364 ?_
          have e644 : jw32 (x3 + 1) = x3 + 1 := j32e (by omega) (by omega)
          refine st_xi (N := E.2.2.2.2.1) (by decide) (by decide) rfl (show 0 ≤ jw32 (x3 + 1) by omega) (show jw32 (x3 + 1) < ((E.2.2.2.2.1 : Nat) : Int) by omega) (fun v645 ev645 => ?_)
          replace ev645 : v645 = jxv E (-2) (jw32 (x3 + 1)) := ev645
          refine st_cv (na := 1) (st := [.inl v645, .inr (.inr (.inl 0))]) jo_0 rfl rfl rfl (c_X11_stock v645 g) rfl ?_
          rintro _ _ g647 ⟨rfl, ft646, t646, rfl, ht646, zt646⟩ kt646
          replace kt646 : -2147483648 ≤ t646 ∧ t646 ≤ 2147483647 := kt646
          replace zt646 : P_X11_stock v645 t646 g := zt646
          have li648 : jLI g647 := jLI_fr (ft646 176 0 (by unfold w_X11_stock; omega)) (ft646 0 0 (by unfold w_X11_stock; omega)) (fun t => ft646 87 t (by unfold w_X11_stock; omega)) li
          have dli648 : g647 176 0 ≤ 2000 := li648.1
          have e650 : jw32 (x3 + 1) = x3 + 1 := j32e (by omega) (by omega)
          refine st_xi (N := E.2.2.2.2.1) (by decide) (by decide) rfl (show 0 ≤ jw32 (x3 + 1) by omega) (show jw32 (x3 + 1) < ((E.2.2.2.2.1 : Nat) : Int) by omega) (fun v651 ev651 => ?_)
          replace ev651 : v651 = jxv E (-2) (jw32 (x3 + 1)) := ev651
          refine st_cv (na := 1) (st := [.inl v651, .inr (.inr (.inl 176))]) jo_176 rfl rfl rfl (c_X12_stock v651 g647) rfl ?_
          rintro _ _ g653 ⟨rfl, ft652, t652, rfl, ht652, zt652⟩ kt652
          replace kt652 : -2147483648 ≤ t652 ∧ t652 ≤ 2147483647 := kt652
          replace zt652 : P_X12_stock v651 t652 g647 := zt652
          have li654 : jLI g653 := jLI_fr (ft652 176 0 (by unfold w_X12_stock; omega)) (ft652 0 0 (by unfold w_X12_stock; omega)) (fun t => ft652 87 t (by unfold w_X12_stock; omega)) li648
          have dli654 : g653 176 0 ≤ 2000 := li654.1
          rw [show v651 = v645 by omega] at zt652
          have qe656 := pr_stock ft646 ft652 zt646 zt652 sm
          have eqe656 := qe656.1
          have sm655 : jI g653 := qe656.2
          clear qe656 zt652
          show jGo E l 179 0 229 _ 1410 [.inr (.inr (.inl (-2))), .inr (.inr (.inl 0)), .inr (.inr (.inl 176)), .inl x3] [] 229 jr0 g653
          refine jGo_blk qL_law_1410 ?_
          have e657 : jw32 (x3 + 6) = x3 + 6 := j32e (by omega) (by omega)
          show jGo E l 179 0 229 _ 18 [.inr (.inr (.inl (-2))), .inr (.inr (.inl 0)), .inr (.inr (.inl 176)), .inl (jw32 (x3 + 6))] [] 229 jr0 g653
          exact ih (jw32 (x3 + 6)) g653 (by omega) li654 sm655 (by omega)
        · replace c6 : jand v4 63 = 35 := c6
          show jGo E l 179 0 229 _ 1387 [.inr (.inr (.inl (-2))), .inr (.inr (.inl 0)), .inr (.inr (.inl 176)), .inl x3] [] 229 jr0 g
          refine jGo_blk qL_law_1387 ?_
          have e658 : jw32 (x3 + 1) = x3 + 1 := j32e (by omega) (by omega)
          refine st_xi (N := E.2.2.2.2.1) (by decide) (by decide) rfl (show 0 ≤ jw32 (x3 + 1) by omega) (show jw32 (x3 + 1) < ((E.2.2.2.2.1 : Nat) : Int) by omega) (fun v659 ev659 => ?_)
          replace ev659 : v659 = jxv E (-2) (jw32 (x3 + 1)) := ev659
          refine st_cv (na := 1) (st := [.inl v659, .inr (.inr (.inl 0))]) jo_0 rfl rfl rfl (c_X11_told v659 g) rfl ?_
          rintro _ _ _ ⟨rfl, rfl, t660, rfl, ht660, zt660⟩ kt660
          replace kt660 : -2147483648 ≤ t660 ∧ t660 ≤ 2147483647 := kt660
          have e662 : jw32 (x3 + 1) = x3 + 1 := j32e (by omega) (by omega)
          refine st_xi (N := E.2.2.2.2.1) (by decide) (by decide) rfl (show 0 ≤ jw32 (x3 + 1) by omega) (show jw32 (x3 + 1) < ((E.2.2.2.2.1 : Nat) : Int) by omega) (fun v663 ev663 => ?_)
          replace ev663 : v663 = jxv E (-2) (jw32 (x3 + 1)) := ev663
          refine st_cv (na := 1) (st := [.inl v663, .inr (.inr (.inl 176))]) jo_176 rfl rfl rfl (c_X12_told v663 g) rfl ?_
          rintro _ _ _ ⟨rfl, rfl, t664, rfl, ht664, zt664⟩ kt664
          replace kt664 : -2147483648 ≤ t664 ∧ t664 ≤ 2147483647 := kt664
          show jGo E l 179 0 229 _ 1410 [.inr (.inr (.inl (-2))), .inr (.inr (.inl 0)), .inr (.inr (.inl 176)), .inl x3] [] 229 jr0 g
          refine jGo_blk qL_law_1410 ?_
          have e666 : jw32 (x3 + 6) = x3 + 6 := j32e (by omega) (by omega)
          show jGo E l 179 0 229 _ 18 [.inr (.inr (.inl (-2))), .inr (.inr (.inl 0)), .inr (.inr (.inl 176)), .inl (jw32 (x3 + 6))] [] 229 jr0 g
          exact ih (jw32 (x3 + 6)) g (by omega) li sm (by omega)
