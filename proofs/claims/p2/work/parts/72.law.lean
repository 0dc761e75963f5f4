/-! ===== THE LAW'S LOOP (by program) ===== -/
def jLI (h : JH) : Prop := h 176 0 ≤ 2000 ∧ jLG 0 h
theorem jLI_fr {h g : JH} (e : g 176 0 = h 176 0) (e0 : g 0 0 = h 0 0) (e87 : ∀ t : Int, g 87 t = h 87 t) (q : jLI h) : jLI g := ⟨by rw [e]; exact q.1, jLG_fr e0 e87 q.2⟩
def jlRT : JR := fun v _ _ _ => v = some (.inl 1)
theorem st_alx {E : JE} {K : JK} {ls s : List JV} {n : Nat} {r h : JH} (kk : ∀ v, v = ((E.2.2.2.2.1 : Nat) : Int) → K ls (.inl v :: s) n r h) : jaln E K ls (.inr (.inr (.inl (-2))) :: s) n r h := ⟨fun q => absurd q (by decide), fun _ => ⟨rfl, kk _ rfl⟩⟩
set_option maxHeartbeats 40000000 in
set_option maxRecDepth 20000 in
theorem law_loop {E : JE} {l : Launch} (hE : E.2.2.2.2.1 ≤ 3072) : ∀ N : Nat, ∀ (x3 : Int) (g : JH), (0 ≤ x3 ∧ x3 ≤ 3072) → jLI g → jSm 3 177 4 g → 3072 - x3 < (N : Int) → jGo E l 179 0 229 jlRT 18 [.inr (.inr (.inl (-2))), .inr (.inr (.inl 0)), .inr (.inr (.inl 176)), .inl x3] [] 229 jr0 g := by
  intro N
  induction N with
  | zero => exact fun x3 g hi _ _ hN => absurd hN (by omega)
  | succ N ih =>
      intro x3 g hi li sm hN
      have dli : g 176 0 ≤ 2000 := li.1
      refine jGo_blk qL_law_18 ?_
      refine st_alx (fun v1 ev1 => ?_)
      replace ev1 : v1 = ((E.2.2.2.2.1 : Nat) : Int) := ev1
      have bv1 : 0 ≤ v1 ∧ v1 ≤ 3072 := by omega
      have e2 : jw32 (v1 - 6) = v1 - 6 := j32e (by omega) (by omega)
      refine And.intro (fun c3 => ?_) (fun c3 => ?_)
      · replace c3 : jw32 (v1 - 6) < x3 := c3
        show jGo E l 179 0 229 _ 1416 [.inr (.inr (.inl (-2))), .inr (.inr (.inl 0)), .inr (.inr (.inl 176)), .inl x3] [] 229 jr0 g
        refine jGo_blk qL_law_1416 ?_
        exact st_r1 (ls := []) (Or.inr rfl) rfl
      · replace c3 : x3 ≤ jw32 (v1 - 6) := by first | exact c3 | exact Int.not_le.mp c3 | exact Int.not_lt.mp c3 | exact Decidable.not_not.mp c3
        refine st_xi (N := E.2.2.2.2.1) (by decide) (by decide) rfl (show 0 ≤ x3 by omega) (show x3 < ((E.2.2.2.2.1 : Nat) : Int) by omega) (fun v4 ev4 => ?_)
        replace ev4 : v4 = jxv E (-2) x3 := ev4
        have e5 := jand_le2 v4 63 (by omega) (by omega)
        refine And.intro (fun c6 => ?_) (And.intro (fun c6 => ?_) (And.intro (fun c6 => ?_) (And.intro (fun c6 => ?_) (And.intro (fun c6 => ?_) (And.intro (fun c6 => ?_) (And.intro (fun c6 => ?_) (And.intro (fun c6 => ?_) (And.intro (fun c6 => ?_) (And.intro (fun c6 => ?_) (And.intro (fun c6 => ?_) (And.intro (fun c6 => ?_) (And.intro (fun c6 => ?_) (And.intro (fun c6 => ?_) (And.intro (fun c6 => ?_) (And.intro (fun c6 => ?_) (And.intro (fun c6 => ?_) (And.intro (fun c6 => ?_) (And.intro (fun c6 => ?_) (And.intro (fun c6 => ?_) (And.intro (fun c6 => ?_) (And.intro (fun c6 => ?_) (And.intro (fun c6 => ?_) (And.intro (fun c6 => ?_) (And.intro (fun c6 => ?_) (And.intro (fun c6 => ?_) (And.intro (fun c6 => ?_) (And.intro (fun c6 => ?_) (And.intro (fun c6 => ?_) (And.intro (fun c6 => ?_) (And.intro (fun c6 => ?_) (And.intro (fun c6 => ?_) (And.intro (fun c6 => ?_) (And.intro (fun c6 => ?_) (And.intro (fun c6 => ?_) (And.intro (fun c6 => ?_) (And.intro (fun c6 => ?_) (trivial)))))))))))))))))))))))))))))))))))))
        · replace c6 : jand v4 63 < 0 ∨ 35 < jand v4 63 := c6
          show jGo E l 179 0 229 _ 1410 [.inr (.inr (.inl (-2))), .inr (.inr (.inl 0)), .inr (.inr (.inl 176)), .inl x3] [] 229 jr0 g
          refine jGo_blk qL_law_1410 ?_
          have e7 : jw32 (x3 + 6) = x3 + 6 := j32e (by omega) (by omega)
          show jGo E l 179 0 229 _ 18 [.inr (.inr (.inl (-2))), .inr (.inr (.inl 0)), .inr (.inr (.inl 176)), .inl (jw32 (x3 + 6))] [] 229 jr0 g
          exact ih (jw32 (x3 + 6)) g (by omega) li sm (by omega)
        · replace c6 : jand v4 63 = 0 := c6
          show jGo E l 179 0 229 _ 192 [.inr (.inr (.inl (-2))), .inr (.inr (.inl 0)), .inr (.inr (.inl 176)), .inl x3] [] 229 jr0 g
          refine jGo_blk qL_law_192 ?_
          have e8 : jw32 (x3 + 1) = x3 + 1 := j32e (by omega) (by omega)
          refine st_xi (N := E.2.2.2.2.1) (by decide) (by decide) rfl (show 0 ≤ jw32 (x3 + 1) by omega) (show jw32 (x3 + 1) < ((E.2.2.2.2.1 : Nat) : Int) by omega) (fun v9 ev9 => ?_)
          replace ev9 : v9 = jxv E (-2) (jw32 (x3 + 1)) := ev9
          have e10 : jw32 (x3 + 2) = x3 + 2 := j32e (by omega) (by omega)
          refine st_xi (N := E.2.2.2.2.1) (by decide) (by decide) rfl (show 0 ≤ jw32 (x3 + 2) by omega) (show jw32 (x3 + 2) < ((E.2.2.2.2.1 : Nat) : Int) by omega) (fun v11 ev11 => ?_)
          replace ev11 : v11 = jxv E (-2) (jw32 (x3 + 2)) := ev11
          refine st_cv (na := 2) (st := [.inl v11, .inl v9, .inr (.inr (.inl 0))]) jo_0 rfl rfl rfl (c_X11_hands v9 v11 g) rfl ?_
          rintro _ _ g13 ⟨rfl, ft12, t12, rfl, ht12, zt12⟩ kt12
          replace kt12 : -2147483648 ≤ t12 ∧ t12 ≤ 2147483647 := kt12
          replace ht12 : -7 ≤ t12 ∧ t12 ≤ 400 := ht12
          replace zt12 : jTold 3 4 400 v9 v11 t12 g g13 := zt12
          have li14 : jLI g13 := jLI_fr (ft12 176 0 (by unfold w_X11_hands; omega)) (ft12 0 0 (by unfold w_X11_hands; omega)) (fun t => ft12 87 t (by unfold w_X11_hands; omega)) li
          have dli14 : g13 176 0 ≤ 2000 := li14.1
          have e16 : jw32 (x3 + 1) = x3 + 1 := j32e (by omega) (by omega)
          refine st_xi (N := E.2.2.2.2.1) (by decide) (by decide) rfl (show 0 ≤ jw32 (x3 + 1) by omega) (show jw32 (x3 + 1) < ((E.2.2.2.2.1 : Nat) : Int) by omega) (fun v17 ev17 => ?_)
          replace ev17 : v17 = jxv E (-2) (jw32 (x3 + 1)) := ev17
          have e18 : jw32 (x3 + 2) = x3 + 2 := j32e (by omega) (by omega)
          refine st_xi (N := E.2.2.2.2.1) (by decide) (by decide) rfl (show 0 ≤ jw32 (x3 + 2) by omega) (show jw32 (x3 + 2) < ((E.2.2.2.2.1 : Nat) : Int) by omega) (fun v19 ev19 => ?_)
          replace ev19 : v19 = jxv E (-2) (jw32 (x3 + 2)) := ev19
          refine st_cv (na := 2) (st := [.inl v19, .inl v17, .inr (.inr (.inl 176)), .inl t12]) jo_176 rfl rfl rfl (c_X12_hands v17 v19 g13) rfl ?_
          rintro _ _ g21 ⟨rfl, ft20, t20, rfl, ht20, zt20⟩ kt20
          replace kt20 : -2147483648 ≤ t20 ∧ t20 ≤ 2147483647 := kt20
          replace ht20 : -7 ≤ t20 ∧ t20 ≤ 400 := ht20
          replace zt20 : jTold 177 4 400 v17 v19 t20 g13 g21 := zt20
          have li22 : jLI g21 := jLI_fr (ft20 176 0 (by unfold w_X12_hands; omega)) (ft20 0 0 (by unfold w_X12_hands; omega)) (fun t => ft20 87 t (by unfold w_X12_hands; omega)) li14
          have dli22 : g21 176 0 ≤ 2000 := li22.1
          rw [show v17 = v9 by omega, show v19 = v11 by omega] at zt20
          have qe24 := jTold_eq (by decide) zt12 zt20 (fun t => ft12 177 t (by unfold w_X11_hands; omega)) (fun t => ft20 3 t (by unfold w_X12_hands; omega)) sm
          have eqe24 := qe24.1
          have sm23 := qe24.2
          clear qe24 zt12 zt20
          refine And.intro (fun c25 => ?_) (fun c25 => ?_)
          · replace c25 : t12 = t20 := c25
            show jGo E l 179 0 229 _ 1410 [.inr (.inr (.inl (-2))), .inr (.inr (.inl 0)), .inr (.inr (.inl 176)), .inl x3] [] 229 jr0 g21
            refine jGo_blk qL_law_1410 ?_
            have e26 : jw32 (x3 + 6) = x3 + 6 := j32e (by omega) (by omega)
            show jGo E l 179 0 229 _ 18 [.inr (.inr (.inl (-2))), .inr (.inr (.inl 0)), .inr (.inr (.inl 176)), .inl (jw32 (x3 + 6))] [] 229 jr0 g21
            exact ih (jw32 (x3 + 6)) g21 (by omega) li22 sm23 (by omega)
          · replace c25 : ¬ t12 = t20 := by first | exact c25 | exact Int.not_le.mp c25 | exact Int.not_lt.mp c25 | exact Decidable.not_not.mp c25
            exfalso; omega
        · replace c6 : jand v4 63 = 1 := c6
          show jGo E l 179 0 229 _ 225 [.inr (.inr (.inl (-2))), .inr (.inr (.inl 0)), .inr (.inr (.inl 176)), .inl x3] [] 229 jr0 g
          refine jGo_blk qL_law_225 ?_
          have e27 : jw32 (x3 + 1) = x3 + 1 := j32e (by omega) (by omega)
          refine st_xi (N := E.2.2.2.2.1) (by decide) (by decide) rfl (show 0 ≤ jw32 (x3 + 1) by omega) (show jw32 (x3 + 1) < ((E.2.2.2.2.1 : Nat) : Int) by omega) (fun v28 ev28 => ?_)
          replace ev28 : v28 = jxv E (-2) (jw32 (x3 + 1)) := ev28
          have e29 : jw32 (x3 + 2) = x3 + 2 := j32e (by omega) (by omega)
          refine st_xi (N := E.2.2.2.2.1) (by decide) (by decide) rfl (show 0 ≤ jw32 (x3 + 2) by omega) (show jw32 (x3 + 2) < ((E.2.2.2.2.1 : Nat) : Int) by omega) (fun v30 ev30 => ?_)
          replace ev30 : v30 = jxv E (-2) (jw32 (x3 + 2)) := ev30
          refine st_cv (na := 2) (st := [.inl v30, .inl v28, .inr (.inr (.inl 0))]) jo_0 rfl rfl rfl (c_X11_bring v28 v30 g) rfl ?_
          rintro _ _ g32 ⟨rfl, ft31, t31, rfl, ht31, zt31⟩ kt31
          replace kt31 : -2147483648 ≤ t31 ∧ t31 ≤ 2147483647 := kt31
          have li33 : jLI g32 := jLI_fr (ft31 176 0 (by unfold w_X11_bring; omega)) (ft31 0 0 (by unfold w_X11_bring; omega)) (fun t => ft31 87 t (by unfold w_X11_bring; omega)) li
          have dli33 : g32 176 0 ≤ 2000 := li33.1
          have sm34 : jSm 3 177 4 g32 := jSm_fr (fun t => ft31 3 t (by unfold w_X11_bring; omega)) (fun t => ft31 177 t (by unfold w_X11_bring; omega)) sm
          have e35 : jw32 (x3 + 1) = x3 + 1 := j32e (by omega) (by omega)
          refine st_xi (N := E.2.2.2.2.1) (by decide) (by decide) rfl (show 0 ≤ jw32 (x3 + 1) by omega) (show jw32 (x3 + 1) < ((E.2.2.2.2.1 : Nat) : Int) by omega) (fun v36 ev36 => ?_)
          replace ev36 : v36 = jxv E (-2) (jw32 (x3 + 1)) := ev36
          have e37 : jw32 (x3 + 2) = x3 + 2 := j32e (by omega) (by omega)
          refine st_xi (N := E.2.2.2.2.1) (by decide) (by decide) rfl (show 0 ≤ jw32 (x3 + 2) by omega) (show jw32 (x3 + 2) < ((E.2.2.2.2.1 : Nat) : Int) by omega) (fun v38 ev38 => ?_)
          replace ev38 : v38 = jxv E (-2) (jw32 (x3 + 2)) := ev38
          refine st_cv (na := 2) (st := [.inl v38, .inl v36, .inr (.inr (.inl 176))]) jo_176 rfl rfl rfl (c_X12_bring v36 v38 g32) rfl ?_
          rintro _ _ g40 ⟨rfl, ft39, t39, rfl, ht39, zt39⟩ kt39
          replace kt39 : -2147483648 ≤ t39 ∧ t39 ≤ 2147483647 := kt39
          have li41 : jLI g40 := jLI_fr (ft39 176 0 (by unfold w_X12_bring; omega)) (ft39 0 0 (by unfold w_X12_bring; omega)) (fun t => ft39 87 t (by unfold w_X12_bring; omega)) li33
          have dli41 : g40 176 0 ≤ 2000 := li41.1
          have sm42 : jSm 3 177 4 g40 := jSm_fr (fun t => ft39 3 t (by unfold w_X12_bring; omega)) (fun t => ft39 177 t (by unfold w_X12_bring; omega)) sm34
          show jGo E l 179 0 229 _ 1410 [.inr (.inr (.inl (-2))), .inr (.inr (.inl 0)), .inr (.inr (.inl 176)), .inl x3] [] 229 jr0 g40
          refine jGo_blk qL_law_1410 ?_
          have e43 : jw32 (x3 + 6) = x3 + 6 := j32e (by omega) (by omega)
          show jGo E l 179 0 229 _ 18 [.inr (.inr (.inl (-2))), .inr (.inr (.inl 0)), .inr (.inr (.inl 176)), .inl (jw32 (x3 + 6))] [] 229 jr0 g40
          exact ih (jw32 (x3 + 6)) g40 (by omega) li41 sm42 (by omega)
        · replace c6 : jand v4 63 = 2 := c6
          show jGo E l 179 0 229 _ 258 [.inr (.inr (.inl (-2))), .inr (.inr (.inl 0)), .inr (.inr (.inl 176)), .inl x3] [] 229 jr0 g
          refine jGo_blk qL_law_258 ?_
          have e44 : jw32 (x3 + 1) = x3 + 1 := j32e (by omega) (by omega)
          refine st_xi (N := E.2.2.2.2.1) (by decide) (by decide) rfl (show 0 ≤ jw32 (x3 + 1) by omega) (show jw32 (x3 + 1) < ((E.2.2.2.2.1 : Nat) : Int) by omega) (fun v45 ev45 => ?_)
          replace ev45 : v45 = jxv E (-2) (jw32 (x3 + 1)) := ev45
          have e46 : jw32 (x3 + 2) = x3 + 2 := j32e (by omega) (by omega)
          refine st_xi (N := E.2.2.2.2.1) (by decide) (by decide) rfl (show 0 ≤ jw32 (x3 + 2) by omega) (show jw32 (x3 + 2) < ((E.2.2.2.2.1 : Nat) : Int) by omega) (fun v47 ev47 => ?_)
          replace ev47 : v47 = jxv E (-2) (jw32 (x3 + 2)) := ev47
          refine st_cv (na := 2) (st := [.inl v47, .inl v45, .inr (.inr (.inl 0))]) jo_0 rfl rfl rfl (c_X11_row v45 v47 g) rfl ?_
          rintro _ _ g49 ⟨rfl, ft48, t48, rfl, ht48, zt48⟩ kt48
          replace kt48 : -2147483648 ≤ t48 ∧ t48 ≤ 2147483647 := kt48
          replace ht48 : -7 ≤ t48 ∧ t48 ≤ 30 := ht48
          replace zt48 : (t48 = -1 ∧ ¬ (0 ≤ v45 ∧ v45 ≤ 3)) ∨ (t48 = -4 ∧ 0 ≤ v45 ∧ v45 ≤ 3 ∧ v47 < 0) ∨ (t48 = -6 ∧ 0 ≤ v45 ∧ v45 ≤ 3 ∧ 30 < v47) ∨ (t48 = v47 ∧ 0 ≤ v45 ∧ v45 ≤ 3 ∧ 0 ≤ v47 ∧ v47 ≤ 30) := zt48
          have li50 : jLI g49 := jLI_fr (ft48 176 0 (by unfold w_X11_row; omega)) (ft48 0 0 (by unfold w_X11_row; omega)) (fun t => ft48 87 t (by unfold w_X11_row; omega)) li
          have dli50 : g49 176 0 ≤ 2000 := li50.1
          have sm51 : jSm 3 177 4 g49 := jSm_fr (fun t => ft48 3 t (by unfold w_X11_row; omega)) (fun t => ft48 177 t (by unfold w_X11_row; omega)) sm
          have e52 : jw32 (x3 + 1) = x3 + 1 := j32e (by omega) (by omega)
          refine st_xi (N := E.2.2.2.2.1) (by decide) (by decide) rfl (show 0 ≤ jw32 (x3 + 1) by omega) (show jw32 (x3 + 1) < ((E.2.2.2.2.1 : Nat) : Int) by omega) (fun v53 ev53 => ?_)
          replace ev53 : v53 = jxv E (-2) (jw32 (x3 + 1)) := ev53
          have e54 : jw32 (x3 + 2) = x3 + 2 := j32e (by omega) (by omega)
          refine st_xi (N := E.2.2.2.2.1) (by decide) (by decide) rfl (show 0 ≤ jw32 (x3 + 2) by omega) (show jw32 (x3 + 2) < ((E.2.2.2.2.1 : Nat) : Int) by omega) (fun v55 ev55 => ?_)
          replace ev55 : v55 = jxv E (-2) (jw32 (x3 + 2)) := ev55
          refine st_cv (na := 2) (st := [.inl v55, .inl v53, .inr (.inr (.inl 176))]) jo_176 rfl rfl rfl (c_X12_row v53 v55 g49) rfl ?_
          rintro _ _ g57 ⟨rfl, ft56, t56, rfl, ht56, zt56⟩ kt56
          replace kt56 : -2147483648 ≤ t56 ∧ t56 ≤ 2147483647 := kt56
          replace ht56 : -7 ≤ t56 ∧ t56 ≤ 30 := ht56
          replace zt56 : (t56 = -1 ∧ ¬ (0 ≤ v53 ∧ v53 ≤ 3)) ∨ (t56 = -4 ∧ 0 ≤ v53 ∧ v53 ≤ 3 ∧ v55 < 0) ∨ (t56 = -6 ∧ 0 ≤ v53 ∧ v53 ≤ 3 ∧ 30 < v55) ∨ (t56 = v55 ∧ 0 ≤ v53 ∧ v53 ≤ 3 ∧ 0 ≤ v55 ∧ v55 ≤ 30) := zt56
          have li58 : jLI g57 := jLI_fr (ft56 176 0 (by unfold w_X12_row; omega)) (ft56 0 0 (by unfold w_X12_row; omega)) (fun t => ft56 87 t (by unfold w_X12_row; omega)) li50
          have dli58 : g57 176 0 ≤ 2000 := li58.1
          have sm59 : jSm 3 177 4 g57 := jSm_fr (fun t => ft56 3 t (by unfold w_X12_row; omega)) (fun t => ft56 177 t (by unfold w_X12_row; omega)) sm51
          show jGo E l 179 0 229 _ 1410 [.inr (.inr (.inl (-2))), .inr (.inr (.inl 0)), .inr (.inr (.inl 176)), .inl x3] [] 229 jr0 g57
          refine jGo_blk qL_law_1410 ?_
          have e60 : jw32 (x3 + 6) = x3 + 6 := j32e (by omega) (by omega)
          show jGo E l 179 0 229 _ 18 [.inr (.inr (.inl (-2))), .inr (.inr (.inl 0)), .inr (.inr (.inl 176)), .inl (jw32 (x3 + 6))] [] 229 jr0 g57
          exact ih (jw32 (x3 + 6)) g57 (by omega) li58 sm59 (by omega)
        · replace c6 : jand v4 63 = 3 := c6
          show jGo E l 179 0 229 _ 291 [.inr (.inr (.inl (-2))), .inr (.inr (.inl 0)), .inr (.inr (.inl 176)), .inl x3] [] 229 jr0 g
          refine jGo_blk qL_law_291 ?_
          have e61 : jw32 (x3 + 1) = x3 + 1 := j32e (by omega) (by omega)
          refine st_xi (N := E.2.2.2.2.1) (by decide) (by decide) rfl (show 0 ≤ jw32 (x3 + 1) by omega) (show jw32 (x3 + 1) < ((E.2.2.2.2.1 : Nat) : Int) by omega) (fun v62 ev62 => ?_)
          replace ev62 : v62 = jxv E (-2) (jw32 (x3 + 1)) := ev62
          refine st_cv (na := 1) (st := [.inl v62, .inr (.inr (.inl 0))]) jo_0 rfl rfl rfl (c_X11_lose v62 g) rfl ?_
          rintro _ _ g64 ⟨rfl, ft63, t63, rfl, ht63, zt63⟩ kt63
          replace kt63 : -2147483648 ≤ t63 ∧ t63 ≤ 2147483647 := kt63
          replace ht63 : -7 ≤ t63 ∧ t63 ≤ 1 := ht63
          have li65 : jLI g64 := jLI_fr (ft63 176 0 (by unfold w_X11_lose; omega)) (ft63 0 0 (by unfold w_X11_lose; omega)) (fun t => ft63 87 t (by unfold w_X11_lose; omega)) li
          have dli65 : g64 176 0 ≤ 2000 := li65.1
          have sm66 : jSm 3 177 4 g64 := jSm_fr (fun t => ft63 3 t (by unfold w_X11_lose; omega)) (fun t => ft63 177 t (by unfold w_X11_lose; omega)) sm
          have e67 : jw32 (x3 + 1) = x3 + 1 := j32e (by omega) (by omega)
          refine st_xi (N := E.2.2.2.2.1) (by decide) (by decide) rfl (show 0 ≤ jw32 (x3 + 1) by omega) (show jw32 (x3 + 1) < ((E.2.2.2.2.1 : Nat) : Int) by omega) (fun v68 ev68 => ?_)
          replace ev68 : v68 = jxv E (-2) (jw32 (x3 + 1)) := ev68
          refine st_cv (na := 1) (st := [.inl v68, .inr (.inr (.inl 176))]) jo_176 rfl rfl rfl (c_X12_lose v68 g64) rfl ?_
          rintro _ _ g70 ⟨rfl, ft69, t69, rfl, ht69, zt69⟩ kt69
          replace kt69 : -2147483648 ≤ t69 ∧ t69 ≤ 2147483647 := kt69
          replace ht69 : -7 ≤ t69 ∧ t69 ≤ 1 := ht69
          have li71 : jLI g70 := jLI_fr (ft69 176 0 (by unfold w_X12_lose; omega)) (ft69 0 0 (by unfold w_X12_lose; omega)) (fun t => ft69 87 t (by unfold w_X12_lose; omega)) li65
          have dli71 : g70 176 0 ≤ 2000 := li71.1
          have sm72 : jSm 3 177 4 g70 := jSm_fr (fun t => ft69 3 t (by unfold w_X12_lose; omega)) (fun t => ft69 177 t (by unfold w_X12_lose; omega)) sm66
          show jGo E l 179 0 229 _ 1410 [.inr (.inr (.inl (-2))), .inr (.inr (.inl 0)), .inr (.inr (.inl 176)), .inl x3] [] 229 jr0 g70
          refine jGo_blk qL_law_1410 ?_
          have e73 : jw32 (x3 + 6) = x3 + 6 := j32e (by omega) (by omega)
          show jGo E l 179 0 229 _ 18 [.inr (.inr (.inl (-2))), .inr (.inr (.inl 0)), .inr (.inr (.inl 176)), .inl (jw32 (x3 + 6))] [] 229 jr0 g70
          exact ih (jw32 (x3 + 6)) g70 (by omega) li71 sm72 (by omega)
        · replace c6 : jand v4 63 = 4 := c6
          show jGo E l 179 0 229 _ 314 [.inr (.inr (.inl (-2))), .inr (.inr (.inl 0)), .inr (.inr (.inl 176)), .inl x3] [] 229 jr0 g
          refine jGo_blk qL_law_314 ?_
          have e74 : jw32 (x3 + 1) = x3 + 1 := j32e (by omega) (by omega)
          refine st_xi (N := E.2.2.2.2.1) (by decide) (by decide) rfl (show 0 ≤ jw32 (x3 + 1) by omega) (show jw32 (x3 + 1) < ((E.2.2.2.2.1 : Nat) : Int) by omega) (fun v75 ev75 => ?_)
          replace ev75 : v75 = jxv E (-2) (jw32 (x3 + 1)) := ev75
          have e76 : jw32 (x3 + 2) = x3 + 2 := j32e (by omega) (by omega)
          refine st_xi (N := E.2.2.2.2.1) (by decide) (by decide) rfl (show 0 ≤ jw32 (x3 + 2) by omega) (show jw32 (x3 + 2) < ((E.2.2.2.2.1 : Nat) : Int) by omega) (fun v77 ev77 => ?_)
          replace ev77 : v77 = jxv E (-2) (jw32 (x3 + 2)) := ev77
          have e78 : jw32 (x3 + 3) = x3 + 3 := j32e (by omega) (by omega)
          refine st_xi (N := E.2.2.2.2.1) (by decide) (by decide) rfl (show 0 ≤ jw32 (x3 + 3) by omega) (show jw32 (x3 + 3) < ((E.2.2.2.2.1 : Nat) : Int) by omega) (fun v79 ev79 => ?_)
          replace ev79 : v79 = jxv E (-2) (jw32 (x3 + 3)) := ev79
          refine st_cv (na := 3) (st := [.inl v79, .inl v77, .inl v75, .inr (.inr (.inl 0))]) jo_0 rfl rfl rfl (c_X11_put v75 v77 v79 g) rfl ?_
          rintro _ _ g81 ⟨rfl, ft80, t80, rfl, ht80, zt80⟩ kt80
          replace kt80 : -2147483648 ≤ t80 ∧ t80 ≤ 2147483647 := kt80
          replace ht80 : -7 ≤ t80 ∧ t80 ≤ 400 := ht80
          have li82 : jLI g81 := jLI_fr (ft80 176 0 (by unfold w_X11_put; omega)) (ft80 0 0 (by unfold w_X11_put; omega)) (fun t => ft80 87 t (by unfold w_X11_put; omega)) li
          have dli82 : g81 176 0 ≤ 2000 := li82.1
          have sm83 : jSm 3 177 4 g81 := jSm_fr (fun t => ft80 3 t (by unfold w_X11_put; omega)) (fun t => ft80 177 t (by unfold w_X11_put; omega)) sm
          have e84 : jw32 (x3 + 1) = x3 + 1 := j32e (by omega) (by omega)
          refine st_xi (N := E.2.2.2.2.1) (by decide) (by decide) rfl (show 0 ≤ jw32 (x3 + 1) by omega) (show jw32 (x3 + 1) < ((E.2.2.2.2.1 : Nat) : Int) by omega) (fun v85 ev85 => ?_)
          replace ev85 : v85 = jxv E (-2) (jw32 (x3 + 1)) := ev85
          have e86 : jw32 (x3 + 2) = x3 + 2 := j32e (by omega) (by omega)
          refine st_xi (N := E.2.2.2.2.1) (by decide) (by decide) rfl (show 0 ≤ jw32 (x3 + 2) by omega) (show jw32 (x3 + 2) < ((E.2.2.2.2.1 : Nat) : Int) by omega) (fun v87 ev87 => ?_)
          replace ev87 : v87 = jxv E (-2) (jw32 (x3 + 2)) := ev87
          have e88 : jw32 (x3 + 3) = x3 + 3 := j32e (by omega) (by omega)
          refine st_xi (N := E.2.2.2.2.1) (by decide) (by decide) rfl (show 0 ≤ jw32 (x3 + 3) by omega) (show jw32 (x3 + 3) < ((E.2.2.2.2.1 : Nat) : Int) by omega) (fun v89 ev89 => ?_)
          replace ev89 : v89 = jxv E (-2) (jw32 (x3 + 3)) := ev89
          refine st_cv (na := 3) (st := [.inl v89, .inl v87, .inl v85, .inr (.inr (.inl 176))]) jo_176 rfl rfl rfl (c_X12_put v85 v87 v89 g81) rfl ?_
          rintro _ _ g91 ⟨rfl, ft90, t90, rfl, ht90, zt90⟩ kt90
          replace kt90 : -2147483648 ≤ t90 ∧ t90 ≤ 2147483647 := kt90
          replace ht90 : -7 ≤ t90 ∧ t90 ≤ 400 := ht90
          have li92 : jLI g91 := jLI_fr (ft90 176 0 (by unfold w_X12_put; omega)) (ft90 0 0 (by unfold w_X12_put; omega)) (fun t => ft90 87 t (by unfold w_X12_put; omega)) li82
          have dli92 : g91 176 0 ≤ 2000 := li92.1
          have sm93 : jSm 3 177 4 g91 := jSm_fr (fun t => ft90 3 t (by unfold w_X12_put; omega)) (fun t => ft90 177 t (by unfold w_X12_put; omega)) sm83
          show jGo E l 179 0 229 _ 1410 [.inr (.inr (.inl (-2))), .inr (.inr (.inl 0)), .inr (.inr (.inl 176)), .inl x3] [] 229 jr0 g91
          refine jGo_blk qL_law_1410 ?_
          have e94 : jw32 (x3 + 6) = x3 + 6 := j32e (by omega) (by omega)
          show jGo E l 179 0 229 _ 18 [.inr (.inr (.inl (-2))), .inr (.inr (.inl 0)), .inr (.inr (.inl 176)), .inl (jw32 (x3 + 6))] [] 229 jr0 g91
          exact ih (jw32 (x3 + 6)) g91 (by omega) li92 sm93 (by omega)
        · replace c6 : jand v4 63 = 5 := c6
          show jGo E l 179 0 229 _ 357 [.inr (.inr (.inl (-2))), .inr (.inr (.inl 0)), .inr (.inr (.inl 176)), .inl x3] [] 229 jr0 g
          refine jGo_blk qL_law_357 ?_
          have e95 : jw32 (x3 + 1) = x3 + 1 := j32e (by omega) (by omega)
          refine st_xi (N := E.2.2.2.2.1) (by decide) (by decide) rfl (show 0 ≤ jw32 (x3 + 1) by omega) (show jw32 (x3 + 1) < ((E.2.2.2.2.1 : Nat) : Int) by omega) (fun v96 ev96 => ?_)
          replace ev96 : v96 = jxv E (-2) (jw32 (x3 + 1)) := ev96
          have e97 : jw32 (x3 + 2) = x3 + 2 := j32e (by omega) (by omega)
          refine st_xi (N := E.2.2.2.2.1) (by decide) (by decide) rfl (show 0 ≤ jw32 (x3 + 2) by omega) (show jw32 (x3 + 2) < ((E.2.2.2.2.1 : Nat) : Int) by omega) (fun v98 ev98 => ?_)
          replace ev98 : v98 = jxv E (-2) (jw32 (x3 + 2)) := ev98
          have e99 : jw32 (x3 + 3) = x3 + 3 := j32e (by omega) (by omega)
          refine st_xi (N := E.2.2.2.2.1) (by decide) (by decide) rfl (show 0 ≤ jw32 (x3 + 3) by omega) (show jw32 (x3 + 3) < ((E.2.2.2.2.1 : Nat) : Int) by omega) (fun v100 ev100 => ?_)
          replace ev100 : v100 = jxv E (-2) (jw32 (x3 + 3)) := ev100
          have e101 : jw32 (x3 + 4) = x3 + 4 := j32e (by omega) (by omega)
          refine st_xi (N := E.2.2.2.2.1) (by decide) (by decide) rfl (show 0 ≤ jw32 (x3 + 4) by omega) (show jw32 (x3 + 4) < ((E.2.2.2.2.1 : Nat) : Int) by omega) (fun v102 ev102 => ?_)
          replace ev102 : v102 = jxv E (-2) (jw32 (x3 + 4)) := ev102
          have e103 : jw32 (x3 + 5) = x3 + 5 := j32e (by omega) (by omega)
          refine st_xi (N := E.2.2.2.2.1) (by decide) (by decide) rfl (show 0 ≤ jw32 (x3 + 5) by omega) (show jw32 (x3 + 5) < ((E.2.2.2.2.1 : Nat) : Int) by omega) (fun v104 ev104 => ?_)
          replace ev104 : v104 = jxv E (-2) (jw32 (x3 + 5)) := ev104
          refine st_cv (na := 5) (st := [.inl v104, .inl v102, .inl v100, .inl v98, .inl v96, .inr (.inr (.inl 0))]) jo_0 rfl rfl rfl (c_X11_copy v96 v98 v100 v102 v104 g) rfl ?_
          rintro _ _ g106 ⟨rfl, ft105, t105, rfl, ht105, zt105⟩ kt105
          replace kt105 : -2147483648 ≤ t105 ∧ t105 ≤ 2147483647 := kt105
          have li107 : jLI g106 := jLI_fr (ft105 176 0 (by unfold w_X11_copy; omega)) (ft105 0 0 (by unfold w_X11_copy; omega)) (fun t => ft105 87 t (by unfold w_X11_copy; omega)) li
          have dli107 : g106 176 0 ≤ 2000 := li107.1
          have sm108 : jSm 3 177 4 g106 := jSm_fr (fun t => ft105 3 t (by unfold w_X11_copy; omega)) (fun t => ft105 177 t (by unfold w_X11_copy; omega)) sm
          have e109 : jw32 (x3 + 1) = x3 + 1 := j32e (by omega) (by omega)
          refine st_xi (N := E.2.2.2.2.1) (by decide) (by decide) rfl (show 0 ≤ jw32 (x3 + 1) by omega) (show jw32 (x3 + 1) < ((E.2.2.2.2.1 : Nat) : Int) by omega) (fun v110 ev110 => ?_)
          replace ev110 : v110 = jxv E (-2) (jw32 (x3 + 1)) := ev110
          have e111 : jw32 (x3 + 2) = x3 + 2 := j32e (by omega) (by omega)
          refine st_xi (N := E.2.2.2.2.1) (by decide) (by decide) rfl (show 0 ≤ jw32 (x3 + 2) by omega) (show jw32 (x3 + 2) < ((E.2.2.2.2.1 : Nat) : Int) by omega) (fun v112 ev112 => ?_)
          replace ev112 : v112 = jxv E (-2) (jw32 (x3 + 2)) := ev112
          have e113 : jw32 (x3 + 3) = x3 + 3 := j32e (by omega) (by omega)
          refine st_xi (N := E.2.2.2.2.1) (by decide) (by decide) rfl (show 0 ≤ jw32 (x3 + 3) by omega) (show jw32 (x3 + 3) < ((E.2.2.2.2.1 : Nat) : Int) by omega) (fun v114 ev114 => ?_)
          replace ev114 : v114 = jxv E (-2) (jw32 (x3 + 3)) := ev114
          have e115 : jw32 (x3 + 4) = x3 + 4 := j32e (by omega) (by omega)
          refine st_xi (N := E.2.2.2.2.1) (by decide) (by decide) rfl (show 0 ≤ jw32 (x3 + 4) by omega) (show jw32 (x3 + 4) < ((E.2.2.2.2.1 : Nat) : Int) by omega) (fun v116 ev116 => ?_)
          replace ev116 : v116 = jxv E (-2) (jw32 (x3 + 4)) := ev116
          have e117 : jw32 (x3 + 5) = x3 + 5 := j32e (by omega) (by omega)
          refine st_xi (N := E.2.2.2.2.1) (by decide) (by decide) rfl (show 0 ≤ jw32 (x3 + 5) by omega) (show jw32 (x3 + 5) < ((E.2.2.2.2.1 : Nat) : Int) by omega) (fun v118 ev118 => ?_)
          replace ev118 : v118 = jxv E (-2) (jw32 (x3 + 5)) := ev118
          refine st_cv (na := 5) (st := [.inl v118, .inl v116, .inl v114, .inl v112, .inl v110, .inr (.inr (.inl 176))]) jo_176 rfl rfl rfl (c_X12_copy v110 v112 v114 v116 v118 g106) rfl ?_
          rintro _ _ g120 ⟨rfl, ft119, t119, rfl, ht119, zt119⟩ kt119
          replace kt119 : -2147483648 ≤ t119 ∧ t119 ≤ 2147483647 := kt119
          replace ht119 : -7 ≤ t119 ∧ t119 ≤ 30 := ht119
          have li121 : jLI g120 := jLI_fr (ft119 176 0 (by unfold w_X12_copy; omega)) (ft119 0 0 (by unfold w_X12_copy; omega)) (fun t => ft119 87 t (by unfold w_X12_copy; omega)) li107
          have dli121 : g120 176 0 ≤ 2000 := li121.1
          have sm122 : jSm 3 177 4 g120 := jSm_fr (fun t => ft119 3 t (by unfold w_X12_copy; omega)) (fun t => ft119 177 t (by unfold w_X12_copy; omega)) sm108
          show jGo E l 179 0 229 _ 1410 [.inr (.inr (.inl (-2))), .inr (.inr (.inl 0)), .inr (.inr (.inl 176)), .inl x3] [] 229 jr0 g120
          refine jGo_blk qL_law_1410 ?_
          have e123 : jw32 (x3 + 6) = x3 + 6 := j32e (by omega) (by omega)
          show jGo E l 179 0 229 _ 18 [.inr (.inr (.inl (-2))), .inr (.inr (.inl 0)), .inr (.inr (.inl 176)), .inl (jw32 (x3 + 6))] [] 229 jr0 g120
          exact ih (jw32 (x3 + 6)) g120 (by omega) li121 sm122 (by omega)
        · replace c6 : jand v4 63 = 6 := c6
          show jGo E l 179 0 229 _ 420 [.inr (.inr (.inl (-2))), .inr (.inr (.inl 0)), .inr (.inr (.inl 176)), .inl x3] [] 229 jr0 g
          refine jGo_blk qL_law_420 ?_
          have e124 : jw32 (x3 + 1) = x3 + 1 := j32e (by omega) (by omega)
          refine st_xi (N := E.2.2.2.2.1) (by decide) (by decide) rfl (show 0 ≤ jw32 (x3 + 1) by omega) (show jw32 (x3 + 1) < ((E.2.2.2.2.1 : Nat) : Int) by omega) (fun v125 ev125 => ?_)
          replace ev125 : v125 = jxv E (-2) (jw32 (x3 + 1)) := ev125
          have e126 : jw32 (x3 + 2) = x3 + 2 := j32e (by omega) (by omega)
          refine st_xi (N := E.2.2.2.2.1) (by decide) (by decide) rfl (show 0 ≤ jw32 (x3 + 2) by omega) (show jw32 (x3 + 2) < ((E.2.2.2.2.1 : Nat) : Int) by omega) (fun v127 ev127 => ?_)
          replace ev127 : v127 = jxv E (-2) (jw32 (x3 + 2)) := ev127
          refine st_cv (na := 2) (st := [.inl v127, .inl v125, .inr (.inr (.inl 0))]) jo_0 rfl rfl rfl (c_X11_lead v125 v127 g) rfl ?_
          rintro _ _ g129 ⟨rfl, ft128, t128, rfl, ht128, zt128⟩ kt128
          replace kt128 : -2147483648 ≤ t128 ∧ t128 ≤ 2147483647 := kt128
          replace ht128 : -1 ≤ t128 ∧ t128 ≤ 2000000007 := ht128
          have li130 : jLI g129 := jLI_fr (ft128 176 0 (by unfold w_X11_lead; omega)) (ft128 0 0 (by unfold w_X11_lead; omega)) (fun t => ft128 87 t (by unfold w_X11_lead; omega)) li
          have dli130 : g129 176 0 ≤ 2000 := li130.1
          have sm131 : jSm 3 177 4 g129 := jSm_fr (fun t => ft128 3 t (by unfold w_X11_lead; omega)) (fun t => ft128 177 t (by unfold w_X11_lead; omega)) sm
          have e132 : jw32 (x3 + 1) = x3 + 1 := j32e (by omega) (by omega)
          refine st_xi (N := E.2.2.2.2.1) (by decide) (by decide) rfl (show 0 ≤ jw32 (x3 + 1) by omega) (show jw32 (x3 + 1) < ((E.2.2.2.2.1 : Nat) : Int) by omega) (fun v133 ev133 => ?_)
          replace ev133 : v133 = jxv E (-2) (jw32 (x3 + 1)) := ev133
          have e134 : jw32 (x3 + 2) = x3 + 2 := j32e (by omega) (by omega)
          refine st_xi (N := E.2.2.2.2.1) (by decide) (by decide) rfl (show 0 ≤ jw32 (x3 + 2) by omega) (show jw32 (x3 + 2) < ((E.2.2.2.2.1 : Nat) : Int) by omega) (fun v135 ev135 => ?_)
          replace ev135 : v135 = jxv E (-2) (jw32 (x3 + 2)) := ev135
          refine st_cv (na := 2) (st := [.inl v135, .inl v133, .inr (.inr (.inl 176))]) jo_176 rfl rfl rfl (c_X12_lead v133 v135 g129) rfl ?_
          rintro _ _ g137 ⟨rfl, ft136, t136, rfl, ht136, zt136⟩ kt136
          replace kt136 : -2147483648 ≤ t136 ∧ t136 ≤ 2147483647 := kt136
          replace ht136 : -1 ≤ t136 ∧ t136 ≤ 2000000007 := ht136
          have li138 : jLI g137 := jLI_fr (ft136 176 0 (by unfold w_X12_lead; omega)) (ft136 0 0 (by unfold w_X12_lead; omega)) (fun t => ft136 87 t (by unfold w_X12_lead; omega)) li130
          have dli138 : g137 176 0 ≤ 2000 := li138.1
          have sm139 : jSm 3 177 4 g137 := jSm_fr (fun t => ft136 3 t (by unfold w_X12_lead; omega)) (fun t => ft136 177 t (by unfold w_X12_lead; omega)) sm131
          show jGo E l 179 0 229 _ 1410 [.inr (.inr (.inl (-2))), .inr (.inr (.inl 0)), .inr (.inr (.inl 176)), .inl x3] [] 229 jr0 g137
          refine jGo_blk qL_law_1410 ?_
          have e140 : jw32 (x3 + 6) = x3 + 6 := j32e (by omega) (by omega)
          show jGo E l 179 0 229 _ 18 [.inr (.inr (.inl (-2))), .inr (.inr (.inl 0)), .inr (.inr (.inl 176)), .inl (jw32 (x3 + 6))] [] 229 jr0 g137
          exact ih (jw32 (x3 + 6)) g137 (by omega) li138 sm139 (by omega)
        · replace c6 : jand v4 63 = 7 := c6
          show jGo E l 179 0 229 _ 453 [.inr (.inr (.inl (-2))), .inr (.inr (.inl 0)), .inr (.inr (.inl 176)), .inl x3] [] 229 jr0 g
          refine jGo_blk qL_law_453 ?_
          have e141 : jw32 (x3 + 1) = x3 + 1 := j32e (by omega) (by omega)
          refine st_xi (N := E.2.2.2.2.1) (by decide) (by decide) rfl (show 0 ≤ jw32 (x3 + 1) by omega) (show jw32 (x3 + 1) < ((E.2.2.2.2.1 : Nat) : Int) by omega) (fun v142 ev142 => ?_)
          replace ev142 : v142 = jxv E (-2) (jw32 (x3 + 1)) := ev142
          have e143 : jw32 (x3 + 2) = x3 + 2 := j32e (by omega) (by omega)
          refine st_xi (N := E.2.2.2.2.1) (by decide) (by decide) rfl (show 0 ≤ jw32 (x3 + 2) by omega) (show jw32 (x3 + 2) < ((E.2.2.2.2.1 : Nat) : Int) by omega) (fun v144 ev144 => ?_)
          replace ev144 : v144 = jxv E (-2) (jw32 (x3 + 2)) := ev144
          refine st_cv (na := 2) (st := [.inl v144, .inl v142, .inr (.inr (.inl 0))]) jo_0 rfl rfl rfl (c_X11_handsOn v142 v144 g) rfl ?_
          rintro _ _ g146 ⟨rfl, ft145, t145, rfl, ht145, zt145⟩ kt145
          replace kt145 : -2147483648 ≤ t145 ∧ t145 ≤ 2147483647 := kt145
          replace ht145 : -7 ≤ t145 ∧ t145 ≤ 400 := ht145
          have li147 : jLI g146 := jLI_fr (ft145 176 0 (by unfold w_X11_handsOn; omega)) (ft145 0 0 (by unfold w_X11_handsOn; omega)) (fun t => ft145 87 t (by unfold w_X11_handsOn; omega)) li
          have dli147 : g146 176 0 ≤ 2000 := li147.1
          have sm148 : jSm 3 177 4 g146 := jSm_fr (fun t => ft145 3 t (by unfold w_X11_handsOn; omega)) (fun t => ft145 177 t (by unfold w_X11_handsOn; omega)) sm
          have e149 : jw32 (x3 + 1) = x3 + 1 := j32e (by omega) (by omega)
          refine st_xi (N := E.2.2.2.2.1) (by decide) (by decide) rfl (show 0 ≤ jw32 (x3 + 1) by omega) (show jw32 (x3 + 1) < ((E.2.2.2.2.1 : Nat) : Int) by omega) (fun v150 ev150 => ?_)
          replace ev150 : v150 = jxv E (-2) (jw32 (x3 + 1)) := ev150
          have e151 : jw32 (x3 + 2) = x3 + 2 := j32e (by omega) (by omega)
          refine st_xi (N := E.2.2.2.2.1) (by decide) (by decide) rfl (show 0 ≤ jw32 (x3 + 2) by omega) (show jw32 (x3 + 2) < ((E.2.2.2.2.1 : Nat) : Int) by omega) (fun v152 ev152 => ?_)
          replace ev152 : v152 = jxv E (-2) (jw32 (x3 + 2)) := ev152
          refine st_cv (na := 2) (st := [.inl v152, .inl v150, .inr (.inr (.inl 176))]) jo_176 rfl rfl rfl (c_X12_handsOn v150 v152 g146) rfl ?_
          rintro _ _ g154 ⟨rfl, ft153, t153, rfl, ht153, zt153⟩ kt153
          replace kt153 : -2147483648 ≤ t153 ∧ t153 ≤ 2147483647 := kt153
          replace ht153 : -7 ≤ t153 ∧ t153 ≤ 400 := ht153
          have li155 : jLI g154 := jLI_fr (ft153 176 0 (by unfold w_X12_handsOn; omega)) (ft153 0 0 (by unfold w_X12_handsOn; omega)) (fun t => ft153 87 t (by unfold w_X12_handsOn; omega)) li147
          have dli155 : g154 176 0 ≤ 2000 := li155.1
          have sm156 : jSm 3 177 4 g154 := jSm_fr (fun t => ft153 3 t (by unfold w_X12_handsOn; omega)) (fun t => ft153 177 t (by unfold w_X12_handsOn; omega)) sm148
          show jGo E l 179 0 229 _ 1410 [.inr (.inr (.inl (-2))), .inr (.inr (.inl 0)), .inr (.inr (.inl 176)), .inl x3] [] 229 jr0 g154
          refine jGo_blk qL_law_1410 ?_
          have e157 : jw32 (x3 + 6) = x3 + 6 := j32e (by omega) (by omega)
          show jGo E l 179 0 229 _ 18 [.inr (.inr (.inl (-2))), .inr (.inr (.inl 0)), .inr (.inr (.inl 176)), .inl (jw32 (x3 + 6))] [] 229 jr0 g154
          exact ih (jw32 (x3 + 6)) g154 (by omega) li155 sm156 (by omega)
        · replace c6 : jand v4 63 = 8 := c6
          show jGo E l 179 0 229 _ 486 [.inr (.inr (.inl (-2))), .inr (.inr (.inl 0)), .inr (.inr (.inl 176)), .inl x3] [] 229 jr0 g
          refine jGo_blk qL_law_486 ?_
          have e158 : jw32 (x3 + 1) = x3 + 1 := j32e (by omega) (by omega)
          refine st_xi (N := E.2.2.2.2.1) (by decide) (by decide) rfl (show 0 ≤ jw32 (x3 + 1) by omega) (show jw32 (x3 + 1) < ((E.2.2.2.2.1 : Nat) : Int) by omega) (fun v159 ev159 => ?_)
          replace ev159 : v159 = jxv E (-2) (jw32 (x3 + 1)) := ev159
          have e160 : jw32 (x3 + 2) = x3 + 2 := j32e (by omega) (by omega)
          refine st_xi (N := E.2.2.2.2.1) (by decide) (by decide) rfl (show 0 ≤ jw32 (x3 + 2) by omega) (show jw32 (x3 + 2) < ((E.2.2.2.2.1 : Nat) : Int) by omega) (fun v161 ev161 => ?_)
          replace ev161 : v161 = jxv E (-2) (jw32 (x3 + 2)) := ev161
          have e162 : jw32 (x3 + 3) = x3 + 3 := j32e (by omega) (by omega)
          refine st_xi (N := E.2.2.2.2.1) (by decide) (by decide) rfl (show 0 ≤ jw32 (x3 + 3) by omega) (show jw32 (x3 + 3) < ((E.2.2.2.2.1 : Nat) : Int) by omega) (fun v163 ev163 => ?_)
          replace ev163 : v163 = jxv E (-2) (jw32 (x3 + 3)) := ev163
          have e164 : jw32 (x3 + 4) = x3 + 4 := j32e (by omega) (by omega)
          refine st_xi (N := E.2.2.2.2.1) (by decide) (by decide) rfl (show 0 ≤ jw32 (x3 + 4) by omega) (show jw32 (x3 + 4) < ((E.2.2.2.2.1 : Nat) : Int) by omega) (fun v165 ev165 => ?_)
          replace ev165 : v165 = jxv E (-2) (jw32 (x3 + 4)) := ev165
          refine st_cv (na := 4) (st := [.inl v165, .inl v163, .inl v161, .inl v159, .inr (.inr (.inl 0))]) jo_0 rfl rfl rfl (c_X11_decree v159 v161 v163 v165 g) rfl ?_
          rintro _ _ g167 ⟨rfl, ft166, t166, rfl, ht166, zt166⟩ kt166
          replace kt166 : -2147483648 ≤ t166 ∧ t166 ≤ 2147483647 := kt166
          replace ht166 : -7 ≤ t166 ∧ t166 ≤ 39 := ht166
          have li168 : jLI g167 := jLI_fr (ft166 176 0 (by unfold w_X11_decree; omega)) (ft166 0 0 (by unfold w_X11_decree; omega)) (fun t => ft166 87 t (by unfold w_X11_decree; omega)) li
          have dli168 : g167 176 0 ≤ 2000 := li168.1
          have sm169 : jSm 3 177 4 g167 := jSm_fr (fun t => ft166 3 t (by unfold w_X11_decree; omega)) (fun t => ft166 177 t (by unfold w_X11_decree; omega)) sm
          have e170 : jw32 (x3 + 1) = x3 + 1 := j32e (by omega) (by omega)
          refine st_xi (N := E.2.2.2.2.1) (by decide) (by decide) rfl (show 0 ≤ jw32 (x3 + 1) by omega) (show jw32 (x3 + 1) < ((E.2.2.2.2.1 : Nat) : Int) by omega) (fun v171 ev171 => ?_)
          replace ev171 : v171 = jxv E (-2) (jw32 (x3 + 1)) := ev171
          have e172 : jw32 (x3 + 2) = x3 + 2 := j32e (by omega) (by omega)
          refine st_xi (N := E.2.2.2.2.1) (by decide) (by decide) rfl (show 0 ≤ jw32 (x3 + 2) by omega) (show jw32 (x3 + 2) < ((E.2.2.2.2.1 : Nat) : Int) by omega) (fun v173 ev173 => ?_)
          replace ev173 : v173 = jxv E (-2) (jw32 (x3 + 2)) := ev173
          have e174 : jw32 (x3 + 3) = x3 + 3 := j32e (by omega) (by omega)
          refine st_xi (N := E.2.2.2.2.1) (by decide) (by decide) rfl (show 0 ≤ jw32 (x3 + 3) by omega) (show jw32 (x3 + 3) < ((E.2.2.2.2.1 : Nat) : Int) by omega) (fun v175 ev175 => ?_)
          replace ev175 : v175 = jxv E (-2) (jw32 (x3 + 3)) := ev175
          have e176 : jw32 (x3 + 4) = x3 + 4 := j32e (by omega) (by omega)
          refine st_xi (N := E.2.2.2.2.1) (by decide) (by decide) rfl (show 0 ≤ jw32 (x3 + 4) by omega) (show jw32 (x3 + 4) < ((E.2.2.2.2.1 : Nat) : Int) by omega) (fun v177 ev177 => ?_)
          replace ev177 : v177 = jxv E (-2) (jw32 (x3 + 4)) := ev177
          refine st_cv (na := 4) (st := [.inl v177, .inl v175, .inl v173, .inl v171, .inr (.inr (.inl 176))]) jo_176 rfl rfl rfl (c_X12_decree v171 v173 v175 v177 g167) rfl ?_
          rintro _ _ g179 ⟨rfl, ft178, t178, rfl, ht178, zt178⟩ kt178
          replace kt178 : -2147483648 ≤ t178 ∧ t178 ≤ 2147483647 := kt178
          replace ht178 : -7 ≤ t178 ∧ t178 ≤ 39 := ht178
          have li180 : jLI g179 := jLI_fr (ft178 176 0 (by unfold w_X12_decree; omega)) (ft178 0 0 (by unfold w_X12_decree; omega)) (fun t => ft178 87 t (by unfold w_X12_decree; omega)) li168
          have dli180 : g179 176 0 ≤ 2000 := li180.1
          have sm181 : jSm 3 177 4 g179 := jSm_fr (fun t => ft178 3 t (by unfold w_X12_decree; omega)) (fun t => ft178 177 t (by unfold w_X12_decree; omega)) sm169
          show jGo E l 179 0 229 _ 1410 [.inr (.inr (.inl (-2))), .inr (.inr (.inl 0)), .inr (.inr (.inl 176)), .inl x3] [] 229 jr0 g179
          refine jGo_blk qL_law_1410 ?_
          have e182 : jw32 (x3 + 6) = x3 + 6 := j32e (by omega) (by omega)
          show jGo E l 179 0 229 _ 18 [.inr (.inr (.inl (-2))), .inr (.inr (.inl 0)), .inr (.inr (.inl 176)), .inl (jw32 (x3 + 6))] [] 229 jr0 g179
          exact ih (jw32 (x3 + 6)) g179 (by omega) li180 sm181 (by omega)
        · replace c6 : jand v4 63 = 9 := c6
          show jGo E l 179 0 229 _ 539 [.inr (.inr (.inl (-2))), .inr (.inr (.inl 0)), .inr (.inr (.inl 176)), .inl x3] [] 229 jr0 g
          refine jGo_blk qL_law_539 ?_
          have e183 : jw32 (x3 + 1) = x3 + 1 := j32e (by omega) (by omega)
          refine st_xi (N := E.2.2.2.2.1) (by decide) (by decide) rfl (show 0 ≤ jw32 (x3 + 1) by omega) (show jw32 (x3 + 1) < ((E.2.2.2.2.1 : Nat) : Int) by omega) (fun v184 ev184 => ?_)
          replace ev184 : v184 = jxv E (-2) (jw32 (x3 + 1)) := ev184
          have e185 : jw32 (x3 + 2) = x3 + 2 := j32e (by omega) (by omega)
          refine st_xi (N := E.2.2.2.2.1) (by decide) (by decide) rfl (show 0 ≤ jw32 (x3 + 2) by omega) (show jw32 (x3 + 2) < ((E.2.2.2.2.1 : Nat) : Int) by omega) (fun v186 ev186 => ?_)
          replace ev186 : v186 = jxv E (-2) (jw32 (x3 + 2)) := ev186
          have e187 : jw32 (x3 + 3) = x3 + 3 := j32e (by omega) (by omega)
          refine st_xi (N := E.2.2.2.2.1) (by decide) (by decide) rfl (show 0 ≤ jw32 (x3 + 3) by omega) (show jw32 (x3 + 3) < ((E.2.2.2.2.1 : Nat) : Int) by omega) (fun v188 ev188 => ?_)
          replace ev188 : v188 = jxv E (-2) (jw32 (x3 + 3)) := ev188
          refine st_cv (na := 3) (st := [.inl v188, .inl v186, .inl v184, .inr (.inr (.inl 0))]) jo_0 rfl rfl rfl (c_X11_force v184 v186 v188 g) rfl ?_
          rintro _ _ g190 ⟨rfl, ft189, t189, rfl, ht189, zt189⟩ kt189
          replace kt189 : -2147483648 ≤ t189 ∧ t189 ≤ 2147483647 := kt189
          replace ht189 : -7 ≤ t189 ∧ t189 ≤ 200 := ht189
          have li191 : jLI g190 := jLI_fr (ft189 176 0 (by unfold w_X11_force; omega)) (ft189 0 0 (by unfold w_X11_force; omega)) (fun t => ft189 87 t (by unfold w_X11_force; omega)) li
          have dli191 : g190 176 0 ≤ 2000 := li191.1
          have sm192 : jSm 3 177 4 g190 := jSm_fr (fun t => ft189 3 t (by unfold w_X11_force; omega)) (fun t => ft189 177 t (by unfold w_X11_force; omega)) sm
          have e193 : jw32 (x3 + 1) = x3 + 1 := j32e (by omega) (by omega)
          refine st_xi (N := E.2.2.2.2.1) (by decide) (by decide) rfl (show 0 ≤ jw32 (x3 + 1) by omega) (show jw32 (x3 + 1) < ((E.2.2.2.2.1 : Nat) : Int) by omega) (fun v194 ev194 => ?_)
          replace ev194 : v194 = jxv E (-2) (jw32 (x3 + 1)) := ev194
          have e195 : jw32 (x3 + 2) = x3 + 2 := j32e (by omega) (by omega)
          refine st_xi (N := E.2.2.2.2.1) (by decide) (by decide) rfl (show 0 ≤ jw32 (x3 + 2) by omega) (show jw32 (x3 + 2) < ((E.2.2.2.2.1 : Nat) : Int) by omega) (fun v196 ev196 => ?_)
          replace ev196 : v196 = jxv E (-2) (jw32 (x3 + 2)) := ev196
          have e197 : jw32 (x3 + 3) = x3 + 3 := j32e (by omega) (by omega)
          refine st_xi (N := E.2.2.2.2.1) (by decide) (by decide) rfl (show 0 ≤ jw32 (x3 + 3) by omega) (show jw32 (x3 + 3) < ((E.2.2.2.2.1 : Nat) : Int) by omega) (fun v198 ev198 => ?_)
          replace ev198 : v198 = jxv E (-2) (jw32 (x3 + 3)) := ev198
          refine st_cv (na := 3) (st := [.inl v198, .inl v196, .inl v194, .inr (.inr (.inl 176))]) jo_176 rfl rfl rfl (c_X12_force v194 v196 v198 g190) rfl ?_
          rintro _ _ g200 ⟨rfl, ft199, t199, rfl, ht199, zt199⟩ kt199
          replace kt199 : -2147483648 ≤ t199 ∧ t199 ≤ 2147483647 := kt199
          replace ht199 : -7 ≤ t199 ∧ t199 ≤ 200 := ht199
          have li201 : jLI g200 := jLI_fr (ft199 176 0 (by unfold w_X12_force; omega)) (ft199 0 0 (by unfold w_X12_force; omega)) (fun t => ft199 87 t (by unfold w_X12_force; omega)) li191
          have dli201 : g200 176 0 ≤ 2000 := li201.1
          have sm202 : jSm 3 177 4 g200 := jSm_fr (fun t => ft199 3 t (by unfold w_X12_force; omega)) (fun t => ft199 177 t (by unfold w_X12_force; omega)) sm192
          show jGo E l 179 0 229 _ 1410 [.inr (.inr (.inl (-2))), .inr (.inr (.inl 0)), .inr (.inr (.inl 176)), .inl x3] [] 229 jr0 g200
          refine jGo_blk qL_law_1410 ?_
          have e203 : jw32 (x3 + 6) = x3 + 6 := j32e (by omega) (by omega)
          show jGo E l 179 0 229 _ 18 [.inr (.inr (.inl (-2))), .inr (.inr (.inl 0)), .inr (.inr (.inl 176)), .inl (jw32 (x3 + 6))] [] 229 jr0 g200
          exact ih (jw32 (x3 + 6)) g200 (by omega) li201 sm202 (by omega)
        · replace c6 : jand v4 63 = 10 := c6
          show jGo E l 179 0 229 _ 582 [.inr (.inr (.inl (-2))), .inr (.inr (.inl 0)), .inr (.inr (.inl 176)), .inl x3] [] 229 jr0 g
          refine jGo_blk qL_law_582 ?_
          have e204 : jw32 (x3 + 1) = x3 + 1 := j32e (by omega) (by omega)
          refine st_xi (N := E.2.2.2.2.1) (by decide) (by decide) rfl (show 0 ≤ jw32 (x3 + 1) by omega) (show jw32 (x3 + 1) < ((E.2.2.2.2.1 : Nat) : Int) by omega) (fun v205 ev205 => ?_)
          replace ev205 : v205 = jxv E (-2) (jw32 (x3 + 1)) := ev205
          have e206 : jw32 (x3 + 2) = x3 + 2 := j32e (by omega) (by omega)
          refine st_xi (N := E.2.2.2.2.1) (by decide) (by decide) rfl (show 0 ≤ jw32 (x3 + 2) by omega) (show jw32 (x3 + 2) < ((E.2.2.2.2.1 : Nat) : Int) by omega) (fun v207 ev207 => ?_)
          replace ev207 : v207 = jxv E (-2) (jw32 (x3 + 2)) := ev207
          have e208 : jw32 (x3 + 3) = x3 + 3 := j32e (by omega) (by omega)
          refine st_xi (N := E.2.2.2.2.1) (by decide) (by decide) rfl (show 0 ≤ jw32 (x3 + 3) by omega) (show jw32 (x3 + 3) < ((E.2.2.2.2.1 : Nat) : Int) by omega) (fun v209 ev209 => ?_)
          replace ev209 : v209 = jxv E (-2) (jw32 (x3 + 3)) := ev209
          have e210 : jw32 (x3 + 4) = x3 + 4 := j32e (by omega) (by omega)
          refine st_xi (N := E.2.2.2.2.1) (by decide) (by decide) rfl (show 0 ≤ jw32 (x3 + 4) by omega) (show jw32 (x3 + 4) < ((E.2.2.2.2.1 : Nat) : Int) by omega) (fun v211 ev211 => ?_)
          replace ev211 : v211 = jxv E (-2) (jw32 (x3 + 4)) := ev211
          refine st_cv (na := 4) (st := [.inl v211, .inl v209, .inl v207, .inl v205, .inr (.inr (.inl 0))]) jo_0 rfl rfl rfl (c_X11_task v205 v207 v209 v211 g) rfl ?_
          rintro _ _ g213 ⟨rfl, ft212, t212, rfl, ht212, zt212⟩ kt212
          replace kt212 : -2147483648 ≤ t212 ∧ t212 ≤ 2147483647 := kt212
          replace ht212 : -7 ≤ t212 ∧ t212 ≤ 2000 := ht212
          have li214 : jLI g213 := jLI_fr (ft212 176 0 (by unfold w_X11_task; omega)) (ft212 0 0 (by unfold w_X11_task; omega)) (fun t => ft212 87 t (by unfold w_X11_task; omega)) li
          have dli214 : g213 176 0 ≤ 2000 := li214.1
          have sm215 : jSm 3 177 4 g213 := jSm_fr (fun t => ft212 3 t (by unfold w_X11_task; omega)) (fun t => ft212 177 t (by unfold w_X11_task; omega)) sm
          have e216 : jw32 (x3 + 1) = x3 + 1 := j32e (by omega) (by omega)
          refine st_xi (N := E.2.2.2.2.1) (by decide) (by decide) rfl (show 0 ≤ jw32 (x3 + 1) by omega) (show jw32 (x3 + 1) < ((E.2.2.2.2.1 : Nat) : Int) by omega) (fun v217 ev217 => ?_)
          replace ev217 : v217 = jxv E (-2) (jw32 (x3 + 1)) := ev217
          have e218 : jw32 (x3 + 2) = x3 + 2 := j32e (by omega) (by omega)
          refine st_xi (N := E.2.2.2.2.1) (by decide) (by decide) rfl (show 0 ≤ jw32 (x3 + 2) by omega) (show jw32 (x3 + 2) < ((E.2.2.2.2.1 : Nat) : Int) by omega) (fun v219 ev219 => ?_)
          replace ev219 : v219 = jxv E (-2) (jw32 (x3 + 2)) := ev219
          have e220 : jw32 (x3 + 3) = x3 + 3 := j32e (by omega) (by omega)
          refine st_xi (N := E.2.2.2.2.1) (by decide) (by decide) rfl (show 0 ≤ jw32 (x3 + 3) by omega) (show jw32 (x3 + 3) < ((E.2.2.2.2.1 : Nat) : Int) by omega) (fun v221 ev221 => ?_)
          replace ev221 : v221 = jxv E (-2) (jw32 (x3 + 3)) := ev221
          have e222 : jw32 (x3 + 4) = x3 + 4 := j32e (by omega) (by omega)
          refine st_xi (N := E.2.2.2.2.1) (by decide) (by decide) rfl (show 0 ≤ jw32 (x3 + 4) by omega) (show jw32 (x3 + 4) < ((E.2.2.2.2.1 : Nat) : Int) by omega) (fun v223 ev223 => ?_)
          replace ev223 : v223 = jxv E (-2) (jw32 (x3 + 4)) := ev223
          refine st_cv (na := 4) (st := [.inl v223, .inl v221, .inl v219, .inl v217, .inr (.inr (.inl 176))]) jo_176 rfl rfl rfl (c_X12_task v217 v219 v221 v223 g213) rfl ?_
          rintro _ _ g225 ⟨rfl, ft224, t224, rfl, ht224, zt224⟩ kt224
          replace kt224 : -2147483648 ≤ t224 ∧ t224 ≤ 2147483647 := kt224
          replace ht224 : -7 ≤ t224 ∧ t224 ≤ 2000 := ht224
          have li226 : jLI g225 := jLI_fr (ft224 176 0 (by unfold w_X12_task; omega)) (ft224 0 0 (by unfold w_X12_task; omega)) (fun t => ft224 87 t (by unfold w_X12_task; omega)) li214
          have dli226 : g225 176 0 ≤ 2000 := li226.1
          have sm227 : jSm 3 177 4 g225 := jSm_fr (fun t => ft224 3 t (by unfold w_X12_task; omega)) (fun t => ft224 177 t (by unfold w_X12_task; omega)) sm215
          show jGo E l 179 0 229 _ 1410 [.inr (.inr (.inl (-2))), .inr (.inr (.inl 0)), .inr (.inr (.inl 176)), .inl x3] [] 229 jr0 g225
          refine jGo_blk qL_law_1410 ?_
          have e228 : jw32 (x3 + 6) = x3 + 6 := j32e (by omega) (by omega)
          show jGo E l 179 0 229 _ 18 [.inr (.inr (.inl (-2))), .inr (.inr (.inl 0)), .inr (.inr (.inl 176)), .inl (jw32 (x3 + 6))] [] 229 jr0 g225
          exact ih (jw32 (x3 + 6)) g225 (by omega) li226 sm227 (by omega)
        · replace c6 : jand v4 63 = 11 := c6
          show jGo E l 179 0 229 _ 635 [.inr (.inr (.inl (-2))), .inr (.inr (.inl 0)), .inr (.inr (.inl 176)), .inl x3] [] 229 jr0 g
          refine jGo_blk qL_law_635 ?_
          have e229 : jw32 (x3 + 1) = x3 + 1 := j32e (by omega) (by omega)
          refine st_xi (N := E.2.2.2.2.1) (by decide) (by decide) rfl (show 0 ≤ jw32 (x3 + 1) by omega) (show jw32 (x3 + 1) < ((E.2.2.2.2.1 : Nat) : Int) by omega) (fun v230 ev230 => ?_)
          replace ev230 : v230 = jxv E (-2) (jw32 (x3 + 1)) := ev230
          have e231 : jw32 (x3 + 2) = x3 + 2 := j32e (by omega) (by omega)
          refine st_xi (N := E.2.2.2.2.1) (by decide) (by decide) rfl (show 0 ≤ jw32 (x3 + 2) by omega) (show jw32 (x3 + 2) < ((E.2.2.2.2.1 : Nat) : Int) by omega) (fun v232 ev232 => ?_)
          replace ev232 : v232 = jxv E (-2) (jw32 (x3 + 2)) := ev232
          have e233 : jw32 (x3 + 3) = x3 + 3 := j32e (by omega) (by omega)
          refine st_xi (N := E.2.2.2.2.1) (by decide) (by decide) rfl (show 0 ≤ jw32 (x3 + 3) by omega) (show jw32 (x3 + 3) < ((E.2.2.2.2.1 : Nat) : Int) by omega) (fun v234 ev234 => ?_)
          replace ev234 : v234 = jxv E (-2) (jw32 (x3 + 3)) := ev234
          have e235 : jw32 (x3 + 4) = x3 + 4 := j32e (by omega) (by omega)
          refine st_xi (N := E.2.2.2.2.1) (by decide) (by decide) rfl (show 0 ≤ jw32 (x3 + 4) by omega) (show jw32 (x3 + 4) < ((E.2.2.2.2.1 : Nat) : Int) by omega) (fun v236 ev236 => ?_)
          replace ev236 : v236 = jxv E (-2) (jw32 (x3 + 4)) := ev236
          refine st_cv (na := 4) (st := [.inl v236, .inl v234, .inl v232, .inl v230, .inr (.inr (.inl 0))]) jo_0 rfl rfl rfl (c_X11_needs v230 v232 v234 v236 g) rfl ?_
          rintro _ _ g238 ⟨rfl, ft237, t237, rfl, ht237, zt237⟩ kt237
          replace kt237 : -2147483648 ≤ t237 ∧ t237 ≤ 2147483647 := kt237
          replace ht237 : -7 ≤ t237 ∧ t237 ≤ 500 := ht237
          have li239 : jLI g238 := jLI_fr (ft237 176 0 (by unfold w_X11_needs; omega)) (ft237 0 0 (by unfold w_X11_needs; omega)) (fun t => ft237 87 t (by unfold w_X11_needs; omega)) li
          have dli239 : g238 176 0 ≤ 2000 := li239.1
          have sm240 : jSm 3 177 4 g238 := jSm_fr (fun t => ft237 3 t (by unfold w_X11_needs; omega)) (fun t => ft237 177 t (by unfold w_X11_needs; omega)) sm
          have e241 : jw32 (x3 + 1) = x3 + 1 := j32e (by omega) (by omega)
          refine st_xi (N := E.2.2.2.2.1) (by decide) (by decide) rfl (show 0 ≤ jw32 (x3 + 1) by omega) (show jw32 (x3 + 1) < ((E.2.2.2.2.1 : Nat) : Int) by omega) (fun v242 ev242 => ?_)
          replace ev242 : v242 = jxv E (-2) (jw32 (x3 + 1)) := ev242
          have e243 : jw32 (x3 + 2) = x3 + 2 := j32e (by omega) (by omega)
          refine st_xi (N := E.2.2.2.2.1) (by decide) (by decide) rfl (show 0 ≤ jw32 (x3 + 2) by omega) (show jw32 (x3 + 2) < ((E.2.2.2.2.1 : Nat) : Int) by omega) (fun v244 ev244 => ?_)
          replace ev244 : v244 = jxv E (-2) (jw32 (x3 + 2)) := ev244
          have e245 : jw32 (x3 + 3) = x3 + 3 := j32e (by omega) (by omega)
          refine st_xi (N := E.2.2.2.2.1) (by decide) (by decide) rfl (show 0 ≤ jw32 (x3 + 3) by omega) (show jw32 (x3 + 3) < ((E.2.2.2.2.1 : Nat) : Int) by omega) (fun v246 ev246 => ?_)
          replace ev246 : v246 = jxv E (-2) (jw32 (x3 + 3)) := ev246
          have e247 : jw32 (x3 + 4) = x3 + 4 := j32e (by omega) (by omega)
          refine st_xi (N := E.2.2.2.2.1) (by decide) (by decide) rfl (show 0 ≤ jw32 (x3 + 4) by omega) (show jw32 (x3 + 4) < ((E.2.2.2.2.1 : Nat) : Int) by omega) (fun v248 ev248 => ?_)
          replace ev248 : v248 = jxv E (-2) (jw32 (x3 + 4)) := ev248
          refine st_cv (na := 4) (st := [.inl v248, .inl v246, .inl v244, .inl v242, .inr (.inr (.inl 176))]) jo_176 rfl rfl rfl (c_X12_needs v242 v244 v246 v248 g238) rfl ?_
          rintro _ _ g250 ⟨rfl, ft249, t249, rfl, ht249, zt249⟩ kt249
          replace kt249 : -2147483648 ≤ t249 ∧ t249 ≤ 2147483647 := kt249
          replace ht249 : -7 ≤ t249 ∧ t249 ≤ 500 := ht249
          have li251 : jLI g250 := jLI_fr (ft249 176 0 (by unfold w_X12_needs; omega)) (ft249 0 0 (by unfold w_X12_needs; omega)) (fun t => ft249 87 t (by unfold w_X12_needs; omega)) li239
          have dli251 : g250 176 0 ≤ 2000 := li251.1
          have sm252 : jSm 3 177 4 g250 := jSm_fr (fun t => ft249 3 t (by unfold w_X12_needs; omega)) (fun t => ft249 177 t (by unfold w_X12_needs; omega)) sm240
          show jGo E l 179 0 229 _ 1410 [.inr (.inr (.inl (-2))), .inr (.inr (.inl 0)), .inr (.inr (.inl 176)), .inl x3] [] 229 jr0 g250
          refine jGo_blk qL_law_1410 ?_
          have e253 : jw32 (x3 + 6) = x3 + 6 := j32e (by omega) (by omega)
          show jGo E l 179 0 229 _ 18 [.inr (.inr (.inl (-2))), .inr (.inr (.inl 0)), .inr (.inr (.inl 176)), .inl (jw32 (x3 + 6))] [] 229 jr0 g250
          exact ih (jw32 (x3 + 6)) g250 (by omega) li251 sm252 (by omega)
        · replace c6 : jand v4 63 = 12 := c6
          show jGo E l 179 0 229 _ 688 [.inr (.inr (.inl (-2))), .inr (.inr (.inl 0)), .inr (.inr (.inl 176)), .inl x3] [] 229 jr0 g
          refine jGo_blk qL_law_688 ?_
          have e254 : jw32 (x3 + 1) = x3 + 1 := j32e (by omega) (by omega)
          refine st_xi (N := E.2.2.2.2.1) (by decide) (by decide) rfl (show 0 ≤ jw32 (x3 + 1) by omega) (show jw32 (x3 + 1) < ((E.2.2.2.2.1 : Nat) : Int) by omega) (fun v255 ev255 => ?_)
          replace ev255 : v255 = jxv E (-2) (jw32 (x3 + 1)) := ev255
          have e256 : jw32 (x3 + 2) = x3 + 2 := j32e (by omega) (by omega)
          refine st_xi (N := E.2.2.2.2.1) (by decide) (by decide) rfl (show 0 ≤ jw32 (x3 + 2) by omega) (show jw32 (x3 + 2) < ((E.2.2.2.2.1 : Nat) : Int) by omega) (fun v257 ev257 => ?_)
          replace ev257 : v257 = jxv E (-2) (jw32 (x3 + 2)) := ev257
          have e258 : jw32 (x3 + 3) = x3 + 3 := j32e (by omega) (by omega)
          refine st_xi (N := E.2.2.2.2.1) (by decide) (by decide) rfl (show 0 ≤ jw32 (x3 + 3) by omega) (show jw32 (x3 + 3) < ((E.2.2.2.2.1 : Nat) : Int) by omega) (fun v259 ev259 => ?_)
          replace ev259 : v259 = jxv E (-2) (jw32 (x3 + 3)) := ev259
          refine st_cv (na := 3) (st := [.inl v259, .inl v257, .inl v255, .inr (.inr (.inl 0))]) jo_0 rfl rfl rfl (c_X11_hull v255 v257 v259 g) rfl ?_
          rintro _ _ g261 ⟨rfl, ft260, t260, rfl, ht260, zt260⟩ kt260
          replace kt260 : -2147483648 ≤ t260 ∧ t260 ≤ 2147483647 := kt260
          replace ht260 : -7 ≤ t260 ∧ t260 ≤ 15 := ht260
          have li262 : jLI g261 := jLI_fr (ft260 176 0 (by unfold w_X11_hull; omega)) (ft260 0 0 (by unfold w_X11_hull; omega)) (fun t => ft260 87 t (by unfold w_X11_hull; omega)) li
          have dli262 : g261 176 0 ≤ 2000 := li262.1
          have sm263 : jSm 3 177 4 g261 := jSm_fr (fun t => ft260 3 t (by unfold w_X11_hull; omega)) (fun t => ft260 177 t (by unfold w_X11_hull; omega)) sm
          have e264 : jw32 (x3 + 1) = x3 + 1 := j32e (by omega) (by omega)
          refine st_xi (N := E.2.2.2.2.1) (by decide) (by decide) rfl (show 0 ≤ jw32 (x3 + 1) by omega) (show jw32 (x3 + 1) < ((E.2.2.2.2.1 : Nat) : Int) by omega) (fun v265 ev265 => ?_)
          replace ev265 : v265 = jxv E (-2) (jw32 (x3 + 1)) := ev265
          have e266 : jw32 (x3 + 2) = x3 + 2 := j32e (by omega) (by omega)
          refine st_xi (N := E.2.2.2.2.1) (by decide) (by decide) rfl (show 0 ≤ jw32 (x3 + 2) by omega) (show jw32 (x3 + 2) < ((E.2.2.2.2.1 : Nat) : Int) by omega) (fun v267 ev267 => ?_)
          replace ev267 : v267 = jxv E (-2) (jw32 (x3 + 2)) := ev267
          have e268 : jw32 (x3 + 3) = x3 + 3 := j32e (by omega) (by omega)
          refine st_xi (N := E.2.2.2.2.1) (by decide) (by decide) rfl (show 0 ≤ jw32 (x3 + 3) by omega) (show jw32 (x3 + 3) < ((E.2.2.2.2.1 : Nat) : Int) by omega) (fun v269 ev269 => ?_)
          replace ev269 : v269 = jxv E (-2) (jw32 (x3 + 3)) := ev269
          refine st_cv (na := 3) (st := [.inl v269, .inl v267, .inl v265, .inr (.inr (.inl 176))]) jo_176 rfl rfl rfl (c_X12_hull v265 v267 v269 g261) rfl ?_
          rintro _ _ g271 ⟨rfl, ft270, t270, rfl, ht270, zt270⟩ kt270
          replace kt270 : -2147483648 ≤ t270 ∧ t270 ≤ 2147483647 := kt270
          replace ht270 : -7 ≤ t270 ∧ t270 ≤ 15 := ht270
          have li272 : jLI g271 := jLI_fr (ft270 176 0 (by unfold w_X12_hull; omega)) (ft270 0 0 (by unfold w_X12_hull; omega)) (fun t => ft270 87 t (by unfold w_X12_hull; omega)) li262
          have dli272 : g271 176 0 ≤ 2000 := li272.1
          have sm273 : jSm 3 177 4 g271 := jSm_fr (fun t => ft270 3 t (by unfold w_X12_hull; omega)) (fun t => ft270 177 t (by unfold w_X12_hull; omega)) sm263
          show jGo E l 179 0 229 _ 1410 [.inr (.inr (.inl (-2))), .inr (.inr (.inl 0)), .inr (.inr (.inl 176)), .inl x3] [] 229 jr0 g271
          refine jGo_blk qL_law_1410 ?_
          have e274 : jw32 (x3 + 6) = x3 + 6 := j32e (by omega) (by omega)
          show jGo E l 179 0 229 _ 18 [.inr (.inr (.inl (-2))), .inr (.inr (.inl 0)), .inr (.inr (.inl 176)), .inl (jw32 (x3 + 6))] [] 229 jr0 g271
          exact ih (jw32 (x3 + 6)) g271 (by omega) li272 sm273 (by omega)
        · replace c6 : jand v4 63 = 13 := c6
          show jGo E l 179 0 229 _ 731 [.inr (.inr (.inl (-2))), .inr (.inr (.inl 0)), .inr (.inr (.inl 176)), .inl x3] [] 229 jr0 g
          refine jGo_blk qL_law_731 ?_
          have e275 : jw32 (x3 + 1) = x3 + 1 := j32e (by omega) (by omega)
          refine st_xi (N := E.2.2.2.2.1) (by decide) (by decide) rfl (show 0 ≤ jw32 (x3 + 1) by omega) (show jw32 (x3 + 1) < ((E.2.2.2.2.1 : Nat) : Int) by omega) (fun v276 ev276 => ?_)
          replace ev276 : v276 = jxv E (-2) (jw32 (x3 + 1)) := ev276
          have e277 : jw32 (x3 + 2) = x3 + 2 := j32e (by omega) (by omega)
          refine st_xi (N := E.2.2.2.2.1) (by decide) (by decide) rfl (show 0 ≤ jw32 (x3 + 2) by omega) (show jw32 (x3 + 2) < ((E.2.2.2.2.1 : Nat) : Int) by omega) (fun v278 ev278 => ?_)
          replace ev278 : v278 = jxv E (-2) (jw32 (x3 + 2)) := ev278
          refine st_cv (na := 2) (st := [.inl v278, .inl v276, .inr (.inr (.inl 0))]) jo_0 rfl rfl rfl (c_X11_priority v276 v278 g) rfl ?_
          rintro _ _ g280 ⟨rfl, ft279, t279, rfl, ht279, zt279⟩ kt279
          replace kt279 : -2147483648 ≤ t279 ∧ t279 ≤ 2147483647 := kt279
          replace ht279 : -7 ≤ t279 ∧ t279 ≤ 99 := ht279
          have li281 : jLI g280 := jLI_fr (ft279 176 0 (by unfold w_X11_priority; omega)) (ft279 0 0 (by unfold w_X11_priority; omega)) (fun t => ft279 87 t (by unfold w_X11_priority; omega)) li
          have dli281 : g280 176 0 ≤ 2000 := li281.1
          have sm282 : jSm 3 177 4 g280 := jSm_fr (fun t => ft279 3 t (by unfold w_X11_priority; omega)) (fun t => ft279 177 t (by unfold w_X11_priority; omega)) sm
          have e283 : jw32 (x3 + 1) = x3 + 1 := j32e (by omega) (by omega)
          refine st_xi (N := E.2.2.2.2.1) (by decide) (by decide) rfl (show 0 ≤ jw32 (x3 + 1) by omega) (show jw32 (x3 + 1) < ((E.2.2.2.2.1 : Nat) : Int) by omega) (fun v284 ev284 => ?_)
          replace ev284 : v284 = jxv E (-2) (jw32 (x3 + 1)) := ev284
          have e285 : jw32 (x3 + 2) = x3 + 2 := j32e (by omega) (by omega)
          refine st_xi (N := E.2.2.2.2.1) (by decide) (by decide) rfl (show 0 ≤ jw32 (x3 + 2) by omega) (show jw32 (x3 + 2) < ((E.2.2.2.2.1 : Nat) : Int) by omega) (fun v286 ev286 => ?_)
          replace ev286 : v286 = jxv E (-2) (jw32 (x3 + 2)) := ev286
          refine st_cv (na := 2) (st := [.inl v286, .inl v284, .inr (.inr (.inl 176))]) jo_176 rfl rfl rfl (c_X12_priority v284 v286 g280) rfl ?_
          rintro _ _ g288 ⟨rfl, ft287, t287, rfl, ht287, zt287⟩ kt287
          replace kt287 : -2147483648 ≤ t287 ∧ t287 ≤ 2147483647 := kt287
          replace ht287 : -7 ≤ t287 ∧ t287 ≤ 99 := ht287
          have li289 : jLI g288 := jLI_fr (ft287 176 0 (by unfold w_X12_priority; omega)) (ft287 0 0 (by unfold w_X12_priority; omega)) (fun t => ft287 87 t (by unfold w_X12_priority; omega)) li281
          have dli289 : g288 176 0 ≤ 2000 := li289.1
          have sm290 : jSm 3 177 4 g288 := jSm_fr (fun t => ft287 3 t (by unfold w_X12_priority; omega)) (fun t => ft287 177 t (by unfold w_X12_priority; omega)) sm282
          show jGo E l 179 0 229 _ 1410 [.inr (.inr (.inl (-2))), .inr (.inr (.inl 0)), .inr (.inr (.inl 176)), .inl x3] [] 229 jr0 g288
          refine jGo_blk qL_law_1410 ?_
          have e291 : jw32 (x3 + 6) = x3 + 6 := j32e (by omega) (by omega)
          show jGo E l 179 0 229 _ 18 [.inr (.inr (.inl (-2))), .inr (.inr (.inl 0)), .inr (.inr (.inl 176)), .inl (jw32 (x3 + 6))] [] 229 jr0 g288
          exact ih (jw32 (x3 + 6)) g288 (by omega) li289 sm290 (by omega)
        · replace c6 : jand v4 63 = 14 := c6
          show jGo E l 179 0 229 _ 764 [.inr (.inr (.inl (-2))), .inr (.inr (.inl 0)), .inr (.inr (.inl 176)), .inl x3] [] 229 jr0 g
          refine jGo_blk qL_law_764 ?_
          have e292 : jw32 (x3 + 1) = x3 + 1 := j32e (by omega) (by omega)
          refine st_xi (N := E.2.2.2.2.1) (by decide) (by decide) rfl (show 0 ≤ jw32 (x3 + 1) by omega) (show jw32 (x3 + 1) < ((E.2.2.2.2.1 : Nat) : Int) by omega) (fun v293 ev293 => ?_)
          replace ev293 : v293 = jxv E (-2) (jw32 (x3 + 1)) := ev293
          have e294 : jw32 (x3 + 2) = x3 + 2 := j32e (by omega) (by omega)
          refine st_xi (N := E.2.2.2.2.1) (by decide) (by decide) rfl (show 0 ≤ jw32 (x3 + 2) by omega) (show jw32 (x3 + 2) < ((E.2.2.2.2.1 : Nat) : Int) by omega) (fun v295 ev295 => ?_)
          replace ev295 : v295 = jxv E (-2) (jw32 (x3 + 2)) := ev295
          refine st_cv (na := 2) (st := [.inl v295, .inl v293, .inr (.inr (.inl 0))]) jo_0 rfl rfl rfl (c_X11_raft v293 v295 g) rfl ?_
          rintro _ _ g297 ⟨rfl, ft296, t296, rfl, ht296, zt296⟩ kt296
          replace kt296 : -2147483648 ≤ t296 ∧ t296 ≤ 2147483647 := kt296
          replace ht296 : -7 ≤ t296 ∧ t296 ≤ 1 := ht296
          have li298 : jLI g297 := jLI_fr (ft296 176 0 (by unfold w_X11_raft; omega)) (ft296 0 0 (by unfold w_X11_raft; omega)) (fun t => ft296 87 t (by unfold w_X11_raft; omega)) li
          have dli298 : g297 176 0 ≤ 2000 := li298.1
          have sm299 : jSm 3 177 4 g297 := jSm_fr (fun t => ft296 3 t (by unfold w_X11_raft; omega)) (fun t => ft296 177 t (by unfold w_X11_raft; omega)) sm
          have e300 : jw32 (x3 + 1) = x3 + 1 := j32e (by omega) (by omega)
          refine st_xi (N := E.2.2.2.2.1) (by decide) (by decide) rfl (show 0 ≤ jw32 (x3 + 1) by omega) (show jw32 (x3 + 1) < ((E.2.2.2.2.1 : Nat) : Int) by omega) (fun v301 ev301 => ?_)
          replace ev301 : v301 = jxv E (-2) (jw32 (x3 + 1)) := ev301
          have e302 : jw32 (x3 + 2) = x3 + 2 := j32e (by omega) (by omega)
          refine st_xi (N := E.2.2.2.2.1) (by decide) (by decide) rfl (show 0 ≤ jw32 (x3 + 2) by omega) (show jw32 (x3 + 2) < ((E.2.2.2.2.1 : Nat) : Int) by omega) (fun v303 ev303 => ?_)
          replace ev303 : v303 = jxv E (-2) (jw32 (x3 + 2)) := ev303
          refine st_cv (na := 2) (st := [.inl v303, .inl v301, .inr (.inr (.inl 176))]) jo_176 rfl rfl rfl (c_X12_raft v301 v303 g297) rfl ?_
          rintro _ _ g305 ⟨rfl, ft304, t304, rfl, ht304, zt304⟩ kt304
          replace kt304 : -2147483648 ≤ t304 ∧ t304 ≤ 2147483647 := kt304
          replace ht304 : -7 ≤ t304 ∧ t304 ≤ 1 := ht304
          have li306 : jLI g305 := jLI_fr (ft304 176 0 (by unfold w_X12_raft; omega)) (ft304 0 0 (by unfold w_X12_raft; omega)) (fun t => ft304 87 t (by unfold w_X12_raft; omega)) li298
          have dli306 : g305 176 0 ≤ 2000 := li306.1
          have sm307 : jSm 3 177 4 g305 := jSm_fr (fun t => ft304 3 t (by unfold w_X12_raft; omega)) (fun t => ft304 177 t (by unfold w_X12_raft; omega)) sm299
          show jGo E l 179 0 229 _ 1410 [.inr (.inr (.inl (-2))), .inr (.inr (.inl 0)), .inr (.inr (.inl 176)), .inl x3] [] 229 jr0 g305
          refine jGo_blk qL_law_1410 ?_
          have e308 : jw32 (x3 + 6) = x3 + 6 := j32e (by omega) (by omega)
          show jGo E l 179 0 229 _ 18 [.inr (.inr (.inl (-2))), .inr (.inr (.inl 0)), .inr (.inr (.inl 176)), .inl (jw32 (x3 + 6))] [] 229 jr0 g305
          exact ih (jw32 (x3 + 6)) g305 (by omega) li306 sm307 (by omega)
        · replace c6 : jand v4 63 = 15 := c6
          show jGo E l 179 0 229 _ 797 [.inr (.inr (.inl (-2))), .inr (.inr (.inl 0)), .inr (.inr (.inl 176)), .inl x3] [] 229 jr0 g
          refine jGo_blk qL_law_797 ?_
          have e309 : jw32 (x3 + 1) = x3 + 1 := j32e (by omega) (by omega)
          refine st_xi (N := E.2.2.2.2.1) (by decide) (by decide) rfl (show 0 ≤ jw32 (x3 + 1) by omega) (show jw32 (x3 + 1) < ((E.2.2.2.2.1 : Nat) : Int) by omega) (fun v310 ev310 => ?_)
          replace ev310 : v310 = jxv E (-2) (jw32 (x3 + 1)) := ev310
          refine st_cv (na := 1) (st := [.inl v310, .inr (.inr (.inl 0))]) jo_0 rfl rfl rfl (c_X11_unraft v310 g) rfl ?_
          rintro _ _ g312 ⟨rfl, ft311, t311, rfl, ht311, zt311⟩ kt311
          replace kt311 : -2147483648 ≤ t311 ∧ t311 ≤ 2147483647 := kt311
          have li313 : jLI g312 := jLI_fr (ft311 176 0 (by unfold w_X11_unraft; omega)) (ft311 0 0 (by unfold w_X11_unraft; omega)) (fun t => ft311 87 t (by unfold w_X11_unraft; omega)) li
          have dli313 : g312 176 0 ≤ 2000 := li313.1
          have sm314 : jSm 3 177 4 g312 := jSm_fr (fun t => ft311 3 t (by unfold w_X11_unraft; omega)) (fun t => ft311 177 t (by unfold w_X11_unraft; omega)) sm
          have e315 : jw32 (x3 + 1) = x3 + 1 := j32e (by omega) (by omega)
          refine st_xi (N := E.2.2.2.2.1) (by decide) (by decide) rfl (show 0 ≤ jw32 (x3 + 1) by omega) (show jw32 (x3 + 1) < ((E.2.2.2.2.1 : Nat) : Int) by omega) (fun v316 ev316 => ?_)
          replace ev316 : v316 = jxv E (-2) (jw32 (x3 + 1)) := ev316
          refine st_cv (na := 1) (st := [.inl v316, .inr (.inr (.inl 176))]) jo_176 rfl rfl rfl (c_X12_unraft v316 g312) rfl ?_
          rintro _ _ g318 ⟨rfl, ft317, t317, rfl, ht317, zt317⟩ kt317
          replace kt317 : -2147483648 ≤ t317 ∧ t317 ≤ 2147483647 := kt317
          have li319 : jLI g318 := jLI_fr (ft317 176 0 (by unfold w_X12_unraft; omega)) (ft317 0 0 (by unfold w_X12_unraft; omega)) (fun t => ft317 87 t (by unfold w_X12_unraft; omega)) li313
          have dli319 : g318 176 0 ≤ 2000 := li319.1
          have sm320 : jSm 3 177 4 g318 := jSm_fr (fun t => ft317 3 t (by unfold w_X12_unraft; omega)) (fun t => ft317 177 t (by unfold w_X12_unraft; omega)) sm314
          show jGo E l 179 0 229 _ 1410 [.inr (.inr (.inl (-2))), .inr (.inr (.inl 0)), .inr (.inr (.inl 176)), .inl x3] [] 229 jr0 g318
          refine jGo_blk qL_law_1410 ?_
          have e321 : jw32 (x3 + 6) = x3 + 6 := j32e (by omega) (by omega)
          show jGo E l 179 0 229 _ 18 [.inr (.inr (.inl (-2))), .inr (.inr (.inl 0)), .inr (.inr (.inl 176)), .inl (jw32 (x3 + 6))] [] 229 jr0 g318
          exact ih (jw32 (x3 + 6)) g318 (by omega) li319 sm320 (by omega)
        · replace c6 : jand v4 63 = 16 := c6
          show jGo E l 179 0 229 _ 820 [.inr (.inr (.inl (-2))), .inr (.inr (.inl 0)), .inr (.inr (.inl 176)), .inl x3] [] 229 jr0 g
          refine jGo_blk qL_law_820 ?_
          have e322 : jw32 (x3 + 1) = x3 + 1 := j32e (by omega) (by omega)
          refine st_xi (N := E.2.2.2.2.1) (by decide) (by decide) rfl (show 0 ≤ jw32 (x3 + 1) by omega) (show jw32 (x3 + 1) < ((E.2.2.2.2.1 : Nat) : Int) by omega) (fun v323 ev323 => ?_)
          replace ev323 : v323 = jxv E (-2) (jw32 (x3 + 1)) := ev323
          refine st_cv (na := 1) (st := [.inl v323, .inr (.inr (.inl 0))]) jo_0 rfl rfl rfl (c_X11_days v323 g li.2) rfl ?_
          rintro _ _ g325 ⟨rfl, ft324, t324, rfl, ht324, zt324⟩ kt324
          replace kt324 : -2147483648 ≤ t324 ∧ t324 ≤ 2147483647 := kt324
          replace zt324 : jLG 0 g325 := zt324
          have li326 : jLI g325 := ⟨by rw [(ft324 176 0 (by unfold w_X11_days; omega))]; exact li.1, zt324⟩
          have dli326 : g325 176 0 ≤ 2000 := li326.1
          have sm327 : jSm 3 177 4 g325 := jSm_fr (fun t => ft324 3 t (by unfold w_X11_days; omega)) (fun t => ft324 177 t (by unfold w_X11_days; omega)) sm
          have e328 : jw32 (x3 + 1) = x3 + 1 := j32e (by omega) (by omega)
          refine st_xi (N := E.2.2.2.2.1) (by decide) (by decide) rfl (show 0 ≤ jw32 (x3 + 1) by omega) (show jw32 (x3 + 1) < ((E.2.2.2.2.1 : Nat) : Int) by omega) (fun v329 ev329 => ?_)
          replace ev329 : v329 = jxv E (-2) (jw32 (x3 + 1)) := ev329
          have e330 : g325 176 0 = g 176 0 := ft324 176 0 (by unfold w_X11_days; omega)
          refine st_cv (na := 1) (st := [.inl v329, .inr (.inr (.inl 176))]) jo_176 rfl rfl rfl (c_X12_days v329 g325 (by omega)) rfl ?_
          rintro _ _ g332 ⟨rfl, ft331, t331, rfl, ht331, zt331⟩ kt331
          replace kt331 : -2147483648 ≤ t331 ∧ t331 ≤ 2147483647 := kt331
          replace zt331 : g332 176 0 ≤ 2000 := zt331
          have li333 : jLI g332 := ⟨zt331, jLG_fr (ft331 0 0 (by unfold w_X12_days; omega)) (fun t => ft331 87 t (by unfold w_X12_days; omega)) li326.2⟩
          have dli333 : g332 176 0 ≤ 2000 := li333.1
          have sm334 : jSm 3 177 4 g332 := jSm_fr (fun t => ft331 3 t (by unfold w_X12_days; omega)) (fun t => ft331 177 t (by unfold w_X12_days; omega)) sm327
          show jGo E l 179 0 229 _ 1410 [.inr (.inr (.inl (-2))), .inr (.inr (.inl 0)), .inr (.inr (.inl 176)), .inl x3] [] 229 jr0 g332
          refine jGo_blk qL_law_1410 ?_
          have e335 : jw32 (x3 + 6) = x3 + 6 := j32e (by omega) (by omega)
          show jGo E l 179 0 229 _ 18 [.inr (.inr (.inl (-2))), .inr (.inr (.inl 0)), .inr (.inr (.inl 176)), .inl (jw32 (x3 + 6))] [] 229 jr0 g332
          exact ih (jw32 (x3 + 6)) g332 (by omega) li333 sm334 (by omega)
        · replace c6 : jand v4 63 = 17 := c6
          show jGo E l 179 0 229 _ 843 [.inr (.inr (.inl (-2))), .inr (.inr (.inl 0)), .inr (.inr (.inl 176)), .inl x3] [] 229 jr0 g
          refine jGo_blk qL_law_843 ?_
          have e336 : jw32 (x3 + 1) = x3 + 1 := j32e (by omega) (by omega)
          refine st_xi (N := E.2.2.2.2.1) (by decide) (by decide) rfl (show 0 ≤ jw32 (x3 + 1) by omega) (show jw32 (x3 + 1) < ((E.2.2.2.2.1 : Nat) : Int) by omega) (fun v337 ev337 => ?_)
          replace ev337 : v337 = jxv E (-2) (jw32 (x3 + 1)) := ev337
          refine st_cv (na := 1) (st := [.inl v337, .inr (.inr (.inl 0))]) jo_0 rfl rfl rfl (c_X11_breakUp v337 g) rfl ?_
          rintro _ _ g339 ⟨rfl, ft338, t338, rfl, ht338, zt338⟩ kt338
          replace kt338 : -2147483648 ≤ t338 ∧ t338 ≤ 2147483647 := kt338
          have li340 : jLI g339 := jLI_fr (ft338 176 0 (by unfold w_X11_breakUp; omega)) (ft338 0 0 (by unfold w_X11_breakUp; omega)) (fun t => ft338 87 t (by unfold w_X11_breakUp; omega)) li
          have dli340 : g339 176 0 ≤ 2000 := li340.1
          have sm341 : jSm 3 177 4 g339 := jSm_fr (fun t => ft338 3 t (by unfold w_X11_breakUp; omega)) (fun t => ft338 177 t (by unfold w_X11_breakUp; omega)) sm
          have e342 : jw32 (x3 + 1) = x3 + 1 := j32e (by omega) (by omega)
          refine st_xi (N := E.2.2.2.2.1) (by decide) (by decide) rfl (show 0 ≤ jw32 (x3 + 1) by omega) (show jw32 (x3 + 1) < ((E.2.2.2.2.1 : Nat) : Int) by omega) (fun v343 ev343 => ?_)
          replace ev343 : v343 = jxv E (-2) (jw32 (x3 + 1)) := ev343
          refine st_cv (na := 1) (st := [.inl v343, .inr (.inr (.inl 176))]) jo_176 rfl rfl rfl (c_X12_breakUp v343 g339) rfl ?_
          rintro _ _ g345 ⟨rfl, ft344, t344, rfl, ht344, zt344⟩ kt344
          replace kt344 : -2147483648 ≤ t344 ∧ t344 ≤ 2147483647 := kt344
          have li346 : jLI g345 := jLI_fr (ft344 176 0 (by unfold w_X12_breakUp; omega)) (ft344 0 0 (by unfold w_X12_breakUp; omega)) (fun t => ft344 87 t (by unfold w_X12_breakUp; omega)) li340
          have dli346 : g345 176 0 ≤ 2000 := li346.1
          have sm347 : jSm 3 177 4 g345 := jSm_fr (fun t => ft344 3 t (by unfold w_X12_breakUp; omega)) (fun t => ft344 177 t (by unfold w_X12_breakUp; omega)) sm341
          show jGo E l 179 0 229 _ 1410 [.inr (.inr (.inl (-2))), .inr (.inr (.inl 0)), .inr (.inr (.inl 176)), .inl x3] [] 229 jr0 g345
          refine jGo_blk qL_law_1410 ?_
          have e348 : jw32 (x3 + 6) = x3 + 6 := j32e (by omega) (by omega)
          show jGo E l 179 0 229 _ 18 [.inr (.inr (.inl (-2))), .inr (.inr (.inl 0)), .inr (.inr (.inl 176)), .inl (jw32 (x3 + 6))] [] 229 jr0 g345
          exact ih (jw32 (x3 + 6)) g345 (by omega) li346 sm347 (by omega)
        · replace c6 : jand v4 63 = 18 := c6
          show jGo E l 179 0 229 _ 866 [.inr (.inr (.inl (-2))), .inr (.inr (.inl 0)), .inr (.inr (.inl 176)), .inl x3] [] 229 jr0 g
          refine jGo_blk qL_law_866 ?_
          have e349 : jw32 (x3 + 1) = x3 + 1 := j32e (by omega) (by omega)
          refine st_xi (N := E.2.2.2.2.1) (by decide) (by decide) rfl (show 0 ≤ jw32 (x3 + 1) by omega) (show jw32 (x3 + 1) < ((E.2.2.2.2.1 : Nat) : Int) by omega) (fun v350 ev350 => ?_)
          replace ev350 : v350 = jxv E (-2) (jw32 (x3 + 1)) := ev350
          have e351 : jw32 (x3 + 2) = x3 + 2 := j32e (by omega) (by omega)
          refine st_xi (N := E.2.2.2.2.1) (by decide) (by decide) rfl (show 0 ≤ jw32 (x3 + 2) by omega) (show jw32 (x3 + 2) < ((E.2.2.2.2.1 : Nat) : Int) by omega) (fun v352 ev352 => ?_)
          replace ev352 : v352 = jxv E (-2) (jw32 (x3 + 2)) := ev352
          refine st_cv (na := 2) (st := [.inl v352, .inl v350, .inr (.inr (.inl 0))]) jo_0 rfl rfl rfl (c_X11_growth v350 v352 g) rfl ?_
          rintro _ _ g354 ⟨rfl, ft353, t353, rfl, ht353, zt353⟩ kt353
          replace kt353 : -2147483648 ≤ t353 ∧ t353 ≤ 2147483647 := kt353
          replace ht353 : -7 ≤ t353 ∧ t353 ≤ 9 := ht353
          replace zt353 : jTold 90 3 9 v350 v352 t353 g g354 := zt353
          have li355 : jLI g354 := jLI_fr (ft353 176 0 (by unfold w_X11_growth; omega)) (ft353 0 0 (by unfold w_X11_growth; omega)) (fun t => ft353 87 t (by unfold w_X11_growth; omega)) li
          have dli355 : g354 176 0 ≤ 2000 := li355.1
          have sm356 : jSm 3 177 4 g354 := jSm_fr (fun t => ft353 3 t (by unfold w_X11_growth; omega)) (fun t => ft353 177 t (by unfold w_X11_growth; omega)) sm
          have e357 : jw32 (x3 + 1) = x3 + 1 := j32e (by omega) (by omega)
          refine st_xi (N := E.2.2.2.2.1) (by decide) (by decide) rfl (show 0 ≤ jw32 (x3 + 1) by omega) (show jw32 (x3 + 1) < ((E.2.2.2.2.1 : Nat) : Int) by omega) (fun v358 ev358 => ?_)
          replace ev358 : v358 = jxv E (-2) (jw32 (x3 + 1)) := ev358
          have e359 : jw32 (x3 + 2) = x3 + 2 := j32e (by omega) (by omega)
          refine st_xi (N := E.2.2.2.2.1) (by decide) (by decide) rfl (show 0 ≤ jw32 (x3 + 2) by omega) (show jw32 (x3 + 2) < ((E.2.2.2.2.1 : Nat) : Int) by omega) (fun v360 ev360 => ?_)
          replace ev360 : v360 = jxv E (-2) (jw32 (x3 + 2)) := ev360
          refine st_cv (na := 2) (st := [.inl v360, .inl v358, .inr (.inr (.inl 176))]) jo_176 rfl rfl rfl (c_X12_growth v358 v360 g354) rfl ?_
          rintro _ _ g362 ⟨rfl, ft361, t361, rfl, ht361, zt361⟩ kt361
          replace kt361 : -2147483648 ≤ t361 ∧ t361 ≤ 2147483647 := kt361
          replace ht361 : -7 ≤ t361 ∧ t361 ≤ 9 := ht361
          replace zt361 : jTold 204 3 9 v358 v360 t361 g354 g362 := zt361
          have li363 : jLI g362 := jLI_fr (ft361 176 0 (by unfold w_X12_growth; omega)) (ft361 0 0 (by unfold w_X12_growth; omega)) (fun t => ft361 87 t (by unfold w_X12_growth; omega)) li355
          have dli363 : g362 176 0 ≤ 2000 := li363.1
          have sm364 : jSm 3 177 4 g362 := jSm_fr (fun t => ft361 3 t (by unfold w_X12_growth; omega)) (fun t => ft361 177 t (by unfold w_X12_growth; omega)) sm356
          show jGo E l 179 0 229 _ 1410 [.inr (.inr (.inl (-2))), .inr (.inr (.inl 0)), .inr (.inr (.inl 176)), .inl x3] [] 229 jr0 g362
          refine jGo_blk qL_law_1410 ?_
          have e365 : jw32 (x3 + 6) = x3 + 6 := j32e (by omega) (by omega)
          show jGo E l 179 0 229 _ 18 [.inr (.inr (.inl (-2))), .inr (.inr (.inl 0)), .inr (.inr (.inl 176)), .inl (jw32 (x3 + 6))] [] 229 jr0 g362
          exact ih (jw32 (x3 + 6)) g362 (by omega) li363 sm364 (by omega)
        · replace c6 : jand v4 63 = 19 := c6
          show jGo E l 179 0 229 _ 899 [.inr (.inr (.inl (-2))), .inr (.inr (.inl 0)), .inr (.inr (.inl 176)), .inl x3] [] 229 jr0 g
          refine jGo_blk qL_law_899 ?_
          have e366 : jw32 (x3 + 1) = x3 + 1 := j32e (by omega) (by omega)
          refine st_xi (N := E.2.2.2.2.1) (by decide) (by decide) rfl (show 0 ≤ jw32 (x3 + 1) by omega) (show jw32 (x3 + 1) < ((E.2.2.2.2.1 : Nat) : Int) by omega) (fun v367 ev367 => ?_)
          replace ev367 : v367 = jxv E (-2) (jw32 (x3 + 1)) := ev367
          have e368 : jw32 (x3 + 2) = x3 + 2 := j32e (by omega) (by omega)
          refine st_xi (N := E.2.2.2.2.1) (by decide) (by decide) rfl (show 0 ≤ jw32 (x3 + 2) by omega) (show jw32 (x3 + 2) < ((E.2.2.2.2.1 : Nat) : Int) by omega) (fun v369 ev369 => ?_)
          replace ev369 : v369 = jxv E (-2) (jw32 (x3 + 2)) := ev369
          have e370 : jw32 (x3 + 3) = x3 + 3 := j32e (by omega) (by omega)
          refine st_xi (N := E.2.2.2.2.1) (by decide) (by decide) rfl (show 0 ≤ jw32 (x3 + 3) by omega) (show jw32 (x3 + 3) < ((E.2.2.2.2.1 : Nat) : Int) by omega) (fun v371 ev371 => ?_)
          replace ev371 : v371 = jxv E (-2) (jw32 (x3 + 3)) := ev371
          refine st_cv (na := 3) (st := [.inl v371, .inl v369, .inl v367, .inr (.inr (.inl 0))]) jo_0 rfl rfl rfl (c_X11_tree v367 v369 v371 g) rfl ?_
          rintro _ _ g373 ⟨rfl, ft372, t372, rfl, ht372, zt372⟩ kt372
          replace kt372 : -2147483648 ≤ t372 ∧ t372 ≤ 2147483647 := kt372
          replace ht372 : -7 ≤ t372 ∧ t372 ≤ 39 := ht372
          replace zt372 : ∀ t : Int, g373 87 t = g 87 t ∨ (1 ≤ g373 87 t ∧ g373 87 t ≤ 500) := zt372
          have li374 : jLI g373 := ⟨by rw [(ft372 176 0 (by unfold w_X11_tree; omega))]; exact li.1, jLG_tree (ft372 0 0 (by unfold w_X11_tree; omega)) zt372 li.2⟩
          have dli374 : g373 176 0 ≤ 2000 := li374.1
          clear zt372
          have sm375 : jSm 3 177 4 g373 := jSm_fr (fun t => ft372 3 t (by unfold w_X11_tree; omega)) (fun t => ft372 177 t (by unfold w_X11_tree; omega)) sm
          have e376 : jw32 (x3 + 1) = x3 + 1 := j32e (by omega) (by omega)
          refine st_xi (N := E.2.2.2.2.1) (by decide) (by decide) rfl (show 0 ≤ jw32 (x3 + 1) by omega) (show jw32 (x3 + 1) < ((E.2.2.2.2.1 : Nat) : Int) by omega) (fun v377 ev377 => ?_)
          replace ev377 : v377 = jxv E (-2) (jw32 (x3 + 1)) := ev377
          have e378 : jw32 (x3 + 2) = x3 + 2 := j32e (by omega) (by omega)
          refine st_xi (N := E.2.2.2.2.1) (by decide) (by decide) rfl (show 0 ≤ jw32 (x3 + 2) by omega) (show jw32 (x3 + 2) < ((E.2.2.2.2.1 : Nat) : Int) by omega) (fun v379 ev379 => ?_)
          replace ev379 : v379 = jxv E (-2) (jw32 (x3 + 2)) := ev379
          have e380 : jw32 (x3 + 3) = x3 + 3 := j32e (by omega) (by omega)
          refine st_xi (N := E.2.2.2.2.1) (by decide) (by decide) rfl (show 0 ≤ jw32 (x3 + 3) by omega) (show jw32 (x3 + 3) < ((E.2.2.2.2.1 : Nat) : Int) by omega) (fun v381 ev381 => ?_)
          replace ev381 : v381 = jxv E (-2) (jw32 (x3 + 3)) := ev381
          refine st_cv (na := 3) (st := [.inl v381, .inl v379, .inl v377, .inr (.inr (.inl 176))]) jo_176 rfl rfl rfl (c_X12_tree v377 v379 v381 g373) rfl ?_
          rintro _ _ g383 ⟨rfl, ft382, t382, rfl, ht382, zt382⟩ kt382
          replace kt382 : -2147483648 ≤ t382 ∧ t382 ≤ 2147483647 := kt382
          replace ht382 : -7 ≤ t382 ∧ t382 ≤ 39 := ht382
          have li384 : jLI g383 := jLI_fr (ft382 176 0 (by unfold w_X12_tree; omega)) (ft382 0 0 (by unfold w_X12_tree; omega)) (fun t => ft382 87 t (by unfold w_X12_tree; omega)) li374
          have dli384 : g383 176 0 ≤ 2000 := li384.1
          have sm385 : jSm 3 177 4 g383 := jSm_fr (fun t => ft382 3 t (by unfold w_X12_tree; omega)) (fun t => ft382 177 t (by unfold w_X12_tree; omega)) sm375
          show jGo E l 179 0 229 _ 1410 [.inr (.inr (.inl (-2))), .inr (.inr (.inl 0)), .inr (.inr (.inl 176)), .inl x3] [] 229 jr0 g383
          refine jGo_blk qL_law_1410 ?_
          have e386 : jw32 (x3 + 6) = x3 + 6 := j32e (by omega) (by omega)
          show jGo E l 179 0 229 _ 18 [.inr (.inr (.inl (-2))), .inr (.inr (.inl 0)), .inr (.inr (.inl 176)), .inl (jw32 (x3 + 6))] [] 229 jr0 g383
          exact ih (jw32 (x3 + 6)) g383 (by omega) li384 sm385 (by omega)
        · replace c6 : jand v4 63 = 20 := c6
          show jGo E l 179 0 229 _ 942 [.inr (.inr (.inl (-2))), .inr (.inr (.inl 0)), .inr (.inr (.inl 176)), .inl x3] [] 229 jr0 g
          refine jGo_blk qL_law_942 ?_
          have e387 : jw32 (x3 + 1) = x3 + 1 := j32e (by omega) (by omega)
          refine st_xi (N := E.2.2.2.2.1) (by decide) (by decide) rfl (show 0 ≤ jw32 (x3 + 1) by omega) (show jw32 (x3 + 1) < ((E.2.2.2.2.1 : Nat) : Int) by omega) (fun v388 ev388 => ?_)
          replace ev388 : v388 = jxv E (-2) (jw32 (x3 + 1)) := ev388
          have e389 : jw32 (x3 + 2) = x3 + 2 := j32e (by omega) (by omega)
          refine st_xi (N := E.2.2.2.2.1) (by decide) (by decide) rfl (show 0 ≤ jw32 (x3 + 2) by omega) (show jw32 (x3 + 2) < ((E.2.2.2.2.1 : Nat) : Int) by omega) (fun v390 ev390 => ?_)
          replace ev390 : v390 = jxv E (-2) (jw32 (x3 + 2)) := ev390
          have e391 : jw32 (x3 + 3) = x3 + 3 := j32e (by omega) (by omega)
          refine st_xi (N := E.2.2.2.2.1) (by decide) (by decide) rfl (show 0 ≤ jw32 (x3 + 3) by omega) (show jw32 (x3 + 3) < ((E.2.2.2.2.1 : Nat) : Int) by omega) (fun v392 ev392 => ?_)
          replace ev392 : v392 = jxv E (-2) (jw32 (x3 + 3)) := ev392
          have e393 : jw32 (x3 + 4) = x3 + 4 := j32e (by omega) (by omega)
          refine st_xi (N := E.2.2.2.2.1) (by decide) (by decide) rfl (show 0 ≤ jw32 (x3 + 4) by omega) (show jw32 (x3 + 4) < ((E.2.2.2.2.1 : Nat) : Int) by omega) (fun v394 ev394 => ?_)
          replace ev394 : v394 = jxv E (-2) (jw32 (x3 + 4)) := ev394
          have e395 : jw32 (x3 + 5) = x3 + 5 := j32e (by omega) (by omega)
          refine st_xi (N := E.2.2.2.2.1) (by decide) (by decide) rfl (show 0 ≤ jw32 (x3 + 5) by omega) (show jw32 (x3 + 5) < ((E.2.2.2.2.1 : Nat) : Int) by omega) (fun v396 ev396 => ?_)
          replace ev396 : v396 = jxv E (-2) (jw32 (x3 + 5)) := ev396
          refine st_cv (na := 5) (st := [.inl v396, .inl v394, .inl v392, .inl v390, .inl v388, .inr (.inr (.inl 0))]) jo_0 rfl rfl rfl (c_X11_part v388 v390 v392 v394 v396 g) rfl ?_
          rintro _ _ g398 ⟨rfl, ft397, t397, rfl, ht397, zt397⟩ kt397
          replace kt397 : -2147483648 ≤ t397 ∧ t397 ≤ 2147483647 := kt397
          replace ht397 : -7 ≤ t397 ∧ t397 ≤ 5 := ht397
          have li399 : jLI g398 := jLI_fr (ft397 176 0 (by unfold w_X11_part; omega)) (ft397 0 0 (by unfold w_X11_part; omega)) (fun t => ft397 87 t (by unfold w_X11_part; omega)) li
          have dli399 : g398 176 0 ≤ 2000 := li399.1
          have sm400 : jSm 3 177 4 g398 := jSm_fr (fun t => ft397 3 t (by unfold w_X11_part; omega)) (fun t => ft397 177 t (by unfold w_X11_part; omega)) sm
          have e401 : jw32 (x3 + 1) = x3 + 1 := j32e (by omega) (by omega)
          refine st_xi (N := E.2.2.2.2.1) (by decide) (by decide) rfl (show 0 ≤ jw32 (x3 + 1) by omega) (show jw32 (x3 + 1) < ((E.2.2.2.2.1 : Nat) : Int) by omega) (fun v402 ev402 => ?_)
          replace ev402 : v402 = jxv E (-2) (jw32 (x3 + 1)) := ev402
          have e403 : jw32 (x3 + 2) = x3 + 2 := j32e (by omega) (by omega)
          refine st_xi (N := E.2.2.2.2.1) (by decide) (by decide) rfl (show 0 ≤ jw32 (x3 + 2) by omega) (show jw32 (x3 + 2) < ((E.2.2.2.2.1 : Nat) : Int) by omega) (fun v404 ev404 => ?_)
          replace ev404 : v404 = jxv E (-2) (jw32 (x3 + 2)) := ev404
          have e405 : jw32 (x3 + 3) = x3 + 3 := j32e (by omega) (by omega)
          refine st_xi (N := E.2.2.2.2.1) (by decide) (by decide) rfl (show 0 ≤ jw32 (x3 + 3) by omega) (show jw32 (x3 + 3) < ((E.2.2.2.2.1 : Nat) : Int) by omega) (fun v406 ev406 => ?_)
          replace ev406 : v406 = jxv E (-2) (jw32 (x3 + 3)) := ev406
          have e407 : jw32 (x3 + 4) = x3 + 4 := j32e (by omega) (by omega)
          refine st_xi (N := E.2.2.2.2.1) (by decide) (by decide) rfl (show 0 ≤ jw32 (x3 + 4) by omega) (show jw32 (x3 + 4) < ((E.2.2.2.2.1 : Nat) : Int) by omega) (fun v408 ev408 => ?_)
          replace ev408 : v408 = jxv E (-2) (jw32 (x3 + 4)) := ev408
          have e409 : jw32 (x3 + 5) = x3 + 5 := j32e (by omega) (by omega)
          refine st_xi (N := E.2.2.2.2.1) (by decide) (by decide) rfl (show 0 ≤ jw32 (x3 + 5) by omega) (show jw32 (x3 + 5) < ((E.2.2.2.2.1 : Nat) : Int) by omega) (fun v410 ev410 => ?_)
          replace ev410 : v410 = jxv E (-2) (jw32 (x3 + 5)) := ev410
          refine st_cv (na := 5) (st := [.inl v410, .inl v408, .inl v406, .inl v404, .inl v402, .inr (.inr (.inl 176))]) jo_176 rfl rfl rfl (c_X12_part v402 v404 v406 v408 v410 g398) rfl ?_
          rintro _ _ g412 ⟨rfl, ft411, t411, rfl, ht411, zt411⟩ kt411
          replace kt411 : -2147483648 ≤ t411 ∧ t411 ≤ 2147483647 := kt411
          replace ht411 : -7 ≤ t411 ∧ t411 ≤ 5 := ht411
          have li413 : jLI g412 := jLI_fr (ft411 176 0 (by unfold w_X12_part; omega)) (ft411 0 0 (by unfold w_X12_part; omega)) (fun t => ft411 87 t (by unfold w_X12_part; omega)) li399
          have dli413 : g412 176 0 ≤ 2000 := li413.1
          have sm414 : jSm 3 177 4 g412 := jSm_fr (fun t => ft411 3 t (by unfold w_X12_part; omega)) (fun t => ft411 177 t (by unfold w_X12_part; omega)) sm400
          show jGo E l 179 0 229 _ 1410 [.inr (.inr (.inl (-2))), .inr (.inr (.inl 0)), .inr (.inr (.inl 176)), .inl x3] [] 229 jr0 g412
          refine jGo_blk qL_law_1410 ?_
          have e415 : jw32 (x3 + 6) = x3 + 6 := j32e (by omega) (by omega)
          show jGo E l 179 0 229 _ 18 [.inr (.inr (.inl (-2))), .inr (.inr (.inl 0)), .inr (.inr (.inl 176)), .inl (jw32 (x3 + 6))] [] 229 jr0 g412
          exact ih (jw32 (x3 + 6)) g412 (by omega) li413 sm414 (by omega)
        · replace c6 : jand v4 63 = 21 := c6
          show jGo E l 179 0 229 _ 1005 [.inr (.inr (.inl (-2))), .inr (.inr (.inl 0)), .inr (.inr (.inl 176)), .inl x3] [] 229 jr0 g
          refine jGo_blk qL_law_1005 ?_
          have e416 : jw32 (x3 + 1) = x3 + 1 := j32e (by omega) (by omega)
          refine st_xi (N := E.2.2.2.2.1) (by decide) (by decide) rfl (show 0 ≤ jw32 (x3 + 1) by omega) (show jw32 (x3 + 1) < ((E.2.2.2.2.1 : Nat) : Int) by omega) (fun v417 ev417 => ?_)
          replace ev417 : v417 = jxv E (-2) (jw32 (x3 + 1)) := ev417
          have e418 : jw32 (x3 + 2) = x3 + 2 := j32e (by omega) (by omega)
          refine st_xi (N := E.2.2.2.2.1) (by decide) (by decide) rfl (show 0 ≤ jw32 (x3 + 2) by omega) (show jw32 (x3 + 2) < ((E.2.2.2.2.1 : Nat) : Int) by omega) (fun v419 ev419 => ?_)
          replace ev419 : v419 = jxv E (-2) (jw32 (x3 + 2)) := ev419
          refine st_cv (na := 2) (st := [.inl v419, .inl v417, .inr (.inr (.inl 0))]) jo_0 rfl rfl rfl (c_X11_match v417 v419 g (jLG_ok li.2)) rfl ?_
          rintro _ _ g421 ⟨rfl, ft420, t420, rfl, ht420, zt420⟩ kt420
          replace kt420 : -2147483648 ≤ t420 ∧ t420 ≤ 2147483647 := kt420
          have li422 : jLI g421 := jLI_fr (ft420 176 0 (by unfold w_X11_match; omega)) (ft420 0 0 (by unfold w_X11_match; omega)) (fun t => ft420 87 t (by unfold w_X11_match; omega)) li
          have dli422 : g421 176 0 ≤ 2000 := li422.1
          have sm423 : jSm 3 177 4 g421 := jSm_fr (fun t => ft420 3 t (by unfold w_X11_match; omega)) (fun t => ft420 177 t (by unfold w_X11_match; omega)) sm
          have e424 : jw32 (x3 + 1) = x3 + 1 := j32e (by omega) (by omega)
          refine st_xi (N := E.2.2.2.2.1) (by decide) (by decide) rfl (show 0 ≤ jw32 (x3 + 1) by omega) (show jw32 (x3 + 1) < ((E.2.2.2.2.1 : Nat) : Int) by omega) (fun v425 ev425 => ?_)
          replace ev425 : v425 = jxv E (-2) (jw32 (x3 + 1)) := ev425
          have e426 : jw32 (x3 + 2) = x3 + 2 := j32e (by omega) (by omega)
          refine st_xi (N := E.2.2.2.2.1) (by decide) (by decide) rfl (show 0 ≤ jw32 (x3 + 2) by omega) (show jw32 (x3 + 2) < ((E.2.2.2.2.1 : Nat) : Int) by omega) (fun v427 ev427 => ?_)
          replace ev427 : v427 = jxv E (-2) (jw32 (x3 + 2)) := ev427
          refine st_cv (na := 2) (st := [.inl v427, .inl v425, .inr (.inr (.inl 176))]) jo_176 rfl rfl rfl (c_X12_match v425 v427 g421) rfl ?_
          rintro _ _ g429 ⟨rfl, ft428, t428, rfl, ht428, zt428⟩ kt428
          replace kt428 : -2147483648 ≤ t428 ∧ t428 ≤ 2147483647 := kt428
          have li430 : jLI g429 := jLI_fr (ft428 176 0 (by unfold w_X12_match; omega)) (ft428 0 0 (by unfold w_X12_match; omega)) (fun t => ft428 87 t (by unfold w_X12_match; omega)) li422
          have dli430 : g429 176 0 ≤ 2000 := li430.1
          have sm431 : jSm 3 177 4 g429 := jSm_fr (fun t => ft428 3 t (by unfold w_X12_match; omega)) (fun t => ft428 177 t (by unfold w_X12_match; omega)) sm423
          show jGo E l 179 0 229 _ 1410 [.inr (.inr (.inl (-2))), .inr (.inr (.inl 0)), .inr (.inr (.inl 176)), .inl x3] [] 229 jr0 g429
          refine jGo_blk qL_law_1410 ?_
          have e432 : jw32 (x3 + 6) = x3 + 6 := j32e (by omega) (by omega)
          show jGo E l 179 0 229 _ 18 [.inr (.inr (.inl (-2))), .inr (.inr (.inl 0)), .inr (.inr (.inl 176)), .inl (jw32 (x3 + 6))] [] 229 jr0 g429
          exact ih (jw32 (x3 + 6)) g429 (by omega) li430 sm431 (by omega)
        · replace c6 : jand v4 63 = 22 := c6
          show jGo E l 179 0 229 _ 1038 [.inr (.inr (.inl (-2))), .inr (.inr (.inl 0)), .inr (.inr (.inl 176)), .inl x3] [] 229 jr0 g
          refine jGo_blk qL_law_1038 ?_
          have e433 : jw32 (x3 + 1) = x3 + 1 := j32e (by omega) (by omega)
          refine st_xi (N := E.2.2.2.2.1) (by decide) (by decide) rfl (show 0 ≤ jw32 (x3 + 1) by omega) (show jw32 (x3 + 1) < ((E.2.2.2.2.1 : Nat) : Int) by omega) (fun v434 ev434 => ?_)
          replace ev434 : v434 = jxv E (-2) (jw32 (x3 + 1)) := ev434
          refine st_cv (na := 1) (st := [.inl v434, .inr (.inr (.inl 0))]) jo_0 rfl rfl rfl (c_X11_fell v434 g (jLG_ok li.2)) rfl ?_
          rintro _ _ g436 ⟨rfl, ft435, t435, rfl, ht435, zt435⟩ kt435
          replace kt435 : -2147483648 ≤ t435 ∧ t435 ≤ 2147483647 := kt435
          have li437 : jLI g436 := jLI_fr (ft435 176 0 (by unfold w_X11_fell; omega)) (ft435 0 0 (by unfold w_X11_fell; omega)) (fun t => ft435 87 t (by unfold w_X11_fell; omega)) li
          have dli437 : g436 176 0 ≤ 2000 := li437.1
          have sm438 : jSm 3 177 4 g436 := jSm_fr (fun t => ft435 3 t (by unfold w_X11_fell; omega)) (fun t => ft435 177 t (by unfold w_X11_fell; omega)) sm
          have e439 : jw32 (x3 + 1) = x3 + 1 := j32e (by omega) (by omega)
          refine st_xi (N := E.2.2.2.2.1) (by decide) (by decide) rfl (show 0 ≤ jw32 (x3 + 1) by omega) (show jw32 (x3 + 1) < ((E.2.2.2.2.1 : Nat) : Int) by omega) (fun v440 ev440 => ?_)
          replace ev440 : v440 = jxv E (-2) (jw32 (x3 + 1)) := ev440
          refine st_cv (na := 1) (st := [.inl v440, .inr (.inr (.inl 176))]) jo_176 rfl rfl rfl (c_X12_fell v440 g436) rfl ?_
          rintro _ _ g442 ⟨rfl, ft441, t441, rfl, ht441, zt441⟩ kt441
          replace kt441 : -2147483648 ≤ t441 ∧ t441 ≤ 2147483647 := kt441
          have li443 : jLI g442 := jLI_fr (ft441 176 0 (by unfold w_X12_fell; omega)) (ft441 0 0 (by unfold w_X12_fell; omega)) (fun t => ft441 87 t (by unfold w_X12_fell; omega)) li437
          have dli443 : g442 176 0 ≤ 2000 := li443.1
          have sm444 : jSm 3 177 4 g442 := jSm_fr (fun t => ft441 3 t (by unfold w_X12_fell; omega)) (fun t => ft441 177 t (by unfold w_X12_fell; omega)) sm438
          show jGo E l 179 0 229 _ 1410 [.inr (.inr (.inl (-2))), .inr (.inr (.inl 0)), .inr (.inr (.inl 176)), .inl x3] [] 229 jr0 g442
          refine jGo_blk qL_law_1410 ?_
          have e445 : jw32 (x3 + 6) = x3 + 6 := j32e (by omega) (by omega)
          show jGo E l 179 0 229 _ 18 [.inr (.inr (.inl (-2))), .inr (.inr (.inl 0)), .inr (.inr (.inl 176)), .inl (jw32 (x3 + 6))] [] 229 jr0 g442
          exact ih (jw32 (x3 + 6)) g442 (by omega) li443 sm444 (by omega)
        · replace c6 : jand v4 63 = 23 := c6
          show jGo E l 179 0 229 _ 1061 [.inr (.inr (.inl (-2))), .inr (.inr (.inl 0)), .inr (.inr (.inl 176)), .inl x3] [] 229 jr0 g
          refine jGo_blk qL_law_1061 ?_
          have e446 : jw32 (x3 + 1) = x3 + 1 := j32e (by omega) (by omega)
          refine st_xi (N := E.2.2.2.2.1) (by decide) (by decide) rfl (show 0 ≤ jw32 (x3 + 1) by omega) (show jw32 (x3 + 1) < ((E.2.2.2.2.1 : Nat) : Int) by omega) (fun v447 ev447 => ?_)
          replace ev447 : v447 = jxv E (-2) (jw32 (x3 + 1)) := ev447
          have e448 : jw32 (x3 + 2) = x3 + 2 := j32e (by omega) (by omega)
          refine st_xi (N := E.2.2.2.2.1) (by decide) (by decide) rfl (show 0 ≤ jw32 (x3 + 2) by omega) (show jw32 (x3 + 2) < ((E.2.2.2.2.1 : Nat) : Int) by omega) (fun v449 ev449 => ?_)
          replace ev449 : v449 = jxv E (-2) (jw32 (x3 + 2)) := ev449
          refine st_cv (na := 2) (st := [.inl v449, .inl v447, .inr (.inr (.inl 0))]) jo_0 rfl rfl rfl (c_X11_treeFor v447 v449 g) rfl ?_
          rintro _ _ g451 ⟨rfl, ft450, t450, rfl, ht450, zt450⟩ kt450
          replace kt450 : -2147483648 ≤ t450 ∧ t450 ≤ 2147483647 := kt450
          replace ht450 : -9 ≤ t450 ∧ t450 ≤ 39 := ht450
          have li452 : jLI g451 := jLI_fr (ft450 176 0 (by unfold w_X11_treeFor; omega)) (ft450 0 0 (by unfold w_X11_treeFor; omega)) (fun t => ft450 87 t (by unfold w_X11_treeFor; omega)) li
          have dli452 : g451 176 0 ≤ 2000 := li452.1
          have sm453 : jSm 3 177 4 g451 := jSm_fr (fun t => ft450 3 t (by unfold w_X11_treeFor; omega)) (fun t => ft450 177 t (by unfold w_X11_treeFor; omega)) sm
          have e454 : jw32 (x3 + 1) = x3 + 1 := j32e (by omega) (by omega)
          refine st_xi (N := E.2.2.2.2.1) (by decide) (by decide) rfl (show 0 ≤ jw32 (x3 + 1) by omega) (show jw32 (x3 + 1) < ((E.2.2.2.2.1 : Nat) : Int) by omega) (fun v455 ev455 => ?_)
          replace ev455 : v455 = jxv E (-2) (jw32 (x3 + 1)) := ev455
          have e456 : jw32 (x3 + 2) = x3 + 2 := j32e (by omega) (by omega)
          refine st_xi (N := E.2.2.2.2.1) (by decide) (by decide) rfl (show 0 ≤ jw32 (x3 + 2) by omega) (show jw32 (x3 + 2) < ((E.2.2.2.2.1 : Nat) : Int) by omega) (fun v457 ev457 => ?_)
          replace ev457 : v457 = jxv E (-2) (jw32 (x3 + 2)) := ev457
          refine st_cv (na := 2) (st := [.inl v457, .inl v455, .inr (.inr (.inl 176))]) jo_176 rfl rfl rfl (c_X12_treeFor v455 v457 g451) rfl ?_
          rintro _ _ g459 ⟨rfl, ft458, t458, rfl, ht458, zt458⟩ kt458
          replace kt458 : -2147483648 ≤ t458 ∧ t458 ≤ 2147483647 := kt458
          replace ht458 : -9 ≤ t458 ∧ t458 ≤ 39 := ht458
          have li460 : jLI g459 := jLI_fr (ft458 176 0 (by unfold w_X12_treeFor; omega)) (ft458 0 0 (by unfold w_X12_treeFor; omega)) (fun t => ft458 87 t (by unfold w_X12_treeFor; omega)) li452
          have dli460 : g459 176 0 ≤ 2000 := li460.1
          have sm461 : jSm 3 177 4 g459 := jSm_fr (fun t => ft458 3 t (by unfold w_X12_treeFor; omega)) (fun t => ft458 177 t (by unfold w_X12_treeFor; omega)) sm453
          show jGo E l 179 0 229 _ 1410 [.inr (.inr (.inl (-2))), .inr (.inr (.inl 0)), .inr (.inr (.inl 176)), .inl x3] [] 229 jr0 g459
          refine jGo_blk qL_law_1410 ?_
          have e462 : jw32 (x3 + 6) = x3 + 6 := j32e (by omega) (by omega)
          show jGo E l 179 0 229 _ 18 [.inr (.inr (.inl (-2))), .inr (.inr (.inl 0)), .inr (.inr (.inl 176)), .inl (jw32 (x3 + 6))] [] 229 jr0 g459
          exact ih (jw32 (x3 + 6)) g459 (by omega) li460 sm461 (by omega)
        · replace c6 : jand v4 63 = 24 := c6
          show jGo E l 179 0 229 _ 1094 [.inr (.inr (.inl (-2))), .inr (.inr (.inl 0)), .inr (.inr (.inl 176)), .inl x3] [] 229 jr0 g
          refine jGo_blk qL_law_1094 ?_
          have e463 : jw32 (x3 + 1) = x3 + 1 := j32e (by omega) (by omega)
          refine st_xi (N := E.2.2.2.2.1) (by decide) (by decide) rfl (show 0 ≤ jw32 (x3 + 1) by omega) (show jw32 (x3 + 1) < ((E.2.2.2.2.1 : Nat) : Int) by omega) (fun v464 ev464 => ?_)
          replace ev464 : v464 = jxv E (-2) (jw32 (x3 + 1)) := ev464
          have e465 : jw32 (x3 + 2) = x3 + 2 := j32e (by omega) (by omega)
          refine st_xi (N := E.2.2.2.2.1) (by decide) (by decide) rfl (show 0 ≤ jw32 (x3 + 2) by omega) (show jw32 (x3 + 2) < ((E.2.2.2.2.1 : Nat) : Int) by omega) (fun v466 ev466 => ?_)
          replace ev466 : v466 = jxv E (-2) (jw32 (x3 + 2)) := ev466
          refine st_cv (na := 2) (st := [.inl v466, .inl v464, .inr (.inr (.inl 0))]) jo_0 rfl rfl rfl (c_X11_treeOf v464 v466 g) rfl ?_
          rintro _ _ g468 ⟨rfl, ft467, t467, rfl, ht467, zt467⟩ kt467
          replace kt467 : -2147483648 ≤ t467 ∧ t467 ≤ 2147483647 := kt467
          have li469 : jLI g468 := jLI_fr (ft467 176 0 (by unfold w_X11_treeOf; omega)) (ft467 0 0 (by unfold w_X11_treeOf; omega)) (fun t => ft467 87 t (by unfold w_X11_treeOf; omega)) li
          have dli469 : g468 176 0 ≤ 2000 := li469.1
          have sm470 : jSm 3 177 4 g468 := jSm_fr (fun t => ft467 3 t (by unfold w_X11_treeOf; omega)) (fun t => ft467 177 t (by unfold w_X11_treeOf; omega)) sm
          have e471 : jw32 (x3 + 1) = x3 + 1 := j32e (by omega) (by omega)
          refine st_xi (N := E.2.2.2.2.1) (by decide) (by decide) rfl (show 0 ≤ jw32 (x3 + 1) by omega) (show jw32 (x3 + 1) < ((E.2.2.2.2.1 : Nat) : Int) by omega) (fun v472 ev472 => ?_)
          replace ev472 : v472 = jxv E (-2) (jw32 (x3 + 1)) := ev472
          have e473 : jw32 (x3 + 2) = x3 + 2 := j32e (by omega) (by omega)
          refine st_xi (N := E.2.2.2.2.1) (by decide) (by decide) rfl (show 0 ≤ jw32 (x3 + 2) by omega) (show jw32 (x3 + 2) < ((E.2.2.2.2.1 : Nat) : Int) by omega) (fun v474 ev474 => ?_)
          replace ev474 : v474 = jxv E (-2) (jw32 (x3 + 2)) := ev474
          refine st_cv (na := 2) (st := [.inl v474, .inl v472, .inr (.inr (.inl 176))]) jo_176 rfl rfl rfl (c_X12_treeOf v472 v474 g468) rfl ?_
          rintro _ _ g476 ⟨rfl, ft475, t475, rfl, ht475, zt475⟩ kt475
          replace kt475 : -2147483648 ≤ t475 ∧ t475 ≤ 2147483647 := kt475
          have li477 : jLI g476 := jLI_fr (ft475 176 0 (by unfold w_X12_treeOf; omega)) (ft475 0 0 (by unfold w_X12_treeOf; omega)) (fun t => ft475 87 t (by unfold w_X12_treeOf; omega)) li469
          have dli477 : g476 176 0 ≤ 2000 := li477.1
          have sm478 : jSm 3 177 4 g476 := jSm_fr (fun t => ft475 3 t (by unfold w_X12_treeOf; omega)) (fun t => ft475 177 t (by unfold w_X12_treeOf; omega)) sm470
          show jGo E l 179 0 229 _ 1410 [.inr (.inr (.inl (-2))), .inr (.inr (.inl 0)), .inr (.inr (.inl 176)), .inl x3] [] 229 jr0 g476
          refine jGo_blk qL_law_1410 ?_
          have e479 : jw32 (x3 + 6) = x3 + 6 := j32e (by omega) (by omega)
          show jGo E l 179 0 229 _ 18 [.inr (.inr (.inl (-2))), .inr (.inr (.inl 0)), .inr (.inr (.inl 176)), .inl (jw32 (x3 + 6))] [] 229 jr0 g476
          exact ih (jw32 (x3 + 6)) g476 (by omega) li477 sm478 (by omega)
        · replace c6 : jand v4 63 = 25 := c6
          show jGo E l 179 0 229 _ 1127 [.inr (.inr (.inl (-2))), .inr (.inr (.inl 0)), .inr (.inr (.inl 176)), .inl x3] [] 229 jr0 g
          refine jGo_blk qL_law_1127 ?_
          have e480 : jw32 (x3 + 1) = x3 + 1 := j32e (by omega) (by omega)
          refine st_xi (N := E.2.2.2.2.1) (by decide) (by decide) rfl (show 0 ≤ jw32 (x3 + 1) by omega) (show jw32 (x3 + 1) < ((E.2.2.2.2.1 : Nat) : Int) by omega) (fun v481 ev481 => ?_)
          replace ev481 : v481 = jxv E (-2) (jw32 (x3 + 1)) := ev481
          have e482 : jw32 (x3 + 2) = x3 + 2 := j32e (by omega) (by omega)
          refine st_xi (N := E.2.2.2.2.1) (by decide) (by decide) rfl (show 0 ≤ jw32 (x3 + 2) by omega) (show jw32 (x3 + 2) < ((E.2.2.2.2.1 : Nat) : Int) by omega) (fun v483 ev483 => ?_)
          replace ev483 : v483 = jxv E (-2) (jw32 (x3 + 2)) := ev483
          refine st_cv (na := 2) (st := [.inl v483, .inl v481, .inr (.inr (.inl 0))]) jo_0 rfl rfl rfl (c_X11_count v481 v483 g) rfl ?_
          rintro _ _ g485 ⟨rfl, ft484, t484, rfl, ht484, zt484⟩ kt484
          replace kt484 : -2147483648 ≤ t484 ∧ t484 ≤ 2147483647 := kt484
          have li486 : jLI g485 := jLI_fr (ft484 176 0 (by unfold w_X11_count; omega)) (ft484 0 0 (by unfold w_X11_count; omega)) (fun t => ft484 87 t (by unfold w_X11_count; omega)) li
          have dli486 : g485 176 0 ≤ 2000 := li486.1
          have sm487 : jSm 3 177 4 g485 := jSm_fr (fun t => ft484 3 t (by unfold w_X11_count; omega)) (fun t => ft484 177 t (by unfold w_X11_count; omega)) sm
          have e488 : jw32 (x3 + 1) = x3 + 1 := j32e (by omega) (by omega)
          refine st_xi (N := E.2.2.2.2.1) (by decide) (by decide) rfl (show 0 ≤ jw32 (x3 + 1) by omega) (show jw32 (x3 + 1) < ((E.2.2.2.2.1 : Nat) : Int) by omega) (fun v489 ev489 => ?_)
          replace ev489 : v489 = jxv E (-2) (jw32 (x3 + 1)) := ev489
          have e490 : jw32 (x3 + 2) = x3 + 2 := j32e (by omega) (by omega)
          refine st_xi (N := E.2.2.2.2.1) (by decide) (by decide) rfl (show 0 ≤ jw32 (x3 + 2) by omega) (show jw32 (x3 + 2) < ((E.2.2.2.2.1 : Nat) : Int) by omega) (fun v491 ev491 => ?_)
          replace ev491 : v491 = jxv E (-2) (jw32 (x3 + 2)) := ev491
          have e492 : g485 176 0 = g 176 0 := ft484 176 0 (by unfold w_X11_count; omega)
          refine st_cv (na := 2) (st := [.inl v491, .inl v489, .inr (.inr (.inl 176))]) jo_176 rfl rfl rfl (c_X12_count v489 v491 g485 (by omega)) rfl ?_
          rintro _ _ g494 ⟨rfl, ft493, t493, rfl, ht493, zt493⟩ kt493
          replace kt493 : -2147483648 ≤ t493 ∧ t493 ≤ 2147483647 := kt493
          have li495 : jLI g494 := jLI_fr (ft493 176 0 (by unfold w_X12_count; omega)) (ft493 0 0 (by unfold w_X12_count; omega)) (fun t => ft493 87 t (by unfold w_X12_count; omega)) li486
          have dli495 : g494 176 0 ≤ 2000 := li495.1
          have sm496 : jSm 3 177 4 g494 := jSm_fr (fun t => ft493 3 t (by unfold w_X12_count; omega)) (fun t => ft493 177 t (by unfold w_X12_count; omega)) sm487
          show jGo E l 179 0 229 _ 1410 [.inr (.inr (.inl (-2))), .inr (.inr (.inl 0)), .inr (.inr (.inl 176)), .inl x3] [] 229 jr0 g494
          refine jGo_blk qL_law_1410 ?_
          have e497 : jw32 (x3 + 6) = x3 + 6 := j32e (by omega) (by omega)
          show jGo E l 179 0 229 _ 18 [.inr (.inr (.inl (-2))), .inr (.inr (.inl 0)), .inr (.inr (.inl 176)), .inl (jw32 (x3 + 6))] [] 229 jr0 g494
          exact ih (jw32 (x3 + 6)) g494 (by omega) li495 sm496 (by omega)
        · replace c6 : jand v4 63 = 26 := c6
          show jGo E l 179 0 229 _ 1160 [.inr (.inr (.inl (-2))), .inr (.inr (.inl 0)), .inr (.inr (.inl 176)), .inl x3] [] 229 jr0 g
          refine jGo_blk qL_law_1160 ?_
          have e498 : jw32 (x3 + 1) = x3 + 1 := j32e (by omega) (by omega)
          refine st_xi (N := E.2.2.2.2.1) (by decide) (by decide) rfl (show 0 ≤ jw32 (x3 + 1) by omega) (show jw32 (x3 + 1) < ((E.2.2.2.2.1 : Nat) : Int) by omega) (fun v499 ev499 => ?_)
          replace ev499 : v499 = jxv E (-2) (jw32 (x3 + 1)) := ev499
          have e500 : jw32 (x3 + 2) = x3 + 2 := j32e (by omega) (by omega)
          refine st_xi (N := E.2.2.2.2.1) (by decide) (by decide) rfl (show 0 ≤ jw32 (x3 + 2) by omega) (show jw32 (x3 + 2) < ((E.2.2.2.2.1 : Nat) : Int) by omega) (fun v501 ev501 => ?_)
          replace ev501 : v501 = jxv E (-2) (jw32 (x3 + 2)) := ev501
          refine st_cv (na := 2) (st := [.inl v501, .inl v499, .inr (.inr (.inl 0))]) jo_0 rfl rfl rfl (c_X11_gap v499 v501 g) rfl ?_
          rintro _ _ g503 ⟨rfl, ft502, t502, rfl, ht502, zt502⟩ kt502
          replace kt502 : -2147483648 ≤ t502 ∧ t502 ≤ 2147483647 := kt502
          have li504 : jLI g503 := jLI_fr (ft502 176 0 (by unfold w_X11_gap; omega)) (ft502 0 0 (by unfold w_X11_gap; omega)) (fun t => ft502 87 t (by unfold w_X11_gap; omega)) li
          have dli504 : g503 176 0 ≤ 2000 := li504.1
          have sm505 : jSm 3 177 4 g503 := jSm_fr (fun t => ft502 3 t (by unfold w_X11_gap; omega)) (fun t => ft502 177 t (by unfold w_X11_gap; omega)) sm
          have e506 : jw32 (x3 + 1) = x3 + 1 := j32e (by omega) (by omega)
          refine st_xi (N := E.2.2.2.2.1) (by decide) (by decide) rfl (show 0 ≤ jw32 (x3 + 1) by omega) (show jw32 (x3 + 1) < ((E.2.2.2.2.1 : Nat) : Int) by omega) (fun v507 ev507 => ?_)
          replace ev507 : v507 = jxv E (-2) (jw32 (x3 + 1)) := ev507
          have e508 : jw32 (x3 + 2) = x3 + 2 := j32e (by omega) (by omega)
          refine st_xi (N := E.2.2.2.2.1) (by decide) (by decide) rfl (show 0 ≤ jw32 (x3 + 2) by omega) (show jw32 (x3 + 2) < ((E.2.2.2.2.1 : Nat) : Int) by omega) (fun v509 ev509 => ?_)
          replace ev509 : v509 = jxv E (-2) (jw32 (x3 + 2)) := ev509
          refine st_cv (na := 2) (st := [.inl v509, .inl v507, .inr (.inr (.inl 176))]) jo_176 rfl rfl rfl (c_X12_gap v507 v509 g503) rfl ?_
          rintro _ _ g511 ⟨rfl, ft510, t510, rfl, ht510, zt510⟩ kt510
          replace kt510 : -2147483648 ≤ t510 ∧ t510 ≤ 2147483647 := kt510
          have li512 : jLI g511 := jLI_fr (ft510 176 0 (by unfold w_X12_gap; omega)) (ft510 0 0 (by unfold w_X12_gap; omega)) (fun t => ft510 87 t (by unfold w_X12_gap; omega)) li504
          have dli512 : g511 176 0 ≤ 2000 := li512.1
          have sm513 : jSm 3 177 4 g511 := jSm_fr (fun t => ft510 3 t (by unfold w_X12_gap; omega)) (fun t => ft510 177 t (by unfold w_X12_gap; omega)) sm505
          show jGo E l 179 0 229 _ 1410 [.inr (.inr (.inl (-2))), .inr (.inr (.inl 0)), .inr (.inr (.inl 176)), .inl x3] [] 229 jr0 g511
          refine jGo_blk qL_law_1410 ?_
          have e514 : jw32 (x3 + 6) = x3 + 6 := j32e (by omega) (by omega)
          show jGo E l 179 0 229 _ 18 [.inr (.inr (.inl (-2))), .inr (.inr (.inl 0)), .inr (.inr (.inl 176)), .inl (jw32 (x3 + 6))] [] 229 jr0 g511
          exact ih (jw32 (x3 + 6)) g511 (by omega) li512 sm513 (by omega)
        · replace c6 : jand v4 63 = 27 := c6
          show jGo E l 179 0 229 _ 1193 [.inr (.inr (.inl (-2))), .inr (.inr (.inl 0)), .inr (.inr (.inl 176)), .inl x3] [] 229 jr0 g
          refine jGo_blk qL_law_1193 ?_
          have e515 : jw32 (x3 + 1) = x3 + 1 := j32e (by omega) (by omega)
          refine st_xi (N := E.2.2.2.2.1) (by decide) (by decide) rfl (show 0 ≤ jw32 (x3 + 1) by omega) (show jw32 (x3 + 1) < ((E.2.2.2.2.1 : Nat) : Int) by omega) (fun v516 ev516 => ?_)
          replace ev516 : v516 = jxv E (-2) (jw32 (x3 + 1)) := ev516
          refine st_cv (na := 1) (st := [.inl v516, .inr (.inr (.inl 0))]) jo_0 rfl rfl rfl (c_X11_worst v516 g) rfl ?_
          rintro _ _ g518 ⟨rfl, ft517, t517, rfl, ht517, zt517⟩ kt517
          replace kt517 : -2147483648 ≤ t517 ∧ t517 ≤ 2147483647 := kt517
          replace ht517 : -9 ≤ t517 ∧ t517 ≤ 39 := ht517
          have li519 : jLI g518 := jLI_fr (ft517 176 0 (by unfold w_X11_worst; omega)) (ft517 0 0 (by unfold w_X11_worst; omega)) (fun t => ft517 87 t (by unfold w_X11_worst; omega)) li
          have dli519 : g518 176 0 ≤ 2000 := li519.1
          have sm520 : jSm 3 177 4 g518 := jSm_fr (fun t => ft517 3 t (by unfold w_X11_worst; omega)) (fun t => ft517 177 t (by unfold w_X11_worst; omega)) sm
          have e521 : jw32 (x3 + 1) = x3 + 1 := j32e (by omega) (by omega)
          refine st_xi (N := E.2.2.2.2.1) (by decide) (by decide) rfl (show 0 ≤ jw32 (x3 + 1) by omega) (show jw32 (x3 + 1) < ((E.2.2.2.2.1 : Nat) : Int) by omega) (fun v522 ev522 => ?_)
          replace ev522 : v522 = jxv E (-2) (jw32 (x3 + 1)) := ev522
          refine st_cv (na := 1) (st := [.inl v522, .inr (.inr (.inl 176))]) jo_176 rfl rfl rfl (c_X12_worst v522 g518) rfl ?_
          rintro _ _ g524 ⟨rfl, ft523, t523, rfl, ht523, zt523⟩ kt523
          replace kt523 : -2147483648 ≤ t523 ∧ t523 ≤ 2147483647 := kt523
          replace ht523 : -9 ≤ t523 ∧ t523 ≤ 39 := ht523
          have li525 : jLI g524 := jLI_fr (ft523 176 0 (by unfold w_X12_worst; omega)) (ft523 0 0 (by unfold w_X12_worst; omega)) (fun t => ft523 87 t (by unfold w_X12_worst; omega)) li519
          have dli525 : g524 176 0 ≤ 2000 := li525.1
          have sm526 : jSm 3 177 4 g524 := jSm_fr (fun t => ft523 3 t (by unfold w_X12_worst; omega)) (fun t => ft523 177 t (by unfold w_X12_worst; omega)) sm520
          show jGo E l 179 0 229 _ 1410 [.inr (.inr (.inl (-2))), .inr (.inr (.inl 0)), .inr (.inr (.inl 176)), .inl x3] [] 229 jr0 g524
          refine jGo_blk qL_law_1410 ?_
          have e527 : jw32 (x3 + 6) = x3 + 6 := j32e (by omega) (by omega)
          show jGo E l 179 0 229 _ 18 [.inr (.inr (.inl (-2))), .inr (.inr (.inl 0)), .inr (.inr (.inl 176)), .inl (jw32 (x3 + 6))] [] 229 jr0 g524
          exact ih (jw32 (x3 + 6)) g524 (by omega) li525 sm526 (by omega)
        · replace c6 : jand v4 63 = 28 := c6
          show jGo E l 179 0 229 _ 1216 [.inr (.inr (.inl (-2))), .inr (.inr (.inl 0)), .inr (.inr (.inl 176)), .inl x3] [] 229 jr0 g
          refine jGo_blk qL_law_1216 ?_
          have e528 : jw32 (x3 + 1) = x3 + 1 := j32e (by omega) (by omega)
          refine st_xi (N := E.2.2.2.2.1) (by decide) (by decide) rfl (show 0 ≤ jw32 (x3 + 1) by omega) (show jw32 (x3 + 1) < ((E.2.2.2.2.1 : Nat) : Int) by omega) (fun v529 ev529 => ?_)
          replace ev529 : v529 = jxv E (-2) (jw32 (x3 + 1)) := ev529
          refine st_cv (na := 1) (st := [.inl v529, .inr (.inr (.inl 0))]) jo_0 rfl rfl rfl (c_X11_ready v529 g) rfl ?_
          rintro _ _ g531 ⟨rfl, ft530, t530, rfl, ht530, zt530⟩ kt530
          replace kt530 : -2147483648 ≤ t530 ∧ t530 ≤ 2147483647 := kt530
          have li532 : jLI g531 := jLI_fr (ft530 176 0 (by unfold w_X11_ready; omega)) (ft530 0 0 (by unfold w_X11_ready; omega)) (fun t => ft530 87 t (by unfold w_X11_ready; omega)) li
          have dli532 : g531 176 0 ≤ 2000 := li532.1
          have sm533 : jSm 3 177 4 g531 := jSm_fr (fun t => ft530 3 t (by unfold w_X11_ready; omega)) (fun t => ft530 177 t (by unfold w_X11_ready; omega)) sm
          have e534 : jw32 (x3 + 1) = x3 + 1 := j32e (by omega) (by omega)
          refine st_xi (N := E.2.2.2.2.1) (by decide) (by decide) rfl (show 0 ≤ jw32 (x3 + 1) by omega) (show jw32 (x3 + 1) < ((E.2.2.2.2.1 : Nat) : Int) by omega) (fun v535 ev535 => ?_)
          replace ev535 : v535 = jxv E (-2) (jw32 (x3 + 1)) := ev535
          have e536 : g531 176 0 = g 176 0 := ft530 176 0 (by unfold w_X11_ready; omega)
          refine st_cv (na := 1) (st := [.inl v535, .inr (.inr (.inl 176))]) jo_176 rfl rfl rfl (c_X12_ready v535 g531 (by omega)) rfl ?_
          rintro _ _ g538 ⟨rfl, ft537, t537, rfl, ht537, zt537⟩ kt537
          replace kt537 : -2147483648 ≤ t537 ∧ t537 ≤ 2147483647 := kt537
          replace zt537 : g538 176 0 = g531 176 0 := zt537
          have li539 : jLI g538 := ⟨by rw [show g538 176 0 = g531 176 0 from zt537]; exact li532.1, jLG_fr (ft537 0 0 (by unfold w_X12_ready; omega)) (fun t => ft537 87 t (by unfold w_X12_ready; omega)) li532.2⟩
          have dli539 : g538 176 0 ≤ 2000 := li539.1
          have sm540 : jSm 3 177 4 g538 := jSm_fr (fun t => ft537 3 t (by unfold w_X12_ready; omega)) (fun t => ft537 177 t (by unfold w_X12_ready; omega)) sm533
          show jGo E l 179 0 229 _ 1410 [.inr (.inr (.inl (-2))), .inr (.inr (.inl 0)), .inr (.inr (.inl 176)), .inl x3] [] 229 jr0 g538
          refine jGo_blk qL_law_1410 ?_
          have e541 : jw32 (x3 + 6) = x3 + 6 := j32e (by omega) (by omega)
          show jGo E l 179 0 229 _ 18 [.inr (.inr (.inl (-2))), .inr (.inr (.inl 0)), .inr (.inr (.inl 176)), .inl (jw32 (x3 + 6))] [] 229 jr0 g538
          exact ih (jw32 (x3 + 6)) g538 (by omega) li539 sm540 (by omega)
        · replace c6 : jand v4 63 = 29 := c6
          show jGo E l 179 0 229 _ 1239 [.inr (.inr (.inl (-2))), .inr (.inr (.inl 0)), .inr (.inr (.inl 176)), .inl x3] [] 229 jr0 g
          refine jGo_blk qL_law_1239 ?_
          have e542 : jw32 (x3 + 1) = x3 + 1 := j32e (by omega) (by omega)
          refine st_xi (N := E.2.2.2.2.1) (by decide) (by decide) rfl (show 0 ≤ jw32 (x3 + 1) by omega) (show jw32 (x3 + 1) < ((E.2.2.2.2.1 : Nat) : Int) by omega) (fun v543 ev543 => ?_)
          replace ev543 : v543 = jxv E (-2) (jw32 (x3 + 1)) := ev543
          refine st_cv (na := 1) (st := [.inl v543, .inr (.inr (.inl 0))]) jo_0 rfl rfl rfl (c_X11_late v543 g) rfl ?_
          rintro _ _ g545 ⟨rfl, ft544, t544, rfl, ht544, zt544⟩ kt544
          replace kt544 : -2147483648 ≤ t544 ∧ t544 ≤ 2147483647 := kt544
          have li546 : jLI g545 := jLI_fr (ft544 176 0 (by unfold w_X11_late; omega)) (ft544 0 0 (by unfold w_X11_late; omega)) (fun t => ft544 87 t (by unfold w_X11_late; omega)) li
          have dli546 : g545 176 0 ≤ 2000 := li546.1
          have sm547 : jSm 3 177 4 g545 := jSm_fr (fun t => ft544 3 t (by unfold w_X11_late; omega)) (fun t => ft544 177 t (by unfold w_X11_late; omega)) sm
          have e548 : jw32 (x3 + 1) = x3 + 1 := j32e (by omega) (by omega)
          refine st_xi (N := E.2.2.2.2.1) (by decide) (by decide) rfl (show 0 ≤ jw32 (x3 + 1) by omega) (show jw32 (x3 + 1) < ((E.2.2.2.2.1 : Nat) : Int) by omega) (fun v549 ev549 => ?_)
          replace ev549 : v549 = jxv E (-2) (jw32 (x3 + 1)) := ev549
          have e550 : g545 176 0 = g 176 0 := ft544 176 0 (by unfold w_X11_late; omega)
          refine st_cv (na := 1) (st := [.inl v549, .inr (.inr (.inl 176))]) jo_176 rfl rfl rfl (c_X12_late v549 g545 (by omega)) rfl ?_
          rintro _ _ g552 ⟨rfl, ft551, t551, rfl, ht551, zt551⟩ kt551
          replace kt551 : -2147483648 ≤ t551 ∧ t551 ≤ 2147483647 := kt551
          replace zt551 : g552 176 0 = g545 176 0 := zt551
          have li553 : jLI g552 := ⟨by rw [show g552 176 0 = g545 176 0 from zt551]; exact li546.1, jLG_fr (ft551 0 0 (by unfold w_X12_late; omega)) (fun t => ft551 87 t (by unfold w_X12_late; omega)) li546.2⟩
          have dli553 : g552 176 0 ≤ 2000 := li553.1
          have sm554 : jSm 3 177 4 g552 := jSm_fr (fun t => ft551 3 t (by unfold w_X12_late; omega)) (fun t => ft551 177 t (by unfold w_X12_late; omega)) sm547
          show jGo E l 179 0 229 _ 1410 [.inr (.inr (.inl (-2))), .inr (.inr (.inl 0)), .inr (.inr (.inl 176)), .inl x3] [] 229 jr0 g552
          refine jGo_blk qL_law_1410 ?_
          have e555 : jw32 (x3 + 6) = x3 + 6 := j32e (by omega) (by omega)
          show jGo E l 179 0 229 _ 18 [.inr (.inr (.inl (-2))), .inr (.inr (.inl 0)), .inr (.inr (.inl 176)), .inl (jw32 (x3 + 6))] [] 229 jr0 g552
          exact ih (jw32 (x3 + 6)) g552 (by omega) li553 sm554 (by omega)
        · replace c6 : jand v4 63 = 30 := c6
          show jGo E l 179 0 229 _ 1262 [.inr (.inr (.inl (-2))), .inr (.inr (.inl 0)), .inr (.inr (.inl 176)), .inl x3] [] 229 jr0 g
          refine jGo_blk qL_law_1262 ?_
          refine st_cv (na := 0) (st := [.inr (.inr (.inl 0))]) jo_0 rfl rfl rfl (c_X11_least g) rfl ?_
          rintro _ _ g557 ⟨rfl, ft556, t556, rfl, ht556, zt556⟩ kt556
          replace kt556 : -2147483648 ≤ t556 ∧ t556 ≤ 2147483647 := kt556
          have li558 : jLI g557 := jLI_fr (ft556 176 0 (by unfold w_X11_least; omega)) (ft556 0 0 (by unfold w_X11_least; omega)) (fun t => ft556 87 t (by unfold w_X11_least; omega)) li
          have dli558 : g557 176 0 ≤ 2000 := li558.1
          have sm559 : jSm 3 177 4 g557 := jSm_fr (fun t => ft556 3 t (by unfold w_X11_least; omega)) (fun t => ft556 177 t (by unfold w_X11_least; omega)) sm
          have e560 : g557 176 0 = g 176 0 := ft556 176 0 (by unfold w_X11_least; omega)
          refine st_cv (na := 0) (st := [.inr (.inr (.inl 176))]) jo_176 rfl rfl rfl (c_X12_least g557 (by omega)) rfl ?_
          rintro _ _ g562 ⟨rfl, ft561, t561, rfl, ht561, zt561⟩ kt561
          replace kt561 : -2147483648 ≤ t561 ∧ t561 ≤ 2147483647 := kt561
          replace zt561 : g562 176 0 = g557 176 0 := zt561
          have li563 : jLI g562 := ⟨by rw [show g562 176 0 = g557 176 0 from zt561]; exact li558.1, jLG_fr (ft561 0 0 (by unfold w_X12_least; omega)) (fun t => ft561 87 t (by unfold w_X12_least; omega)) li558.2⟩
          have dli563 : g562 176 0 ≤ 2000 := li563.1
          have sm564 : jSm 3 177 4 g562 := jSm_fr (fun t => ft561 3 t (by unfold w_X12_least; omega)) (fun t => ft561 177 t (by unfold w_X12_least; omega)) sm559
          show jGo E l 179 0 229 _ 1410 [.inr (.inr (.inl (-2))), .inr (.inr (.inl 0)), .inr (.inr (.inl 176)), .inl x3] [] 229 jr0 g562
          refine jGo_blk qL_law_1410 ?_
          have e565 : jw32 (x3 + 6) = x3 + 6 := j32e (by omega) (by omega)
          show jGo E l 179 0 229 _ 18 [.inr (.inr (.inl (-2))), .inr (.inr (.inl 0)), .inr (.inr (.inl 176)), .inl (jw32 (x3 + 6))] [] 229 jr0 g562
          exact ih (jw32 (x3 + 6)) g562 (by omega) li563 sm564 (by omega)
        · replace c6 : jand v4 63 = 31 := c6
          show jGo E l 179 0 229 _ 1275 [.inr (.inr (.inl (-2))), .inr (.inr (.inl 0)), .inr (.inr (.inl 176)), .inl x3] [] 229 jr0 g
          refine jGo_blk qL_law_1275 ?_
          have e566 : jw32 (x3 + 1) = x3 + 1 := j32e (by omega) (by omega)
          refine st_xi (N := E.2.2.2.2.1) (by decide) (by decide) rfl (show 0 ≤ jw32 (x3 + 1) by omega) (show jw32 (x3 + 1) < ((E.2.2.2.2.1 : Nat) : Int) by omega) (fun v567 ev567 => ?_)
          replace ev567 : v567 = jxv E (-2) (jw32 (x3 + 1)) := ev567
          refine st_cv (na := 1) (st := [.inl v567, .inr (.inr (.inl 0))]) jo_0 rfl rfl rfl (c_X11_order v567 g) rfl ?_
          rintro _ _ g569 ⟨rfl, ft568, t568, rfl, ht568, zt568⟩ kt568
          replace kt568 : -2147483648 ≤ t568 ∧ t568 ≤ 2147483647 := kt568
          replace ht568 : -9 ≤ t568 ∧ t568 ≤ 15 := ht568
          have li570 : jLI g569 := jLI_fr (ft568 176 0 (by unfold w_X11_order; omega)) (ft568 0 0 (by unfold w_X11_order; omega)) (fun t => ft568 87 t (by unfold w_X11_order; omega)) li
          have dli570 : g569 176 0 ≤ 2000 := li570.1
          have sm571 : jSm 3 177 4 g569 := jSm_fr (fun t => ft568 3 t (by unfold w_X11_order; omega)) (fun t => ft568 177 t (by unfold w_X11_order; omega)) sm
          have e572 : jw32 (x3 + 1) = x3 + 1 := j32e (by omega) (by omega)
          refine st_xi (N := E.2.2.2.2.1) (by decide) (by decide) rfl (show 0 ≤ jw32 (x3 + 1) by omega) (show jw32 (x3 + 1) < ((E.2.2.2.2.1 : Nat) : Int) by omega) (fun v573 ev573 => ?_)
          replace ev573 : v573 = jxv E (-2) (jw32 (x3 + 1)) := ev573
          have e574 : g569 176 0 = g 176 0 := ft568 176 0 (by unfold w_X11_order; omega)
          refine st_cv (na := 1) (st := [.inl v573, .inr (.inr (.inl 176))]) jo_176 rfl rfl rfl (c_X12_order v573 g569 (by omega)) rfl ?_
          rintro _ _ g576 ⟨rfl, ft575, t575, rfl, ht575, zt575⟩ kt575
          replace kt575 : -2147483648 ≤ t575 ∧ t575 ≤ 2147483647 := kt575
          replace ht575 : -9 ≤ t575 ∧ t575 ≤ 15 := ht575
          replace zt575 : g576 176 0 = g569 176 0 := zt575
          have li577 : jLI g576 := ⟨by rw [show g576 176 0 = g569 176 0 from zt575]; exact li570.1, jLG_fr (ft575 0 0 (by unfold w_X12_order; omega)) (fun t => ft575 87 t (by unfold w_X12_order; omega)) li570.2⟩
          have dli577 : g576 176 0 ≤ 2000 := li577.1
          have sm578 : jSm 3 177 4 g576 := jSm_fr (fun t => ft575 3 t (by unfold w_X12_order; omega)) (fun t => ft575 177 t (by unfold w_X12_order; omega)) sm571
          show jGo E l 179 0 229 _ 1410 [.inr (.inr (.inl (-2))), .inr (.inr (.inl 0)), .inr (.inr (.inl 176)), .inl x3] [] 229 jr0 g576
          refine jGo_blk qL_law_1410 ?_
          have e579 : jw32 (x3 + 6) = x3 + 6 := j32e (by omega) (by omega)
          show jGo E l 179 0 229 _ 18 [.inr (.inr (.inl (-2))), .inr (.inr (.inl 0)), .inr (.inr (.inl 176)), .inl (jw32 (x3 + 6))] [] 229 jr0 g576
          exact ih (jw32 (x3 + 6)) g576 (by omega) li577 sm578 (by omega)
        · replace c6 : jand v4 63 = 32 := c6
          show jGo E l 179 0 229 _ 1298 [.inr (.inr (.inl (-2))), .inr (.inr (.inl 0)), .inr (.inr (.inl 176)), .inl x3] [] 229 jr0 g
          refine jGo_blk qL_law_1298 ?_
          have e580 : jw32 (x3 + 1) = x3 + 1 := j32e (by omega) (by omega)
          refine st_xi (N := E.2.2.2.2.1) (by decide) (by decide) rfl (show 0 ≤ jw32 (x3 + 1) by omega) (show jw32 (x3 + 1) < ((E.2.2.2.2.1 : Nat) : Int) by omega) (fun v581 ev581 => ?_)
          replace ev581 : v581 = jxv E (-2) (jw32 (x3 + 1)) := ev581
          have e582 : jw32 (x3 + 2) = x3 + 2 := j32e (by omega) (by omega)
          refine st_xi (N := E.2.2.2.2.1) (by decide) (by decide) rfl (show 0 ≤ jw32 (x3 + 2) by omega) (show jw32 (x3 + 2) < ((E.2.2.2.2.1 : Nat) : Int) by omega) (fun v583 ev583 => ?_)
          replace ev583 : v583 = jxv E (-2) (jw32 (x3 + 2)) := ev583
          refine st_cv (na := 2) (st := [.inl v583, .inl v581, .inr (.inr (.inl 0))]) jo_0 rfl rfl rfl (c_X11_hullOf v581 v583 g) rfl ?_
          rintro _ _ g585 ⟨rfl, ft584, t584, rfl, ht584, zt584⟩ kt584
          replace kt584 : -2147483648 ≤ t584 ∧ t584 ≤ 2147483647 := kt584
          have li586 : jLI g585 := jLI_fr (ft584 176 0 (by unfold w_X11_hullOf; omega)) (ft584 0 0 (by unfold w_X11_hullOf; omega)) (fun t => ft584 87 t (by unfold w_X11_hullOf; omega)) li
          have dli586 : g585 176 0 ≤ 2000 := li586.1
          have sm587 : jSm 3 177 4 g585 := jSm_fr (fun t => ft584 3 t (by unfold w_X11_hullOf; omega)) (fun t => ft584 177 t (by unfold w_X11_hullOf; omega)) sm
          have e588 : jw32 (x3 + 1) = x3 + 1 := j32e (by omega) (by omega)
          refine st_xi (N := E.2.2.2.2.1) (by decide) (by decide) rfl (show 0 ≤ jw32 (x3 + 1) by omega) (show jw32 (x3 + 1) < ((E.2.2.2.2.1 : Nat) : Int) by omega) (fun v589 ev589 => ?_)
          replace ev589 : v589 = jxv E (-2) (jw32 (x3 + 1)) := ev589
          have e590 : jw32 (x3 + 2) = x3 + 2 := j32e (by omega) (by omega)
          refine st_xi (N := E.2.2.2.2.1) (by decide) (by decide) rfl (show 0 ≤ jw32 (x3 + 2) by omega) (show jw32 (x3 + 2) < ((E.2.2.2.2.1 : Nat) : Int) by omega) (fun v591 ev591 => ?_)
          replace ev591 : v591 = jxv E (-2) (jw32 (x3 + 2)) := ev591
          refine st_cv (na := 2) (st := [.inl v591, .inl v589, .inr (.inr (.inl 176))]) jo_176 rfl rfl rfl (c_X12_hullOf v589 v591 g585) rfl ?_
          rintro _ _ g593 ⟨rfl, ft592, t592, rfl, ht592, zt592⟩ kt592
          replace kt592 : -2147483648 ≤ t592 ∧ t592 ≤ 2147483647 := kt592
          have li594 : jLI g593 := jLI_fr (ft592 176 0 (by unfold w_X12_hullOf; omega)) (ft592 0 0 (by unfold w_X12_hullOf; omega)) (fun t => ft592 87 t (by unfold w_X12_hullOf; omega)) li586
          have dli594 : g593 176 0 ≤ 2000 := li594.1
          have sm595 : jSm 3 177 4 g593 := jSm_fr (fun t => ft592 3 t (by unfold w_X12_hullOf; omega)) (fun t => ft592 177 t (by unfold w_X12_hullOf; omega)) sm587
          show jGo E l 179 0 229 _ 1410 [.inr (.inr (.inl (-2))), .inr (.inr (.inl 0)), .inr (.inr (.inl 176)), .inl x3] [] 229 jr0 g593
          refine jGo_blk qL_law_1410 ?_
          have e596 : jw32 (x3 + 6) = x3 + 6 := j32e (by omega) (by omega)
          show jGo E l 179 0 229 _ 18 [.inr (.inr (.inl (-2))), .inr (.inr (.inl 0)), .inr (.inr (.inl 176)), .inl (jw32 (x3 + 6))] [] 229 jr0 g593
          exact ih (jw32 (x3 + 6)) g593 (by omega) li594 sm595 (by omega)
        · replace c6 : jand v4 63 = 33 := c6
          show jGo E l 179 0 229 _ 1331 [.inr (.inr (.inl (-2))), .inr (.inr (.inl 0)), .inr (.inr (.inl 176)), .inl x3] [] 229 jr0 g
          refine jGo_blk qL_law_1331 ?_
          have e597 : jw32 (x3 + 1) = x3 + 1 := j32e (by omega) (by omega)
          refine st_xi (N := E.2.2.2.2.1) (by decide) (by decide) rfl (show 0 ≤ jw32 (x3 + 1) by omega) (show jw32 (x3 + 1) < ((E.2.2.2.2.1 : Nat) : Int) by omega) (fun v598 ev598 => ?_)
          replace ev598 : v598 = jxv E (-2) (jw32 (x3 + 1)) := ev598
          have e599 : jw32 (x3 + 2) = x3 + 2 := j32e (by omega) (by omega)
          refine st_xi (N := E.2.2.2.2.1) (by decide) (by decide) rfl (show 0 ≤ jw32 (x3 + 2) by omega) (show jw32 (x3 + 2) < ((E.2.2.2.2.1 : Nat) : Int) by omega) (fun v600 ev600 => ?_)
          replace ev600 : v600 = jxv E (-2) (jw32 (x3 + 2)) := ev600
          refine st_cv (na := 2) (st := [.inl v600, .inl v598, .inr (.inr (.inl 0))]) jo_0 rfl rfl rfl (c_X11_basinOf v598 v600 g) rfl ?_
          rintro _ _ g602 ⟨rfl, ft601, t601, rfl, ht601, zt601⟩ kt601
          replace kt601 : -2147483648 ≤ t601 ∧ t601 ≤ 2147483647 := kt601
          have li603 : jLI g602 := jLI_fr (ft601 176 0 (by unfold w_X11_basinOf; omega)) (ft601 0 0 (by unfold w_X11_basinOf; omega)) (fun t => ft601 87 t (by unfold w_X11_basinOf; omega)) li
          have dli603 : g602 176 0 ≤ 2000 := li603.1
          have sm604 : jSm 3 177 4 g602 := jSm_fr (fun t => ft601 3 t (by unfold w_X11_basinOf; omega)) (fun t => ft601 177 t (by unfold w_X11_basinOf; omega)) sm
          have e605 : jw32 (x3 + 1) = x3 + 1 := j32e (by omega) (by omega)
          refine st_xi (N := E.2.2.2.2.1) (by decide) (by decide) rfl (show 0 ≤ jw32 (x3 + 1) by omega) (show jw32 (x3 + 1) < ((E.2.2.2.2.1 : Nat) : Int) by omega) (fun v606 ev606 => ?_)
          replace ev606 : v606 = jxv E (-2) (jw32 (x3 + 1)) := ev606
          have e607 : jw32 (x3 + 2) = x3 + 2 := j32e (by omega) (by omega)
          refine st_xi (N := E.2.2.2.2.1) (by decide) (by decide) rfl (show 0 ≤ jw32 (x3 + 2) by omega) (show jw32 (x3 + 2) < ((E.2.2.2.2.1 : Nat) : Int) by omega) (fun v608 ev608 => ?_)
          replace ev608 : v608 = jxv E (-2) (jw32 (x3 + 2)) := ev608
          refine st_cv (na := 2) (st := [.inl v608, .inl v606, .inr (.inr (.inl 176))]) jo_176 rfl rfl rfl (c_X12_basinOf v606 v608 g602) rfl ?_
          rintro _ _ g610 ⟨rfl, ft609, t609, rfl, ht609, zt609⟩ kt609
          replace kt609 : -2147483648 ≤ t609 ∧ t609 ≤ 2147483647 := kt609
          have li611 : jLI g610 := jLI_fr (ft609 176 0 (by unfold w_X12_basinOf; omega)) (ft609 0 0 (by unfold w_X12_basinOf; omega)) (fun t => ft609 87 t (by unfold w_X12_basinOf; omega)) li603
          have dli611 : g610 176 0 ≤ 2000 := li611.1
          have sm612 : jSm 3 177 4 g610 := jSm_fr (fun t => ft609 3 t (by unfold w_X12_basinOf; omega)) (fun t => ft609 177 t (by unfold w_X12_basinOf; omega)) sm604
          show jGo E l 179 0 229 _ 1410 [.inr (.inr (.inl (-2))), .inr (.inr (.inl 0)), .inr (.inr (.inl 176)), .inl x3] [] 229 jr0 g610
          refine jGo_blk qL_law_1410 ?_
          have e613 : jw32 (x3 + 6) = x3 + 6 := j32e (by omega) (by omega)
          show jGo E l 179 0 229 _ 18 [.inr (.inr (.inl (-2))), .inr (.inr (.inl 0)), .inr (.inr (.inl 176)), .inl (jw32 (x3 + 6))] [] 229 jr0 g610
          exact ih (jw32 (x3 + 6)) g610 (by omega) li611 sm612 (by omega)
        · replace c6 : jand v4 63 = 34 := c6
          show jGo E l 179 0 229 _ 1364 [.inr (.inr (.inl (-2))), .inr (.inr (.inl 0)), .inr (.inr (.inl 176)), .inl x3] [] 229 jr0 g
          refine jGo_blk qL_law_1364 ?_
          have e614 : jw32 (x3 + 1) = x3 + 1 := j32e (by omega) (by omega)
          refine st_xi (N := E.2.2.2.2.1) (by decide) (by decide) rfl (show 0 ≤ jw32 (x3 + 1) by omega) (show jw32 (x3 + 1) < ((E.2.2.2.2.1 : Nat) : Int) by omega) (fun v615 ev615 => ?_)
          replace ev615 : v615 = jxv E (-2) (jw32 (x3 + 1)) := ev615
          refine st_cv (na := 1) (st := [.inl v615, .inr (.inr (.inl 0))]) jo_0 rfl rfl rfl (c_X11_stock v615 g) rfl ?_
          rintro _ _ g617 ⟨rfl, ft616, t616, rfl, ht616, zt616⟩ kt616
          replace kt616 : -2147483648 ≤ t616 ∧ t616 ≤ 2147483647 := kt616
          have li618 : jLI g617 := jLI_fr (ft616 176 0 (by unfold w_X11_stock; omega)) (ft616 0 0 (by unfold w_X11_stock; omega)) (fun t => ft616 87 t (by unfold w_X11_stock; omega)) li
          have dli618 : g617 176 0 ≤ 2000 := li618.1
          have sm619 : jSm 3 177 4 g617 := jSm_fr (fun t => ft616 3 t (by unfold w_X11_stock; omega)) (fun t => ft616 177 t (by unfold w_X11_stock; omega)) sm
          have e620 : jw32 (x3 + 1) = x3 + 1 := j32e (by omega) (by omega)
          refine st_xi (N := E.2.2.2.2.1) (by decide) (by decide) rfl (show 0 ≤ jw32 (x3 + 1) by omega) (show jw32 (x3 + 1) < ((E.2.2.2.2.1 : Nat) : Int) by omega) (fun v621 ev621 => ?_)
          replace ev621 : v621 = jxv E (-2) (jw32 (x3 + 1)) := ev621
          refine st_cv (na := 1) (st := [.inl v621, .inr (.inr (.inl 176))]) jo_176 rfl rfl rfl (c_X12_stock v621 g617) rfl ?_
          rintro _ _ g623 ⟨rfl, ft622, t622, rfl, ht622, zt622⟩ kt622
          replace kt622 : -2147483648 ≤ t622 ∧ t622 ≤ 2147483647 := kt622
          have li624 : jLI g623 := jLI_fr (ft622 176 0 (by unfold w_X12_stock; omega)) (ft622 0 0 (by unfold w_X12_stock; omega)) (fun t => ft622 87 t (by unfold w_X12_stock; omega)) li618
          have dli624 : g623 176 0 ≤ 2000 := li624.1
          have sm625 : jSm 3 177 4 g623 := jSm_fr (fun t => ft622 3 t (by unfold w_X12_stock; omega)) (fun t => ft622 177 t (by unfold w_X12_stock; omega)) sm619
          show jGo E l 179 0 229 _ 1410 [.inr (.inr (.inl (-2))), .inr (.inr (.inl 0)), .inr (.inr (.inl 176)), .inl x3] [] 229 jr0 g623
          refine jGo_blk qL_law_1410 ?_
          have e626 : jw32 (x3 + 6) = x3 + 6 := j32e (by omega) (by omega)
          show jGo E l 179 0 229 _ 18 [.inr (.inr (.inl (-2))), .inr (.inr (.inl 0)), .inr (.inr (.inl 176)), .inl (jw32 (x3 + 6))] [] 229 jr0 g623
          exact ih (jw32 (x3 + 6)) g623 (by omega) li624 sm625 (by omega)
        · replace c6 : jand v4 63 = 35 := c6
          show jGo E l 179 0 229 _ 1387 [.inr (.inr (.inl (-2))), .inr (.inr (.inl 0)), .inr (.inr (.inl 176)), .inl x3] [] 229 jr0 g
          refine jGo_blk qL_law_1387 ?_
          have e627 : jw32 (x3 + 1) = x3 + 1 := j32e (by omega) (by omega)
          refine st_xi (N := E.2.2.2.2.1) (by decide) (by decide) rfl (show 0 ≤ jw32 (x3 + 1) by omega) (show jw32 (x3 + 1) < ((E.2.2.2.2.1 : Nat) : Int) by omega) (fun v628 ev628 => ?_)
          replace ev628 : v628 = jxv E (-2) (jw32 (x3 + 1)) := ev628
          refine st_cv (na := 1) (st := [.inl v628, .inr (.inr (.inl 0))]) jo_0 rfl rfl rfl (c_X11_told v628 g) rfl ?_
          rintro _ _ _ ⟨rfl, rfl, t629, rfl, ht629, zt629⟩ kt629
          replace kt629 : -2147483648 ≤ t629 ∧ t629 ≤ 2147483647 := kt629
          have e631 : jw32 (x3 + 1) = x3 + 1 := j32e (by omega) (by omega)
          refine st_xi (N := E.2.2.2.2.1) (by decide) (by decide) rfl (show 0 ≤ jw32 (x3 + 1) by omega) (show jw32 (x3 + 1) < ((E.2.2.2.2.1 : Nat) : Int) by omega) (fun v632 ev632 => ?_)
          replace ev632 : v632 = jxv E (-2) (jw32 (x3 + 1)) := ev632
          refine st_cv (na := 1) (st := [.inl v632, .inr (.inr (.inl 176))]) jo_176 rfl rfl rfl (c_X12_told v632 g) rfl ?_
          rintro _ _ _ ⟨rfl, rfl, t633, rfl, ht633, zt633⟩ kt633
          replace kt633 : -2147483648 ≤ t633 ∧ t633 ≤ 2147483647 := kt633
          show jGo E l 179 0 229 _ 1410 [.inr (.inr (.inl (-2))), .inr (.inr (.inl 0)), .inr (.inr (.inl 176)), .inl x3] [] 229 jr0 g
          refine jGo_blk qL_law_1410 ?_
          have e635 : jw32 (x3 + 6) = x3 + 6 := j32e (by omega) (by omega)
          show jGo E l 179 0 229 _ 18 [.inr (.inr (.inl (-2))), .inr (.inr (.inl 0)), .inr (.inr (.inl 176)), .inl (jw32 (x3 + 6))] [] 229 jr0 g
          exact ih (jw32 (x3 + 6)) g (by omega) li sm (by omega)
