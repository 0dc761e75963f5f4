/-! ===== THE LAW'S LOOP (by program) ===== -/
def jLI (h : JH) : Prop := h 176 0 ≤ 2000 ∧ jLG 0 h
theorem jLI_fr {h g : JH} (e : g 176 0 = h 176 0) (e0 : g 0 0 = h 0 0) (e87 : ∀ t : Int, g 87 t = h 87 t) (q : jLI h) : jLI g := ⟨by rw [e]; exact q.1, jLG_fr e0 e87 q.2⟩
def jlRT : JR := fun v _ _ _ => v = some (.inl 1)
theorem st_alx {E : JE} {K : JK} {ls s : List JV} {n : Nat} {r h : JH} (kk : ∀ v, v = ((E.2.2.2.2.1 : Nat) : Int) → K ls (.inl v :: s) n r h) : jaln E K ls (.inr (.inr (.inl (-2))) :: s) n r h := ⟨fun q => absurd q (by decide), fun _ => ⟨rfl, kk _ rfl⟩⟩
set_option maxHeartbeats 40000000 in
set_option maxRecDepth 20000 in
theorem law_loop {E : JE} {l : Launch} (hE : E.2.2.2.2.1 ≤ 3072) : ∀ N : Nat, ∀ (x3 : Int) (g : JH), (0 ≤ x3 ∧ x3 ≤ 3072) → jLI g → 3072 - x3 < (N : Int) → jGo E l 179 0 229 jlRT 18 [.inr (.inr (.inl (-2))), .inr (.inr (.inl 0)), .inr (.inr (.inl 176)), .inl x3] [] 229 jr0 g := by
  intro N
  induction N with
  | zero => exact fun x3 g hi _ hN => absurd hN (by omega)
  | succ N ih =>
      intro x3 g hi li hN
      have dli : g 176 0 ≤ 2000 := li.1
      refine jGo_blk qL_law_18 ?_
      refine st_alx (fun v1 ev1 => ?_)
      replace ev1 : v1 = ((E.2.2.2.2.1 : Nat) : Int) := ev1
      have bv1 : 0 ≤ v1 ∧ v1 ≤ 3072 := by omega
      have e2 : jw32 (v1 - 6) = v1 - 6 := j32e (by omega) (by omega)
      refine And.intro (fun c3 => ?_) (fun c3 => ?_)
      · replace c3 : jw32 (v1 - 6) < x3 := c3
        show jGo E l 179 0 229 _ 1416 [.inr (.inr (.inl (-2))), .inr (.inr (.inl 0)), .inr (.inr (.inl 176)), .inl x3] [] 229 jr0 g
        refine jGo_blk qL_law_1416 ?_
        exact st_r1 (ls := []) (Or.inr rfl) rfl
      · replace c3 : x3 ≤ jw32 (v1 - 6) := by first | exact c3 | exact Int.not_le.mp c3 | exact Int.not_lt.mp c3 | exact Decidable.not_not.mp c3
        refine st_xi (N := E.2.2.2.2.1) (by decide) (by decide) rfl (show 0 ≤ x3 by omega) (show x3 < ((E.2.2.2.2.1 : Nat) : Int) by omega) (fun v4 ev4 => ?_)
        replace ev4 : v4 = jxv E (-2) x3 := ev4
        have e5 := jand_le2 v4 63 (by omega) (by omega)
        refine And.intro (fun c6 => ?_) (And.intro (fun c6 => ?_) (And.intro (fun c6 => ?_) (And.intro (fun c6 => ?_) (And.intro (fun c6 => ?_) (And.intro (fun c6 => ?_) (And.intro (fun c6 => ?_) (And.intro (fun c6 => ?_) (And.intro (fun c6 => ?_) (And.intro (fun c6 => ?_) (And.intro (fun c6 => ?_) (And.intro (fun c6 => ?_) (And.intro (fun c6 => ?_) (And.intro (fun c6 => ?_) (And.intro (fun c6 => ?_) (And.intro (fun c6 => ?_) (And.intro (fun c6 => ?_) (And.intro (fun c6 => ?_) (And.intro (fun c6 => ?_) (And.intro (fun c6 => ?_) (And.intro (fun c6 => ?_) (And.intro (fun c6 => ?_) (And.intro (fun c6 => ?_) (And.intro (fun c6 => ?_) (And.intro (fun c6 => ?_) (And.intro (fun c6 => ?_) (And.intro (fun c6 => ?_) (And.intro (fun c6 => ?_) (And.intro (fun c6 => ?_) (And.intro (fun c6 => ?_) (And.intro (fun c6 => ?_) (And.intro (fun c6 => ?_) (And.intro (fun c6 => ?_) (And.intro (fun c6 => ?_) (And.intro (fun c6 => ?_) (And.intro (fun c6 => ?_) (And.intro (fun c6 => ?_) (trivial)))))))))))))))))))))))))))))))))))))
        · replace c6 : jand v4 63 < 0 ∨ 35 < jand v4 63 := c6
          show jGo E l 179 0 229 _ 1410 [.inr (.inr (.inl (-2))), .inr (.inr (.inl 0)), .inr (.inr (.inl 176)), .inl x3] [] 229 jr0 g
          refine jGo_blk qL_law_1410 ?_
          have e7 : jw32 (x3 + 6) = x3 + 6 := j32e (by omega) (by omega)
          show jGo E l 179 0 229 _ 18 [.inr (.inr (.inl (-2))), .inr (.inr (.inl 0)), .inr (.inr (.inl 176)), .inl (jw32 (x3 + 6))] [] 229 jr0 g
          exact ih (jw32 (x3 + 6)) g (by omega) li (by omega)
        · replace c6 : jand v4 63 = 0 := c6
          show jGo E l 179 0 229 _ 192 [.inr (.inr (.inl (-2))), .inr (.inr (.inl 0)), .inr (.inr (.inl 176)), .inl x3] [] 229 jr0 g
          refine jGo_blk qL_law_192 ?_
          have e8 : jw32 (x3 + 1) = x3 + 1 := j32e (by omega) (by omega)
          refine st_xi (N := E.2.2.2.2.1) (by decide) (by decide) rfl (show 0 ≤ jw32 (x3 + 1) by omega) (show jw32 (x3 + 1) < ((E.2.2.2.2.1 : Nat) : Int) by omega) (fun v9 ev9 => ?_)
          replace ev9 : v9 = jxv E (-2) (jw32 (x3 + 1)) := ev9
          have e10 : jw32 (x3 + 2) = x3 + 2 := j32e (by omega) (by omega)
          refine st_xi (N := E.2.2.2.2.1) (by decide) (by decide) rfl (show 0 ≤ jw32 (x3 + 2) by omega) (show jw32 (x3 + 2) < ((E.2.2.2.2.1 : Nat) : Int) by omega) (fun v11 ev11 => ?_)
          replace ev11 : v11 = jxv E (-2) (jw32 (x3 + 2)) := ev11
          refine st_cv (na := 2) (st := [.inl v11, .inl v9, .inr (.inr (.inl 0))]) jo_0 rfl rfl rfl (c_X11_hands v9 v11 g) rfl ?_
          rintro _ _ g13 ⟨rfl, ft12, t12, rfl, ht12, zt12⟩ kt12
          replace kt12 : -2147483648 ≤ t12 ∧ t12 ≤ 2147483647 := kt12
          replace ht12 : -7 ≤ t12 ∧ t12 ≤ 400 := ht12
          have li14 : jLI g13 := jLI_fr (ft12 176 0 (by unfold w_X11_hands; omega)) (ft12 0 0 (by unfold w_X11_hands; omega)) (fun t => ft12 87 t (by unfold w_X11_hands; omega)) li
          have dli14 : g13 176 0 ≤ 2000 := li14.1
          have e15 : jw32 (x3 + 1) = x3 + 1 := j32e (by omega) (by omega)
          refine st_xi (N := E.2.2.2.2.1) (by decide) (by decide) rfl (show 0 ≤ jw32 (x3 + 1) by omega) (show jw32 (x3 + 1) < ((E.2.2.2.2.1 : Nat) : Int) by omega) (fun v16 ev16 => ?_)
          replace ev16 : v16 = jxv E (-2) (jw32 (x3 + 1)) := ev16
          have e17 : jw32 (x3 + 2) = x3 + 2 := j32e (by omega) (by omega)
          refine st_xi (N := E.2.2.2.2.1) (by decide) (by decide) rfl (show 0 ≤ jw32 (x3 + 2) by omega) (show jw32 (x3 + 2) < ((E.2.2.2.2.1 : Nat) : Int) by omega) (fun v18 ev18 => ?_)
          replace ev18 : v18 = jxv E (-2) (jw32 (x3 + 2)) := ev18
          refine st_cv (na := 2) (st := [.inl v18, .inl v16, .inr (.inr (.inl 176))]) jo_176 rfl rfl rfl (c_X12_hands v16 v18 g13) rfl ?_
          rintro _ _ g20 ⟨rfl, ft19, t19, rfl, ht19, zt19⟩ kt19
          replace kt19 : -2147483648 ≤ t19 ∧ t19 ≤ 2147483647 := kt19
          replace ht19 : -7 ≤ t19 ∧ t19 ≤ 400 := ht19
          have li21 : jLI g20 := jLI_fr (ft19 176 0 (by unfold w_X12_hands; omega)) (ft19 0 0 (by unfold w_X12_hands; omega)) (fun t => ft19 87 t (by unfold w_X12_hands; omega)) li14
          have dli21 : g20 176 0 ≤ 2000 := li21.1
          show jGo E l 179 0 229 _ 1410 [.inr (.inr (.inl (-2))), .inr (.inr (.inl 0)), .inr (.inr (.inl 176)), .inl x3] [] 229 jr0 g20
          refine jGo_blk qL_law_1410 ?_
          have e22 : jw32 (x3 + 6) = x3 + 6 := j32e (by omega) (by omega)
          show jGo E l 179 0 229 _ 18 [.inr (.inr (.inl (-2))), .inr (.inr (.inl 0)), .inr (.inr (.inl 176)), .inl (jw32 (x3 + 6))] [] 229 jr0 g20
          exact ih (jw32 (x3 + 6)) g20 (by omega) li21 (by omega)
        · replace c6 : jand v4 63 = 1 := c6
          show jGo E l 179 0 229 _ 225 [.inr (.inr (.inl (-2))), .inr (.inr (.inl 0)), .inr (.inr (.inl 176)), .inl x3] [] 229 jr0 g
          refine jGo_blk qL_law_225 ?_
          have e23 : jw32 (x3 + 1) = x3 + 1 := j32e (by omega) (by omega)
          refine st_xi (N := E.2.2.2.2.1) (by decide) (by decide) rfl (show 0 ≤ jw32 (x3 + 1) by omega) (show jw32 (x3 + 1) < ((E.2.2.2.2.1 : Nat) : Int) by omega) (fun v24 ev24 => ?_)
          replace ev24 : v24 = jxv E (-2) (jw32 (x3 + 1)) := ev24
          have e25 : jw32 (x3 + 2) = x3 + 2 := j32e (by omega) (by omega)
          refine st_xi (N := E.2.2.2.2.1) (by decide) (by decide) rfl (show 0 ≤ jw32 (x3 + 2) by omega) (show jw32 (x3 + 2) < ((E.2.2.2.2.1 : Nat) : Int) by omega) (fun v26 ev26 => ?_)
          replace ev26 : v26 = jxv E (-2) (jw32 (x3 + 2)) := ev26
          refine st_cv (na := 2) (st := [.inl v26, .inl v24, .inr (.inr (.inl 0))]) jo_0 rfl rfl rfl (c_X11_bring v24 v26 g) rfl ?_
          rintro _ _ g28 ⟨rfl, ft27, t27, rfl, ht27, zt27⟩ kt27
          replace kt27 : -2147483648 ≤ t27 ∧ t27 ≤ 2147483647 := kt27
          have li29 : jLI g28 := jLI_fr (ft27 176 0 (by unfold w_X11_bring; omega)) (ft27 0 0 (by unfold w_X11_bring; omega)) (fun t => ft27 87 t (by unfold w_X11_bring; omega)) li
          have dli29 : g28 176 0 ≤ 2000 := li29.1
          have e30 : jw32 (x3 + 1) = x3 + 1 := j32e (by omega) (by omega)
          refine st_xi (N := E.2.2.2.2.1) (by decide) (by decide) rfl (show 0 ≤ jw32 (x3 + 1) by omega) (show jw32 (x3 + 1) < ((E.2.2.2.2.1 : Nat) : Int) by omega) (fun v31 ev31 => ?_)
          replace ev31 : v31 = jxv E (-2) (jw32 (x3 + 1)) := ev31
          have e32 : jw32 (x3 + 2) = x3 + 2 := j32e (by omega) (by omega)
          refine st_xi (N := E.2.2.2.2.1) (by decide) (by decide) rfl (show 0 ≤ jw32 (x3 + 2) by omega) (show jw32 (x3 + 2) < ((E.2.2.2.2.1 : Nat) : Int) by omega) (fun v33 ev33 => ?_)
          replace ev33 : v33 = jxv E (-2) (jw32 (x3 + 2)) := ev33
          refine st_cv (na := 2) (st := [.inl v33, .inl v31, .inr (.inr (.inl 176))]) jo_176 rfl rfl rfl (c_X12_bring v31 v33 g28) rfl ?_
          rintro _ _ g35 ⟨rfl, ft34, t34, rfl, ht34, zt34⟩ kt34
          replace kt34 : -2147483648 ≤ t34 ∧ t34 ≤ 2147483647 := kt34
          have li36 : jLI g35 := jLI_fr (ft34 176 0 (by unfold w_X12_bring; omega)) (ft34 0 0 (by unfold w_X12_bring; omega)) (fun t => ft34 87 t (by unfold w_X12_bring; omega)) li29
          have dli36 : g35 176 0 ≤ 2000 := li36.1
          show jGo E l 179 0 229 _ 1410 [.inr (.inr (.inl (-2))), .inr (.inr (.inl 0)), .inr (.inr (.inl 176)), .inl x3] [] 229 jr0 g35
          refine jGo_blk qL_law_1410 ?_
          have e37 : jw32 (x3 + 6) = x3 + 6 := j32e (by omega) (by omega)
          show jGo E l 179 0 229 _ 18 [.inr (.inr (.inl (-2))), .inr (.inr (.inl 0)), .inr (.inr (.inl 176)), .inl (jw32 (x3 + 6))] [] 229 jr0 g35
          exact ih (jw32 (x3 + 6)) g35 (by omega) li36 (by omega)
        · replace c6 : jand v4 63 = 2 := c6
          show jGo E l 179 0 229 _ 258 [.inr (.inr (.inl (-2))), .inr (.inr (.inl 0)), .inr (.inr (.inl 176)), .inl x3] [] 229 jr0 g
          refine jGo_blk qL_law_258 ?_
          have e38 : jw32 (x3 + 1) = x3 + 1 := j32e (by omega) (by omega)
          refine st_xi (N := E.2.2.2.2.1) (by decide) (by decide) rfl (show 0 ≤ jw32 (x3 + 1) by omega) (show jw32 (x3 + 1) < ((E.2.2.2.2.1 : Nat) : Int) by omega) (fun v39 ev39 => ?_)
          replace ev39 : v39 = jxv E (-2) (jw32 (x3 + 1)) := ev39
          have e40 : jw32 (x3 + 2) = x3 + 2 := j32e (by omega) (by omega)
          refine st_xi (N := E.2.2.2.2.1) (by decide) (by decide) rfl (show 0 ≤ jw32 (x3 + 2) by omega) (show jw32 (x3 + 2) < ((E.2.2.2.2.1 : Nat) : Int) by omega) (fun v41 ev41 => ?_)
          replace ev41 : v41 = jxv E (-2) (jw32 (x3 + 2)) := ev41
          refine st_cv (na := 2) (st := [.inl v41, .inl v39, .inr (.inr (.inl 0))]) jo_0 rfl rfl rfl (c_X11_row v39 v41 g) rfl ?_
          rintro _ _ g43 ⟨rfl, ft42, t42, rfl, ht42, zt42⟩ kt42
          replace kt42 : -2147483648 ≤ t42 ∧ t42 ≤ 2147483647 := kt42
          replace ht42 : -7 ≤ t42 ∧ t42 ≤ 30 := ht42
          replace zt42 : (t42 = -1 ∧ ¬ (0 ≤ v39 ∧ v39 ≤ 3)) ∨ (t42 = -4 ∧ 0 ≤ v39 ∧ v39 ≤ 3 ∧ v41 < 0) ∨ (t42 = -6 ∧ 0 ≤ v39 ∧ v39 ≤ 3 ∧ 30 < v41) ∨ (t42 = v41 ∧ 0 ≤ v39 ∧ v39 ≤ 3 ∧ 0 ≤ v41 ∧ v41 ≤ 30) := zt42
          have li44 : jLI g43 := jLI_fr (ft42 176 0 (by unfold w_X11_row; omega)) (ft42 0 0 (by unfold w_X11_row; omega)) (fun t => ft42 87 t (by unfold w_X11_row; omega)) li
          have dli44 : g43 176 0 ≤ 2000 := li44.1
          have e45 : jw32 (x3 + 1) = x3 + 1 := j32e (by omega) (by omega)
          refine st_xi (N := E.2.2.2.2.1) (by decide) (by decide) rfl (show 0 ≤ jw32 (x3 + 1) by omega) (show jw32 (x3 + 1) < ((E.2.2.2.2.1 : Nat) : Int) by omega) (fun v46 ev46 => ?_)
          replace ev46 : v46 = jxv E (-2) (jw32 (x3 + 1)) := ev46
          have e47 : jw32 (x3 + 2) = x3 + 2 := j32e (by omega) (by omega)
          refine st_xi (N := E.2.2.2.2.1) (by decide) (by decide) rfl (show 0 ≤ jw32 (x3 + 2) by omega) (show jw32 (x3 + 2) < ((E.2.2.2.2.1 : Nat) : Int) by omega) (fun v48 ev48 => ?_)
          replace ev48 : v48 = jxv E (-2) (jw32 (x3 + 2)) := ev48
          refine st_cv (na := 2) (st := [.inl v48, .inl v46, .inr (.inr (.inl 176)), .inl t42]) jo_176 rfl rfl rfl (c_X12_row v46 v48 g43) rfl ?_
          rintro _ _ g50 ⟨rfl, ft49, t49, rfl, ht49, zt49⟩ kt49
          replace kt49 : -2147483648 ≤ t49 ∧ t49 ≤ 2147483647 := kt49
          replace ht49 : -7 ≤ t49 ∧ t49 ≤ 30 := ht49
          replace zt49 : (t49 = -1 ∧ ¬ (0 ≤ v46 ∧ v46 ≤ 3)) ∨ (t49 = -4 ∧ 0 ≤ v46 ∧ v46 ≤ 3 ∧ v48 < 0) ∨ (t49 = -6 ∧ 0 ≤ v46 ∧ v46 ≤ 3 ∧ 30 < v48) ∨ (t49 = v48 ∧ 0 ≤ v46 ∧ v46 ≤ 3 ∧ 0 ≤ v48 ∧ v48 ≤ 30) := zt49
          have li51 : jLI g50 := jLI_fr (ft49 176 0 (by unfold w_X12_row; omega)) (ft49 0 0 (by unfold w_X12_row; omega)) (fun t => ft49 87 t (by unfold w_X12_row; omega)) li44
          have dli51 : g50 176 0 ≤ 2000 := li51.1
          refine And.intro (fun c52 => ?_) (fun c52 => ?_)
          · replace c52 : t42 = t49 := c52
            show jGo E l 179 0 229 _ 1410 [.inr (.inr (.inl (-2))), .inr (.inr (.inl 0)), .inr (.inr (.inl 176)), .inl x3] [] 229 jr0 g50
            refine jGo_blk qL_law_1410 ?_
            have e53 : jw32 (x3 + 6) = x3 + 6 := j32e (by omega) (by omega)
            show jGo E l 179 0 229 _ 18 [.inr (.inr (.inl (-2))), .inr (.inr (.inl 0)), .inr (.inr (.inl 176)), .inl (jw32 (x3 + 6))] [] 229 jr0 g50
            exact ih (jw32 (x3 + 6)) g50 (by omega) li51 (by omega)
          · replace c52 : ¬ t42 = t49 := by first | exact c52 | exact Int.not_le.mp c52 | exact Int.not_lt.mp c52 | exact Decidable.not_not.mp c52
            exfalso; omega
        · replace c6 : jand v4 63 = 3 := c6
          show jGo E l 179 0 229 _ 291 [.inr (.inr (.inl (-2))), .inr (.inr (.inl 0)), .inr (.inr (.inl 176)), .inl x3] [] 229 jr0 g
          refine jGo_blk qL_law_291 ?_
          have e54 : jw32 (x3 + 1) = x3 + 1 := j32e (by omega) (by omega)
          refine st_xi (N := E.2.2.2.2.1) (by decide) (by decide) rfl (show 0 ≤ jw32 (x3 + 1) by omega) (show jw32 (x3 + 1) < ((E.2.2.2.2.1 : Nat) : Int) by omega) (fun v55 ev55 => ?_)
          replace ev55 : v55 = jxv E (-2) (jw32 (x3 + 1)) := ev55
          refine st_cv (na := 1) (st := [.inl v55, .inr (.inr (.inl 0))]) jo_0 rfl rfl rfl (c_X11_lose v55 g) rfl ?_
          rintro _ _ g57 ⟨rfl, ft56, t56, rfl, ht56, zt56⟩ kt56
          replace kt56 : -2147483648 ≤ t56 ∧ t56 ≤ 2147483647 := kt56
          replace ht56 : -7 ≤ t56 ∧ t56 ≤ 1 := ht56
          have li58 : jLI g57 := jLI_fr (ft56 176 0 (by unfold w_X11_lose; omega)) (ft56 0 0 (by unfold w_X11_lose; omega)) (fun t => ft56 87 t (by unfold w_X11_lose; omega)) li
          have dli58 : g57 176 0 ≤ 2000 := li58.1
          have e59 : jw32 (x3 + 1) = x3 + 1 := j32e (by omega) (by omega)
          refine st_xi (N := E.2.2.2.2.1) (by decide) (by decide) rfl (show 0 ≤ jw32 (x3 + 1) by omega) (show jw32 (x3 + 1) < ((E.2.2.2.2.1 : Nat) : Int) by omega) (fun v60 ev60 => ?_)
          replace ev60 : v60 = jxv E (-2) (jw32 (x3 + 1)) := ev60
          refine st_cv (na := 1) (st := [.inl v60, .inr (.inr (.inl 176))]) jo_176 rfl rfl rfl (c_X12_lose v60 g57) rfl ?_
          rintro _ _ g62 ⟨rfl, ft61, t61, rfl, ht61, zt61⟩ kt61
          replace kt61 : -2147483648 ≤ t61 ∧ t61 ≤ 2147483647 := kt61
          replace ht61 : -7 ≤ t61 ∧ t61 ≤ 1 := ht61
          have li63 : jLI g62 := jLI_fr (ft61 176 0 (by unfold w_X12_lose; omega)) (ft61 0 0 (by unfold w_X12_lose; omega)) (fun t => ft61 87 t (by unfold w_X12_lose; omega)) li58
          have dli63 : g62 176 0 ≤ 2000 := li63.1
          show jGo E l 179 0 229 _ 1410 [.inr (.inr (.inl (-2))), .inr (.inr (.inl 0)), .inr (.inr (.inl 176)), .inl x3] [] 229 jr0 g62
          refine jGo_blk qL_law_1410 ?_
          have e64 : jw32 (x3 + 6) = x3 + 6 := j32e (by omega) (by omega)
          show jGo E l 179 0 229 _ 18 [.inr (.inr (.inl (-2))), .inr (.inr (.inl 0)), .inr (.inr (.inl 176)), .inl (jw32 (x3 + 6))] [] 229 jr0 g62
          exact ih (jw32 (x3 + 6)) g62 (by omega) li63 (by omega)
        · replace c6 : jand v4 63 = 4 := c6
          show jGo E l 179 0 229 _ 314 [.inr (.inr (.inl (-2))), .inr (.inr (.inl 0)), .inr (.inr (.inl 176)), .inl x3] [] 229 jr0 g
          refine jGo_blk qL_law_314 ?_
          have e65 : jw32 (x3 + 1) = x3 + 1 := j32e (by omega) (by omega)
          refine st_xi (N := E.2.2.2.2.1) (by decide) (by decide) rfl (show 0 ≤ jw32 (x3 + 1) by omega) (show jw32 (x3 + 1) < ((E.2.2.2.2.1 : Nat) : Int) by omega) (fun v66 ev66 => ?_)
          replace ev66 : v66 = jxv E (-2) (jw32 (x3 + 1)) := ev66
          have e67 : jw32 (x3 + 2) = x3 + 2 := j32e (by omega) (by omega)
          refine st_xi (N := E.2.2.2.2.1) (by decide) (by decide) rfl (show 0 ≤ jw32 (x3 + 2) by omega) (show jw32 (x3 + 2) < ((E.2.2.2.2.1 : Nat) : Int) by omega) (fun v68 ev68 => ?_)
          replace ev68 : v68 = jxv E (-2) (jw32 (x3 + 2)) := ev68
          have e69 : jw32 (x3 + 3) = x3 + 3 := j32e (by omega) (by omega)
          refine st_xi (N := E.2.2.2.2.1) (by decide) (by decide) rfl (show 0 ≤ jw32 (x3 + 3) by omega) (show jw32 (x3 + 3) < ((E.2.2.2.2.1 : Nat) : Int) by omega) (fun v70 ev70 => ?_)
          replace ev70 : v70 = jxv E (-2) (jw32 (x3 + 3)) := ev70
          refine st_cv (na := 3) (st := [.inl v70, .inl v68, .inl v66, .inr (.inr (.inl 0))]) jo_0 rfl rfl rfl (c_X11_put v66 v68 v70 g) rfl ?_
          rintro _ _ g72 ⟨rfl, ft71, t71, rfl, ht71, zt71⟩ kt71
          replace kt71 : -2147483648 ≤ t71 ∧ t71 ≤ 2147483647 := kt71
          replace ht71 : -7 ≤ t71 ∧ t71 ≤ 400 := ht71
          have li73 : jLI g72 := jLI_fr (ft71 176 0 (by unfold w_X11_put; omega)) (ft71 0 0 (by unfold w_X11_put; omega)) (fun t => ft71 87 t (by unfold w_X11_put; omega)) li
          have dli73 : g72 176 0 ≤ 2000 := li73.1
          have e74 : jw32 (x3 + 1) = x3 + 1 := j32e (by omega) (by omega)
          refine st_xi (N := E.2.2.2.2.1) (by decide) (by decide) rfl (show 0 ≤ jw32 (x3 + 1) by omega) (show jw32 (x3 + 1) < ((E.2.2.2.2.1 : Nat) : Int) by omega) (fun v75 ev75 => ?_)
          replace ev75 : v75 = jxv E (-2) (jw32 (x3 + 1)) := ev75
          have e76 : jw32 (x3 + 2) = x3 + 2 := j32e (by omega) (by omega)
          refine st_xi (N := E.2.2.2.2.1) (by decide) (by decide) rfl (show 0 ≤ jw32 (x3 + 2) by omega) (show jw32 (x3 + 2) < ((E.2.2.2.2.1 : Nat) : Int) by omega) (fun v77 ev77 => ?_)
          replace ev77 : v77 = jxv E (-2) (jw32 (x3 + 2)) := ev77
          have e78 : jw32 (x3 + 3) = x3 + 3 := j32e (by omega) (by omega)
          refine st_xi (N := E.2.2.2.2.1) (by decide) (by decide) rfl (show 0 ≤ jw32 (x3 + 3) by omega) (show jw32 (x3 + 3) < ((E.2.2.2.2.1 : Nat) : Int) by omega) (fun v79 ev79 => ?_)
          replace ev79 : v79 = jxv E (-2) (jw32 (x3 + 3)) := ev79
          refine st_cv (na := 3) (st := [.inl v79, .inl v77, .inl v75, .inr (.inr (.inl 176))]) jo_176 rfl rfl rfl (c_X12_put v75 v77 v79 g72) rfl ?_
          rintro _ _ g81 ⟨rfl, ft80, t80, rfl, ht80, zt80⟩ kt80
          replace kt80 : -2147483648 ≤ t80 ∧ t80 ≤ 2147483647 := kt80
          replace ht80 : -7 ≤ t80 ∧ t80 ≤ 400 := ht80
          have li82 : jLI g81 := jLI_fr (ft80 176 0 (by unfold w_X12_put; omega)) (ft80 0 0 (by unfold w_X12_put; omega)) (fun t => ft80 87 t (by unfold w_X12_put; omega)) li73
          have dli82 : g81 176 0 ≤ 2000 := li82.1
          show jGo E l 179 0 229 _ 1410 [.inr (.inr (.inl (-2))), .inr (.inr (.inl 0)), .inr (.inr (.inl 176)), .inl x3] [] 229 jr0 g81
          refine jGo_blk qL_law_1410 ?_
          have e83 : jw32 (x3 + 6) = x3 + 6 := j32e (by omega) (by omega)
          show jGo E l 179 0 229 _ 18 [.inr (.inr (.inl (-2))), .inr (.inr (.inl 0)), .inr (.inr (.inl 176)), .inl (jw32 (x3 + 6))] [] 229 jr0 g81
          exact ih (jw32 (x3 + 6)) g81 (by omega) li82 (by omega)
        · replace c6 : jand v4 63 = 5 := c6
          show jGo E l 179 0 229 _ 357 [.inr (.inr (.inl (-2))), .inr (.inr (.inl 0)), .inr (.inr (.inl 176)), .inl x3] [] 229 jr0 g
          refine jGo_blk qL_law_357 ?_
          have e84 : jw32 (x3 + 1) = x3 + 1 := j32e (by omega) (by omega)
          refine st_xi (N := E.2.2.2.2.1) (by decide) (by decide) rfl (show 0 ≤ jw32 (x3 + 1) by omega) (show jw32 (x3 + 1) < ((E.2.2.2.2.1 : Nat) : Int) by omega) (fun v85 ev85 => ?_)
          replace ev85 : v85 = jxv E (-2) (jw32 (x3 + 1)) := ev85
          have e86 : jw32 (x3 + 2) = x3 + 2 := j32e (by omega) (by omega)
          refine st_xi (N := E.2.2.2.2.1) (by decide) (by decide) rfl (show 0 ≤ jw32 (x3 + 2) by omega) (show jw32 (x3 + 2) < ((E.2.2.2.2.1 : Nat) : Int) by omega) (fun v87 ev87 => ?_)
          replace ev87 : v87 = jxv E (-2) (jw32 (x3 + 2)) := ev87
          have e88 : jw32 (x3 + 3) = x3 + 3 := j32e (by omega) (by omega)
          refine st_xi (N := E.2.2.2.2.1) (by decide) (by decide) rfl (show 0 ≤ jw32 (x3 + 3) by omega) (show jw32 (x3 + 3) < ((E.2.2.2.2.1 : Nat) : Int) by omega) (fun v89 ev89 => ?_)
          replace ev89 : v89 = jxv E (-2) (jw32 (x3 + 3)) := ev89
          have e90 : jw32 (x3 + 4) = x3 + 4 := j32e (by omega) (by omega)
          refine st_xi (N := E.2.2.2.2.1) (by decide) (by decide) rfl (show 0 ≤ jw32 (x3 + 4) by omega) (show jw32 (x3 + 4) < ((E.2.2.2.2.1 : Nat) : Int) by omega) (fun v91 ev91 => ?_)
          replace ev91 : v91 = jxv E (-2) (jw32 (x3 + 4)) := ev91
          have e92 : jw32 (x3 + 5) = x3 + 5 := j32e (by omega) (by omega)
          refine st_xi (N := E.2.2.2.2.1) (by decide) (by decide) rfl (show 0 ≤ jw32 (x3 + 5) by omega) (show jw32 (x3 + 5) < ((E.2.2.2.2.1 : Nat) : Int) by omega) (fun v93 ev93 => ?_)
          replace ev93 : v93 = jxv E (-2) (jw32 (x3 + 5)) := ev93
          refine st_cv (na := 5) (st := [.inl v93, .inl v91, .inl v89, .inl v87, .inl v85, .inr (.inr (.inl 0))]) jo_0 rfl rfl rfl (c_X11_copy v85 v87 v89 v91 v93 g) rfl ?_
          rintro _ _ g95 ⟨rfl, ft94, t94, rfl, ht94, zt94⟩ kt94
          replace kt94 : -2147483648 ≤ t94 ∧ t94 ≤ 2147483647 := kt94
          have li96 : jLI g95 := jLI_fr (ft94 176 0 (by unfold w_X11_copy; omega)) (ft94 0 0 (by unfold w_X11_copy; omega)) (fun t => ft94 87 t (by unfold w_X11_copy; omega)) li
          have dli96 : g95 176 0 ≤ 2000 := li96.1
          have e97 : jw32 (x3 + 1) = x3 + 1 := j32e (by omega) (by omega)
          refine st_xi (N := E.2.2.2.2.1) (by decide) (by decide) rfl (show 0 ≤ jw32 (x3 + 1) by omega) (show jw32 (x3 + 1) < ((E.2.2.2.2.1 : Nat) : Int) by omega) (fun v98 ev98 => ?_)
          replace ev98 : v98 = jxv E (-2) (jw32 (x3 + 1)) := ev98
          have e99 : jw32 (x3 + 2) = x3 + 2 := j32e (by omega) (by omega)
          refine st_xi (N := E.2.2.2.2.1) (by decide) (by decide) rfl (show 0 ≤ jw32 (x3 + 2) by omega) (show jw32 (x3 + 2) < ((E.2.2.2.2.1 : Nat) : Int) by omega) (fun v100 ev100 => ?_)
          replace ev100 : v100 = jxv E (-2) (jw32 (x3 + 2)) := ev100
          have e101 : jw32 (x3 + 3) = x3 + 3 := j32e (by omega) (by omega)
          refine st_xi (N := E.2.2.2.2.1) (by decide) (by decide) rfl (show 0 ≤ jw32 (x3 + 3) by omega) (show jw32 (x3 + 3) < ((E.2.2.2.2.1 : Nat) : Int) by omega) (fun v102 ev102 => ?_)
          replace ev102 : v102 = jxv E (-2) (jw32 (x3 + 3)) := ev102
          have e103 : jw32 (x3 + 4) = x3 + 4 := j32e (by omega) (by omega)
          refine st_xi (N := E.2.2.2.2.1) (by decide) (by decide) rfl (show 0 ≤ jw32 (x3 + 4) by omega) (show jw32 (x3 + 4) < ((E.2.2.2.2.1 : Nat) : Int) by omega) (fun v104 ev104 => ?_)
          replace ev104 : v104 = jxv E (-2) (jw32 (x3 + 4)) := ev104
          have e105 : jw32 (x3 + 5) = x3 + 5 := j32e (by omega) (by omega)
          refine st_xi (N := E.2.2.2.2.1) (by decide) (by decide) rfl (show 0 ≤ jw32 (x3 + 5) by omega) (show jw32 (x3 + 5) < ((E.2.2.2.2.1 : Nat) : Int) by omega) (fun v106 ev106 => ?_)
          replace ev106 : v106 = jxv E (-2) (jw32 (x3 + 5)) := ev106
          refine st_cv (na := 5) (st := [.inl v106, .inl v104, .inl v102, .inl v100, .inl v98, .inr (.inr (.inl 176))]) jo_176 rfl rfl rfl (c_X12_copy v98 v100 v102 v104 v106 g95) rfl ?_
          rintro _ _ g108 ⟨rfl, ft107, t107, rfl, ht107, zt107⟩ kt107
          replace kt107 : -2147483648 ≤ t107 ∧ t107 ≤ 2147483647 := kt107
          replace ht107 : -7 ≤ t107 ∧ t107 ≤ 30 := ht107
          have li109 : jLI g108 := jLI_fr (ft107 176 0 (by unfold w_X12_copy; omega)) (ft107 0 0 (by unfold w_X12_copy; omega)) (fun t => ft107 87 t (by unfold w_X12_copy; omega)) li96
          have dli109 : g108 176 0 ≤ 2000 := li109.1
          show jGo E l 179 0 229 _ 1410 [.inr (.inr (.inl (-2))), .inr (.inr (.inl 0)), .inr (.inr (.inl 176)), .inl x3] [] 229 jr0 g108
          refine jGo_blk qL_law_1410 ?_
          have e110 : jw32 (x3 + 6) = x3 + 6 := j32e (by omega) (by omega)
          show jGo E l 179 0 229 _ 18 [.inr (.inr (.inl (-2))), .inr (.inr (.inl 0)), .inr (.inr (.inl 176)), .inl (jw32 (x3 + 6))] [] 229 jr0 g108
          exact ih (jw32 (x3 + 6)) g108 (by omega) li109 (by omega)
        · replace c6 : jand v4 63 = 6 := c6
          show jGo E l 179 0 229 _ 420 [.inr (.inr (.inl (-2))), .inr (.inr (.inl 0)), .inr (.inr (.inl 176)), .inl x3] [] 229 jr0 g
          refine jGo_blk qL_law_420 ?_
          have e111 : jw32 (x3 + 1) = x3 + 1 := j32e (by omega) (by omega)
          refine st_xi (N := E.2.2.2.2.1) (by decide) (by decide) rfl (show 0 ≤ jw32 (x3 + 1) by omega) (show jw32 (x3 + 1) < ((E.2.2.2.2.1 : Nat) : Int) by omega) (fun v112 ev112 => ?_)
          replace ev112 : v112 = jxv E (-2) (jw32 (x3 + 1)) := ev112
          have e113 : jw32 (x3 + 2) = x3 + 2 := j32e (by omega) (by omega)
          refine st_xi (N := E.2.2.2.2.1) (by decide) (by decide) rfl (show 0 ≤ jw32 (x3 + 2) by omega) (show jw32 (x3 + 2) < ((E.2.2.2.2.1 : Nat) : Int) by omega) (fun v114 ev114 => ?_)
          replace ev114 : v114 = jxv E (-2) (jw32 (x3 + 2)) := ev114
          refine st_cv (na := 2) (st := [.inl v114, .inl v112, .inr (.inr (.inl 0))]) jo_0 rfl rfl rfl (c_X11_lead v112 v114 g) rfl ?_
          rintro _ _ g116 ⟨rfl, ft115, t115, rfl, ht115, zt115⟩ kt115
          replace kt115 : -2147483648 ≤ t115 ∧ t115 ≤ 2147483647 := kt115
          replace ht115 : -1 ≤ t115 ∧ t115 ≤ 2000000007 := ht115
          have li117 : jLI g116 := jLI_fr (ft115 176 0 (by unfold w_X11_lead; omega)) (ft115 0 0 (by unfold w_X11_lead; omega)) (fun t => ft115 87 t (by unfold w_X11_lead; omega)) li
          have dli117 : g116 176 0 ≤ 2000 := li117.1
          have e118 : jw32 (x3 + 1) = x3 + 1 := j32e (by omega) (by omega)
          refine st_xi (N := E.2.2.2.2.1) (by decide) (by decide) rfl (show 0 ≤ jw32 (x3 + 1) by omega) (show jw32 (x3 + 1) < ((E.2.2.2.2.1 : Nat) : Int) by omega) (fun v119 ev119 => ?_)
          replace ev119 : v119 = jxv E (-2) (jw32 (x3 + 1)) := ev119
          have e120 : jw32 (x3 + 2) = x3 + 2 := j32e (by omega) (by omega)
          refine st_xi (N := E.2.2.2.2.1) (by decide) (by decide) rfl (show 0 ≤ jw32 (x3 + 2) by omega) (show jw32 (x3 + 2) < ((E.2.2.2.2.1 : Nat) : Int) by omega) (fun v121 ev121 => ?_)
          replace ev121 : v121 = jxv E (-2) (jw32 (x3 + 2)) := ev121
          refine st_cv (na := 2) (st := [.inl v121, .inl v119, .inr (.inr (.inl 176))]) jo_176 rfl rfl rfl (c_X12_lead v119 v121 g116) rfl ?_
          rintro _ _ g123 ⟨rfl, ft122, t122, rfl, ht122, zt122⟩ kt122
          replace kt122 : -2147483648 ≤ t122 ∧ t122 ≤ 2147483647 := kt122
          replace ht122 : -1 ≤ t122 ∧ t122 ≤ 2000000007 := ht122
          have li124 : jLI g123 := jLI_fr (ft122 176 0 (by unfold w_X12_lead; omega)) (ft122 0 0 (by unfold w_X12_lead; omega)) (fun t => ft122 87 t (by unfold w_X12_lead; omega)) li117
          have dli124 : g123 176 0 ≤ 2000 := li124.1
          show jGo E l 179 0 229 _ 1410 [.inr (.inr (.inl (-2))), .inr (.inr (.inl 0)), .inr (.inr (.inl 176)), .inl x3] [] 229 jr0 g123
          refine jGo_blk qL_law_1410 ?_
          have e125 : jw32 (x3 + 6) = x3 + 6 := j32e (by omega) (by omega)
          show jGo E l 179 0 229 _ 18 [.inr (.inr (.inl (-2))), .inr (.inr (.inl 0)), .inr (.inr (.inl 176)), .inl (jw32 (x3 + 6))] [] 229 jr0 g123
          exact ih (jw32 (x3 + 6)) g123 (by omega) li124 (by omega)
        · replace c6 : jand v4 63 = 7 := c6
          show jGo E l 179 0 229 _ 453 [.inr (.inr (.inl (-2))), .inr (.inr (.inl 0)), .inr (.inr (.inl 176)), .inl x3] [] 229 jr0 g
          refine jGo_blk qL_law_453 ?_
          have e126 : jw32 (x3 + 1) = x3 + 1 := j32e (by omega) (by omega)
          refine st_xi (N := E.2.2.2.2.1) (by decide) (by decide) rfl (show 0 ≤ jw32 (x3 + 1) by omega) (show jw32 (x3 + 1) < ((E.2.2.2.2.1 : Nat) : Int) by omega) (fun v127 ev127 => ?_)
          replace ev127 : v127 = jxv E (-2) (jw32 (x3 + 1)) := ev127
          have e128 : jw32 (x3 + 2) = x3 + 2 := j32e (by omega) (by omega)
          refine st_xi (N := E.2.2.2.2.1) (by decide) (by decide) rfl (show 0 ≤ jw32 (x3 + 2) by omega) (show jw32 (x3 + 2) < ((E.2.2.2.2.1 : Nat) : Int) by omega) (fun v129 ev129 => ?_)
          replace ev129 : v129 = jxv E (-2) (jw32 (x3 + 2)) := ev129
          refine st_cv (na := 2) (st := [.inl v129, .inl v127, .inr (.inr (.inl 0))]) jo_0 rfl rfl rfl (c_X11_handsOn v127 v129 g) rfl ?_
          rintro _ _ g131 ⟨rfl, ft130, t130, rfl, ht130, zt130⟩ kt130
          replace kt130 : -2147483648 ≤ t130 ∧ t130 ≤ 2147483647 := kt130
          replace ht130 : -7 ≤ t130 ∧ t130 ≤ 400 := ht130
          have li132 : jLI g131 := jLI_fr (ft130 176 0 (by unfold w_X11_handsOn; omega)) (ft130 0 0 (by unfold w_X11_handsOn; omega)) (fun t => ft130 87 t (by unfold w_X11_handsOn; omega)) li
          have dli132 : g131 176 0 ≤ 2000 := li132.1
          have e133 : jw32 (x3 + 1) = x3 + 1 := j32e (by omega) (by omega)
          refine st_xi (N := E.2.2.2.2.1) (by decide) (by decide) rfl (show 0 ≤ jw32 (x3 + 1) by omega) (show jw32 (x3 + 1) < ((E.2.2.2.2.1 : Nat) : Int) by omega) (fun v134 ev134 => ?_)
          replace ev134 : v134 = jxv E (-2) (jw32 (x3 + 1)) := ev134
          have e135 : jw32 (x3 + 2) = x3 + 2 := j32e (by omega) (by omega)
          refine st_xi (N := E.2.2.2.2.1) (by decide) (by decide) rfl (show 0 ≤ jw32 (x3 + 2) by omega) (show jw32 (x3 + 2) < ((E.2.2.2.2.1 : Nat) : Int) by omega) (fun v136 ev136 => ?_)
          replace ev136 : v136 = jxv E (-2) (jw32 (x3 + 2)) := ev136
          refine st_cv (na := 2) (st := [.inl v136, .inl v134, .inr (.inr (.inl 176))]) jo_176 rfl rfl rfl (c_X12_handsOn v134 v136 g131) rfl ?_
          rintro _ _ g138 ⟨rfl, ft137, t137, rfl, ht137, zt137⟩ kt137
          replace kt137 : -2147483648 ≤ t137 ∧ t137 ≤ 2147483647 := kt137
          replace ht137 : -7 ≤ t137 ∧ t137 ≤ 400 := ht137
          have li139 : jLI g138 := jLI_fr (ft137 176 0 (by unfold w_X12_handsOn; omega)) (ft137 0 0 (by unfold w_X12_handsOn; omega)) (fun t => ft137 87 t (by unfold w_X12_handsOn; omega)) li132
          have dli139 : g138 176 0 ≤ 2000 := li139.1
          show jGo E l 179 0 229 _ 1410 [.inr (.inr (.inl (-2))), .inr (.inr (.inl 0)), .inr (.inr (.inl 176)), .inl x3] [] 229 jr0 g138
          refine jGo_blk qL_law_1410 ?_
          have e140 : jw32 (x3 + 6) = x3 + 6 := j32e (by omega) (by omega)
          show jGo E l 179 0 229 _ 18 [.inr (.inr (.inl (-2))), .inr (.inr (.inl 0)), .inr (.inr (.inl 176)), .inl (jw32 (x3 + 6))] [] 229 jr0 g138
          exact ih (jw32 (x3 + 6)) g138 (by omega) li139 (by omega)
        · replace c6 : jand v4 63 = 8 := c6
          show jGo E l 179 0 229 _ 486 [.inr (.inr (.inl (-2))), .inr (.inr (.inl 0)), .inr (.inr (.inl 176)), .inl x3] [] 229 jr0 g
          refine jGo_blk qL_law_486 ?_
          have e141 : jw32 (x3 + 1) = x3 + 1 := j32e (by omega) (by omega)
          refine st_xi (N := E.2.2.2.2.1) (by decide) (by decide) rfl (show 0 ≤ jw32 (x3 + 1) by omega) (show jw32 (x3 + 1) < ((E.2.2.2.2.1 : Nat) : Int) by omega) (fun v142 ev142 => ?_)
          replace ev142 : v142 = jxv E (-2) (jw32 (x3 + 1)) := ev142
          have e143 : jw32 (x3 + 2) = x3 + 2 := j32e (by omega) (by omega)
          refine st_xi (N := E.2.2.2.2.1) (by decide) (by decide) rfl (show 0 ≤ jw32 (x3 + 2) by omega) (show jw32 (x3 + 2) < ((E.2.2.2.2.1 : Nat) : Int) by omega) (fun v144 ev144 => ?_)
          replace ev144 : v144 = jxv E (-2) (jw32 (x3 + 2)) := ev144
          have e145 : jw32 (x3 + 3) = x3 + 3 := j32e (by omega) (by omega)
          refine st_xi (N := E.2.2.2.2.1) (by decide) (by decide) rfl (show 0 ≤ jw32 (x3 + 3) by omega) (show jw32 (x3 + 3) < ((E.2.2.2.2.1 : Nat) : Int) by omega) (fun v146 ev146 => ?_)
          replace ev146 : v146 = jxv E (-2) (jw32 (x3 + 3)) := ev146
          have e147 : jw32 (x3 + 4) = x3 + 4 := j32e (by omega) (by omega)
          refine st_xi (N := E.2.2.2.2.1) (by decide) (by decide) rfl (show 0 ≤ jw32 (x3 + 4) by omega) (show jw32 (x3 + 4) < ((E.2.2.2.2.1 : Nat) : Int) by omega) (fun v148 ev148 => ?_)
          replace ev148 : v148 = jxv E (-2) (jw32 (x3 + 4)) := ev148
          refine st_cv (na := 4) (st := [.inl v148, .inl v146, .inl v144, .inl v142, .inr (.inr (.inl 0))]) jo_0 rfl rfl rfl (c_X11_decree v142 v144 v146 v148 g) rfl ?_
          rintro _ _ g150 ⟨rfl, ft149, t149, rfl, ht149, zt149⟩ kt149
          replace kt149 : -2147483648 ≤ t149 ∧ t149 ≤ 2147483647 := kt149
          replace ht149 : -7 ≤ t149 ∧ t149 ≤ 39 := ht149
          have li151 : jLI g150 := jLI_fr (ft149 176 0 (by unfold w_X11_decree; omega)) (ft149 0 0 (by unfold w_X11_decree; omega)) (fun t => ft149 87 t (by unfold w_X11_decree; omega)) li
          have dli151 : g150 176 0 ≤ 2000 := li151.1
          have e152 : jw32 (x3 + 1) = x3 + 1 := j32e (by omega) (by omega)
          refine st_xi (N := E.2.2.2.2.1) (by decide) (by decide) rfl (show 0 ≤ jw32 (x3 + 1) by omega) (show jw32 (x3 + 1) < ((E.2.2.2.2.1 : Nat) : Int) by omega) (fun v153 ev153 => ?_)
          replace ev153 : v153 = jxv E (-2) (jw32 (x3 + 1)) := ev153
          have e154 : jw32 (x3 + 2) = x3 + 2 := j32e (by omega) (by omega)
          refine st_xi (N := E.2.2.2.2.1) (by decide) (by decide) rfl (show 0 ≤ jw32 (x3 + 2) by omega) (show jw32 (x3 + 2) < ((E.2.2.2.2.1 : Nat) : Int) by omega) (fun v155 ev155 => ?_)
          replace ev155 : v155 = jxv E (-2) (jw32 (x3 + 2)) := ev155
          have e156 : jw32 (x3 + 3) = x3 + 3 := j32e (by omega) (by omega)
          refine st_xi (N := E.2.2.2.2.1) (by decide) (by decide) rfl (show 0 ≤ jw32 (x3 + 3) by omega) (show jw32 (x3 + 3) < ((E.2.2.2.2.1 : Nat) : Int) by omega) (fun v157 ev157 => ?_)
          replace ev157 : v157 = jxv E (-2) (jw32 (x3 + 3)) := ev157
          have e158 : jw32 (x3 + 4) = x3 + 4 := j32e (by omega) (by omega)
          refine st_xi (N := E.2.2.2.2.1) (by decide) (by decide) rfl (show 0 ≤ jw32 (x3 + 4) by omega) (show jw32 (x3 + 4) < ((E.2.2.2.2.1 : Nat) : Int) by omega) (fun v159 ev159 => ?_)
          replace ev159 : v159 = jxv E (-2) (jw32 (x3 + 4)) := ev159
          refine st_cv (na := 4) (st := [.inl v159, .inl v157, .inl v155, .inl v153, .inr (.inr (.inl 176))]) jo_176 rfl rfl rfl (c_X12_decree v153 v155 v157 v159 g150) rfl ?_
          rintro _ _ g161 ⟨rfl, ft160, t160, rfl, ht160, zt160⟩ kt160
          replace kt160 : -2147483648 ≤ t160 ∧ t160 ≤ 2147483647 := kt160
          replace ht160 : -7 ≤ t160 ∧ t160 ≤ 39 := ht160
          have li162 : jLI g161 := jLI_fr (ft160 176 0 (by unfold w_X12_decree; omega)) (ft160 0 0 (by unfold w_X12_decree; omega)) (fun t => ft160 87 t (by unfold w_X12_decree; omega)) li151
          have dli162 : g161 176 0 ≤ 2000 := li162.1
          show jGo E l 179 0 229 _ 1410 [.inr (.inr (.inl (-2))), .inr (.inr (.inl 0)), .inr (.inr (.inl 176)), .inl x3] [] 229 jr0 g161
          refine jGo_blk qL_law_1410 ?_
          have e163 : jw32 (x3 + 6) = x3 + 6 := j32e (by omega) (by omega)
          show jGo E l 179 0 229 _ 18 [.inr (.inr (.inl (-2))), .inr (.inr (.inl 0)), .inr (.inr (.inl 176)), .inl (jw32 (x3 + 6))] [] 229 jr0 g161
          exact ih (jw32 (x3 + 6)) g161 (by omega) li162 (by omega)
        · replace c6 : jand v4 63 = 9 := c6
          show jGo E l 179 0 229 _ 539 [.inr (.inr (.inl (-2))), .inr (.inr (.inl 0)), .inr (.inr (.inl 176)), .inl x3] [] 229 jr0 g
          refine jGo_blk qL_law_539 ?_
          have e164 : jw32 (x3 + 1) = x3 + 1 := j32e (by omega) (by omega)
          refine st_xi (N := E.2.2.2.2.1) (by decide) (by decide) rfl (show 0 ≤ jw32 (x3 + 1) by omega) (show jw32 (x3 + 1) < ((E.2.2.2.2.1 : Nat) : Int) by omega) (fun v165 ev165 => ?_)
          replace ev165 : v165 = jxv E (-2) (jw32 (x3 + 1)) := ev165
          have e166 : jw32 (x3 + 2) = x3 + 2 := j32e (by omega) (by omega)
          refine st_xi (N := E.2.2.2.2.1) (by decide) (by decide) rfl (show 0 ≤ jw32 (x3 + 2) by omega) (show jw32 (x3 + 2) < ((E.2.2.2.2.1 : Nat) : Int) by omega) (fun v167 ev167 => ?_)
          replace ev167 : v167 = jxv E (-2) (jw32 (x3 + 2)) := ev167
          have e168 : jw32 (x3 + 3) = x3 + 3 := j32e (by omega) (by omega)
          refine st_xi (N := E.2.2.2.2.1) (by decide) (by decide) rfl (show 0 ≤ jw32 (x3 + 3) by omega) (show jw32 (x3 + 3) < ((E.2.2.2.2.1 : Nat) : Int) by omega) (fun v169 ev169 => ?_)
          replace ev169 : v169 = jxv E (-2) (jw32 (x3 + 3)) := ev169
          refine st_cv (na := 3) (st := [.inl v169, .inl v167, .inl v165, .inr (.inr (.inl 0))]) jo_0 rfl rfl rfl (c_X11_force v165 v167 v169 g) rfl ?_
          rintro _ _ g171 ⟨rfl, ft170, t170, rfl, ht170, zt170⟩ kt170
          replace kt170 : -2147483648 ≤ t170 ∧ t170 ≤ 2147483647 := kt170
          replace ht170 : -7 ≤ t170 ∧ t170 ≤ 200 := ht170
          have li172 : jLI g171 := jLI_fr (ft170 176 0 (by unfold w_X11_force; omega)) (ft170 0 0 (by unfold w_X11_force; omega)) (fun t => ft170 87 t (by unfold w_X11_force; omega)) li
          have dli172 : g171 176 0 ≤ 2000 := li172.1
          have e173 : jw32 (x3 + 1) = x3 + 1 := j32e (by omega) (by omega)
          refine st_xi (N := E.2.2.2.2.1) (by decide) (by decide) rfl (show 0 ≤ jw32 (x3 + 1) by omega) (show jw32 (x3 + 1) < ((E.2.2.2.2.1 : Nat) : Int) by omega) (fun v174 ev174 => ?_)
          replace ev174 : v174 = jxv E (-2) (jw32 (x3 + 1)) := ev174
          have e175 : jw32 (x3 + 2) = x3 + 2 := j32e (by omega) (by omega)
          refine st_xi (N := E.2.2.2.2.1) (by decide) (by decide) rfl (show 0 ≤ jw32 (x3 + 2) by omega) (show jw32 (x3 + 2) < ((E.2.2.2.2.1 : Nat) : Int) by omega) (fun v176 ev176 => ?_)
          replace ev176 : v176 = jxv E (-2) (jw32 (x3 + 2)) := ev176
          have e177 : jw32 (x3 + 3) = x3 + 3 := j32e (by omega) (by omega)
          refine st_xi (N := E.2.2.2.2.1) (by decide) (by decide) rfl (show 0 ≤ jw32 (x3 + 3) by omega) (show jw32 (x3 + 3) < ((E.2.2.2.2.1 : Nat) : Int) by omega) (fun v178 ev178 => ?_)
          replace ev178 : v178 = jxv E (-2) (jw32 (x3 + 3)) := ev178
          refine st_cv (na := 3) (st := [.inl v178, .inl v176, .inl v174, .inr (.inr (.inl 176))]) jo_176 rfl rfl rfl (c_X12_force v174 v176 v178 g171) rfl ?_
          rintro _ _ g180 ⟨rfl, ft179, t179, rfl, ht179, zt179⟩ kt179
          replace kt179 : -2147483648 ≤ t179 ∧ t179 ≤ 2147483647 := kt179
          replace ht179 : -7 ≤ t179 ∧ t179 ≤ 200 := ht179
          have li181 : jLI g180 := jLI_fr (ft179 176 0 (by unfold w_X12_force; omega)) (ft179 0 0 (by unfold w_X12_force; omega)) (fun t => ft179 87 t (by unfold w_X12_force; omega)) li172
          have dli181 : g180 176 0 ≤ 2000 := li181.1
          show jGo E l 179 0 229 _ 1410 [.inr (.inr (.inl (-2))), .inr (.inr (.inl 0)), .inr (.inr (.inl 176)), .inl x3] [] 229 jr0 g180
          refine jGo_blk qL_law_1410 ?_
          have e182 : jw32 (x3 + 6) = x3 + 6 := j32e (by omega) (by omega)
          show jGo E l 179 0 229 _ 18 [.inr (.inr (.inl (-2))), .inr (.inr (.inl 0)), .inr (.inr (.inl 176)), .inl (jw32 (x3 + 6))] [] 229 jr0 g180
          exact ih (jw32 (x3 + 6)) g180 (by omega) li181 (by omega)
        · replace c6 : jand v4 63 = 10 := c6
          show jGo E l 179 0 229 _ 582 [.inr (.inr (.inl (-2))), .inr (.inr (.inl 0)), .inr (.inr (.inl 176)), .inl x3] [] 229 jr0 g
          refine jGo_blk qL_law_582 ?_
          have e183 : jw32 (x3 + 1) = x3 + 1 := j32e (by omega) (by omega)
          refine st_xi (N := E.2.2.2.2.1) (by decide) (by decide) rfl (show 0 ≤ jw32 (x3 + 1) by omega) (show jw32 (x3 + 1) < ((E.2.2.2.2.1 : Nat) : Int) by omega) (fun v184 ev184 => ?_)
          replace ev184 : v184 = jxv E (-2) (jw32 (x3 + 1)) := ev184
          have e185 : jw32 (x3 + 2) = x3 + 2 := j32e (by omega) (by omega)
          refine st_xi (N := E.2.2.2.2.1) (by decide) (by decide) rfl (show 0 ≤ jw32 (x3 + 2) by omega) (show jw32 (x3 + 2) < ((E.2.2.2.2.1 : Nat) : Int) by omega) (fun v186 ev186 => ?_)
          replace ev186 : v186 = jxv E (-2) (jw32 (x3 + 2)) := ev186
          have e187 : jw32 (x3 + 3) = x3 + 3 := j32e (by omega) (by omega)
          refine st_xi (N := E.2.2.2.2.1) (by decide) (by decide) rfl (show 0 ≤ jw32 (x3 + 3) by omega) (show jw32 (x3 + 3) < ((E.2.2.2.2.1 : Nat) : Int) by omega) (fun v188 ev188 => ?_)
          replace ev188 : v188 = jxv E (-2) (jw32 (x3 + 3)) := ev188
          have e189 : jw32 (x3 + 4) = x3 + 4 := j32e (by omega) (by omega)
          refine st_xi (N := E.2.2.2.2.1) (by decide) (by decide) rfl (show 0 ≤ jw32 (x3 + 4) by omega) (show jw32 (x3 + 4) < ((E.2.2.2.2.1 : Nat) : Int) by omega) (fun v190 ev190 => ?_)
          replace ev190 : v190 = jxv E (-2) (jw32 (x3 + 4)) := ev190
          refine st_cv (na := 4) (st := [.inl v190, .inl v188, .inl v186, .inl v184, .inr (.inr (.inl 0))]) jo_0 rfl rfl rfl (c_X11_task v184 v186 v188 v190 g) rfl ?_
          rintro _ _ g192 ⟨rfl, ft191, t191, rfl, ht191, zt191⟩ kt191
          replace kt191 : -2147483648 ≤ t191 ∧ t191 ≤ 2147483647 := kt191
          replace ht191 : -7 ≤ t191 ∧ t191 ≤ 2000 := ht191
          have li193 : jLI g192 := jLI_fr (ft191 176 0 (by unfold w_X11_task; omega)) (ft191 0 0 (by unfold w_X11_task; omega)) (fun t => ft191 87 t (by unfold w_X11_task; omega)) li
          have dli193 : g192 176 0 ≤ 2000 := li193.1
          have e194 : jw32 (x3 + 1) = x3 + 1 := j32e (by omega) (by omega)
          refine st_xi (N := E.2.2.2.2.1) (by decide) (by decide) rfl (show 0 ≤ jw32 (x3 + 1) by omega) (show jw32 (x3 + 1) < ((E.2.2.2.2.1 : Nat) : Int) by omega) (fun v195 ev195 => ?_)
          replace ev195 : v195 = jxv E (-2) (jw32 (x3 + 1)) := ev195
          have e196 : jw32 (x3 + 2) = x3 + 2 := j32e (by omega) (by omega)
          refine st_xi (N := E.2.2.2.2.1) (by decide) (by decide) rfl (show 0 ≤ jw32 (x3 + 2) by omega) (show jw32 (x3 + 2) < ((E.2.2.2.2.1 : Nat) : Int) by omega) (fun v197 ev197 => ?_)
          replace ev197 : v197 = jxv E (-2) (jw32 (x3 + 2)) := ev197
          have e198 : jw32 (x3 + 3) = x3 + 3 := j32e (by omega) (by omega)
          refine st_xi (N := E.2.2.2.2.1) (by decide) (by decide) rfl (show 0 ≤ jw32 (x3 + 3) by omega) (show jw32 (x3 + 3) < ((E.2.2.2.2.1 : Nat) : Int) by omega) (fun v199 ev199 => ?_)
          replace ev199 : v199 = jxv E (-2) (jw32 (x3 + 3)) := ev199
          have e200 : jw32 (x3 + 4) = x3 + 4 := j32e (by omega) (by omega)
          refine st_xi (N := E.2.2.2.2.1) (by decide) (by decide) rfl (show 0 ≤ jw32 (x3 + 4) by omega) (show jw32 (x3 + 4) < ((E.2.2.2.2.1 : Nat) : Int) by omega) (fun v201 ev201 => ?_)
          replace ev201 : v201 = jxv E (-2) (jw32 (x3 + 4)) := ev201
          refine st_cv (na := 4) (st := [.inl v201, .inl v199, .inl v197, .inl v195, .inr (.inr (.inl 176))]) jo_176 rfl rfl rfl (c_X12_task v195 v197 v199 v201 g192) rfl ?_
          rintro _ _ g203 ⟨rfl, ft202, t202, rfl, ht202, zt202⟩ kt202
          replace kt202 : -2147483648 ≤ t202 ∧ t202 ≤ 2147483647 := kt202
          replace ht202 : -7 ≤ t202 ∧ t202 ≤ 2000 := ht202
          have li204 : jLI g203 := jLI_fr (ft202 176 0 (by unfold w_X12_task; omega)) (ft202 0 0 (by unfold w_X12_task; omega)) (fun t => ft202 87 t (by unfold w_X12_task; omega)) li193
          have dli204 : g203 176 0 ≤ 2000 := li204.1
          show jGo E l 179 0 229 _ 1410 [.inr (.inr (.inl (-2))), .inr (.inr (.inl 0)), .inr (.inr (.inl 176)), .inl x3] [] 229 jr0 g203
          refine jGo_blk qL_law_1410 ?_
          have e205 : jw32 (x3 + 6) = x3 + 6 := j32e (by omega) (by omega)
          show jGo E l 179 0 229 _ 18 [.inr (.inr (.inl (-2))), .inr (.inr (.inl 0)), .inr (.inr (.inl 176)), .inl (jw32 (x3 + 6))] [] 229 jr0 g203
          exact ih (jw32 (x3 + 6)) g203 (by omega) li204 (by omega)
        · replace c6 : jand v4 63 = 11 := c6
          show jGo E l 179 0 229 _ 635 [.inr (.inr (.inl (-2))), .inr (.inr (.inl 0)), .inr (.inr (.inl 176)), .inl x3] [] 229 jr0 g
          refine jGo_blk qL_law_635 ?_
          have e206 : jw32 (x3 + 1) = x3 + 1 := j32e (by omega) (by omega)
          refine st_xi (N := E.2.2.2.2.1) (by decide) (by decide) rfl (show 0 ≤ jw32 (x3 + 1) by omega) (show jw32 (x3 + 1) < ((E.2.2.2.2.1 : Nat) : Int) by omega) (fun v207 ev207 => ?_)
          replace ev207 : v207 = jxv E (-2) (jw32 (x3 + 1)) := ev207
          have e208 : jw32 (x3 + 2) = x3 + 2 := j32e (by omega) (by omega)
          refine st_xi (N := E.2.2.2.2.1) (by decide) (by decide) rfl (show 0 ≤ jw32 (x3 + 2) by omega) (show jw32 (x3 + 2) < ((E.2.2.2.2.1 : Nat) : Int) by omega) (fun v209 ev209 => ?_)
          replace ev209 : v209 = jxv E (-2) (jw32 (x3 + 2)) := ev209
          have e210 : jw32 (x3 + 3) = x3 + 3 := j32e (by omega) (by omega)
          refine st_xi (N := E.2.2.2.2.1) (by decide) (by decide) rfl (show 0 ≤ jw32 (x3 + 3) by omega) (show jw32 (x3 + 3) < ((E.2.2.2.2.1 : Nat) : Int) by omega) (fun v211 ev211 => ?_)
          replace ev211 : v211 = jxv E (-2) (jw32 (x3 + 3)) := ev211
          have e212 : jw32 (x3 + 4) = x3 + 4 := j32e (by omega) (by omega)
          refine st_xi (N := E.2.2.2.2.1) (by decide) (by decide) rfl (show 0 ≤ jw32 (x3 + 4) by omega) (show jw32 (x3 + 4) < ((E.2.2.2.2.1 : Nat) : Int) by omega) (fun v213 ev213 => ?_)
          replace ev213 : v213 = jxv E (-2) (jw32 (x3 + 4)) := ev213
          refine st_cv (na := 4) (st := [.inl v213, .inl v211, .inl v209, .inl v207, .inr (.inr (.inl 0))]) jo_0 rfl rfl rfl (c_X11_needs v207 v209 v211 v213 g) rfl ?_
          rintro _ _ g215 ⟨rfl, ft214, t214, rfl, ht214, zt214⟩ kt214
          replace kt214 : -2147483648 ≤ t214 ∧ t214 ≤ 2147483647 := kt214
          replace ht214 : -7 ≤ t214 ∧ t214 ≤ 500 := ht214
          have li216 : jLI g215 := jLI_fr (ft214 176 0 (by unfold w_X11_needs; omega)) (ft214 0 0 (by unfold w_X11_needs; omega)) (fun t => ft214 87 t (by unfold w_X11_needs; omega)) li
          have dli216 : g215 176 0 ≤ 2000 := li216.1
          have e217 : jw32 (x3 + 1) = x3 + 1 := j32e (by omega) (by omega)
          refine st_xi (N := E.2.2.2.2.1) (by decide) (by decide) rfl (show 0 ≤ jw32 (x3 + 1) by omega) (show jw32 (x3 + 1) < ((E.2.2.2.2.1 : Nat) : Int) by omega) (fun v218 ev218 => ?_)
          replace ev218 : v218 = jxv E (-2) (jw32 (x3 + 1)) := ev218
          have e219 : jw32 (x3 + 2) = x3 + 2 := j32e (by omega) (by omega)
          refine st_xi (N := E.2.2.2.2.1) (by decide) (by decide) rfl (show 0 ≤ jw32 (x3 + 2) by omega) (show jw32 (x3 + 2) < ((E.2.2.2.2.1 : Nat) : Int) by omega) (fun v220 ev220 => ?_)
          replace ev220 : v220 = jxv E (-2) (jw32 (x3 + 2)) := ev220
          have e221 : jw32 (x3 + 3) = x3 + 3 := j32e (by omega) (by omega)
          refine st_xi (N := E.2.2.2.2.1) (by decide) (by decide) rfl (show 0 ≤ jw32 (x3 + 3) by omega) (show jw32 (x3 + 3) < ((E.2.2.2.2.1 : Nat) : Int) by omega) (fun v222 ev222 => ?_)
          replace ev222 : v222 = jxv E (-2) (jw32 (x3 + 3)) := ev222
          have e223 : jw32 (x3 + 4) = x3 + 4 := j32e (by omega) (by omega)
          refine st_xi (N := E.2.2.2.2.1) (by decide) (by decide) rfl (show 0 ≤ jw32 (x3 + 4) by omega) (show jw32 (x3 + 4) < ((E.2.2.2.2.1 : Nat) : Int) by omega) (fun v224 ev224 => ?_)
          replace ev224 : v224 = jxv E (-2) (jw32 (x3 + 4)) := ev224
          refine st_cv (na := 4) (st := [.inl v224, .inl v222, .inl v220, .inl v218, .inr (.inr (.inl 176))]) jo_176 rfl rfl rfl (c_X12_needs v218 v220 v222 v224 g215) rfl ?_
          rintro _ _ g226 ⟨rfl, ft225, t225, rfl, ht225, zt225⟩ kt225
          replace kt225 : -2147483648 ≤ t225 ∧ t225 ≤ 2147483647 := kt225
          replace ht225 : -7 ≤ t225 ∧ t225 ≤ 500 := ht225
          have li227 : jLI g226 := jLI_fr (ft225 176 0 (by unfold w_X12_needs; omega)) (ft225 0 0 (by unfold w_X12_needs; omega)) (fun t => ft225 87 t (by unfold w_X12_needs; omega)) li216
          have dli227 : g226 176 0 ≤ 2000 := li227.1
          show jGo E l 179 0 229 _ 1410 [.inr (.inr (.inl (-2))), .inr (.inr (.inl 0)), .inr (.inr (.inl 176)), .inl x3] [] 229 jr0 g226
          refine jGo_blk qL_law_1410 ?_
          have e228 : jw32 (x3 + 6) = x3 + 6 := j32e (by omega) (by omega)
          show jGo E l 179 0 229 _ 18 [.inr (.inr (.inl (-2))), .inr (.inr (.inl 0)), .inr (.inr (.inl 176)), .inl (jw32 (x3 + 6))] [] 229 jr0 g226
          exact ih (jw32 (x3 + 6)) g226 (by omega) li227 (by omega)
        · replace c6 : jand v4 63 = 12 := c6
          show jGo E l 179 0 229 _ 688 [.inr (.inr (.inl (-2))), .inr (.inr (.inl 0)), .inr (.inr (.inl 176)), .inl x3] [] 229 jr0 g
          refine jGo_blk qL_law_688 ?_
          have e229 : jw32 (x3 + 1) = x3 + 1 := j32e (by omega) (by omega)
          refine st_xi (N := E.2.2.2.2.1) (by decide) (by decide) rfl (show 0 ≤ jw32 (x3 + 1) by omega) (show jw32 (x3 + 1) < ((E.2.2.2.2.1 : Nat) : Int) by omega) (fun v230 ev230 => ?_)
          replace ev230 : v230 = jxv E (-2) (jw32 (x3 + 1)) := ev230
          have e231 : jw32 (x3 + 2) = x3 + 2 := j32e (by omega) (by omega)
          refine st_xi (N := E.2.2.2.2.1) (by decide) (by decide) rfl (show 0 ≤ jw32 (x3 + 2) by omega) (show jw32 (x3 + 2) < ((E.2.2.2.2.1 : Nat) : Int) by omega) (fun v232 ev232 => ?_)
          replace ev232 : v232 = jxv E (-2) (jw32 (x3 + 2)) := ev232
          have e233 : jw32 (x3 + 3) = x3 + 3 := j32e (by omega) (by omega)
          refine st_xi (N := E.2.2.2.2.1) (by decide) (by decide) rfl (show 0 ≤ jw32 (x3 + 3) by omega) (show jw32 (x3 + 3) < ((E.2.2.2.2.1 : Nat) : Int) by omega) (fun v234 ev234 => ?_)
          replace ev234 : v234 = jxv E (-2) (jw32 (x3 + 3)) := ev234
          refine st_cv (na := 3) (st := [.inl v234, .inl v232, .inl v230, .inr (.inr (.inl 0))]) jo_0 rfl rfl rfl (c_X11_hull v230 v232 v234 g) rfl ?_
          rintro _ _ g236 ⟨rfl, ft235, t235, rfl, ht235, zt235⟩ kt235
          replace kt235 : -2147483648 ≤ t235 ∧ t235 ≤ 2147483647 := kt235
          replace ht235 : -7 ≤ t235 ∧ t235 ≤ 15 := ht235
          have li237 : jLI g236 := jLI_fr (ft235 176 0 (by unfold w_X11_hull; omega)) (ft235 0 0 (by unfold w_X11_hull; omega)) (fun t => ft235 87 t (by unfold w_X11_hull; omega)) li
          have dli237 : g236 176 0 ≤ 2000 := li237.1
          have e238 : jw32 (x3 + 1) = x3 + 1 := j32e (by omega) (by omega)
          refine st_xi (N := E.2.2.2.2.1) (by decide) (by decide) rfl (show 0 ≤ jw32 (x3 + 1) by omega) (show jw32 (x3 + 1) < ((E.2.2.2.2.1 : Nat) : Int) by omega) (fun v239 ev239 => ?_)
          replace ev239 : v239 = jxv E (-2) (jw32 (x3 + 1)) := ev239
          have e240 : jw32 (x3 + 2) = x3 + 2 := j32e (by omega) (by omega)
          refine st_xi (N := E.2.2.2.2.1) (by decide) (by decide) rfl (show 0 ≤ jw32 (x3 + 2) by omega) (show jw32 (x3 + 2) < ((E.2.2.2.2.1 : Nat) : Int) by omega) (fun v241 ev241 => ?_)
          replace ev241 : v241 = jxv E (-2) (jw32 (x3 + 2)) := ev241
          have e242 : jw32 (x3 + 3) = x3 + 3 := j32e (by omega) (by omega)
          refine st_xi (N := E.2.2.2.2.1) (by decide) (by decide) rfl (show 0 ≤ jw32 (x3 + 3) by omega) (show jw32 (x3 + 3) < ((E.2.2.2.2.1 : Nat) : Int) by omega) (fun v243 ev243 => ?_)
          replace ev243 : v243 = jxv E (-2) (jw32 (x3 + 3)) := ev243
          refine st_cv (na := 3) (st := [.inl v243, .inl v241, .inl v239, .inr (.inr (.inl 176))]) jo_176 rfl rfl rfl (c_X12_hull v239 v241 v243 g236) rfl ?_
          rintro _ _ g245 ⟨rfl, ft244, t244, rfl, ht244, zt244⟩ kt244
          replace kt244 : -2147483648 ≤ t244 ∧ t244 ≤ 2147483647 := kt244
          replace ht244 : -7 ≤ t244 ∧ t244 ≤ 15 := ht244
          have li246 : jLI g245 := jLI_fr (ft244 176 0 (by unfold w_X12_hull; omega)) (ft244 0 0 (by unfold w_X12_hull; omega)) (fun t => ft244 87 t (by unfold w_X12_hull; omega)) li237
          have dli246 : g245 176 0 ≤ 2000 := li246.1
          show jGo E l 179 0 229 _ 1410 [.inr (.inr (.inl (-2))), .inr (.inr (.inl 0)), .inr (.inr (.inl 176)), .inl x3] [] 229 jr0 g245
          refine jGo_blk qL_law_1410 ?_
          have e247 : jw32 (x3 + 6) = x3 + 6 := j32e (by omega) (by omega)
          show jGo E l 179 0 229 _ 18 [.inr (.inr (.inl (-2))), .inr (.inr (.inl 0)), .inr (.inr (.inl 176)), .inl (jw32 (x3 + 6))] [] 229 jr0 g245
          exact ih (jw32 (x3 + 6)) g245 (by omega) li246 (by omega)
        · replace c6 : jand v4 63 = 13 := c6
          show jGo E l 179 0 229 _ 731 [.inr (.inr (.inl (-2))), .inr (.inr (.inl 0)), .inr (.inr (.inl 176)), .inl x3] [] 229 jr0 g
          refine jGo_blk qL_law_731 ?_
          have e248 : jw32 (x3 + 1) = x3 + 1 := j32e (by omega) (by omega)
          refine st_xi (N := E.2.2.2.2.1) (by decide) (by decide) rfl (show 0 ≤ jw32 (x3 + 1) by omega) (show jw32 (x3 + 1) < ((E.2.2.2.2.1 : Nat) : Int) by omega) (fun v249 ev249 => ?_)
          replace ev249 : v249 = jxv E (-2) (jw32 (x3 + 1)) := ev249
          have e250 : jw32 (x3 + 2) = x3 + 2 := j32e (by omega) (by omega)
          refine st_xi (N := E.2.2.2.2.1) (by decide) (by decide) rfl (show 0 ≤ jw32 (x3 + 2) by omega) (show jw32 (x3 + 2) < ((E.2.2.2.2.1 : Nat) : Int) by omega) (fun v251 ev251 => ?_)
          replace ev251 : v251 = jxv E (-2) (jw32 (x3 + 2)) := ev251
          refine st_cv (na := 2) (st := [.inl v251, .inl v249, .inr (.inr (.inl 0))]) jo_0 rfl rfl rfl (c_X11_priority v249 v251 g) rfl ?_
          rintro _ _ g253 ⟨rfl, ft252, t252, rfl, ht252, zt252⟩ kt252
          replace kt252 : -2147483648 ≤ t252 ∧ t252 ≤ 2147483647 := kt252
          replace ht252 : -7 ≤ t252 ∧ t252 ≤ 99 := ht252
          have li254 : jLI g253 := jLI_fr (ft252 176 0 (by unfold w_X11_priority; omega)) (ft252 0 0 (by unfold w_X11_priority; omega)) (fun t => ft252 87 t (by unfold w_X11_priority; omega)) li
          have dli254 : g253 176 0 ≤ 2000 := li254.1
          have e255 : jw32 (x3 + 1) = x3 + 1 := j32e (by omega) (by omega)
          refine st_xi (N := E.2.2.2.2.1) (by decide) (by decide) rfl (show 0 ≤ jw32 (x3 + 1) by omega) (show jw32 (x3 + 1) < ((E.2.2.2.2.1 : Nat) : Int) by omega) (fun v256 ev256 => ?_)
          replace ev256 : v256 = jxv E (-2) (jw32 (x3 + 1)) := ev256
          have e257 : jw32 (x3 + 2) = x3 + 2 := j32e (by omega) (by omega)
          refine st_xi (N := E.2.2.2.2.1) (by decide) (by decide) rfl (show 0 ≤ jw32 (x3 + 2) by omega) (show jw32 (x3 + 2) < ((E.2.2.2.2.1 : Nat) : Int) by omega) (fun v258 ev258 => ?_)
          replace ev258 : v258 = jxv E (-2) (jw32 (x3 + 2)) := ev258
          refine st_cv (na := 2) (st := [.inl v258, .inl v256, .inr (.inr (.inl 176))]) jo_176 rfl rfl rfl (c_X12_priority v256 v258 g253) rfl ?_
          rintro _ _ g260 ⟨rfl, ft259, t259, rfl, ht259, zt259⟩ kt259
          replace kt259 : -2147483648 ≤ t259 ∧ t259 ≤ 2147483647 := kt259
          replace ht259 : -7 ≤ t259 ∧ t259 ≤ 99 := ht259
          have li261 : jLI g260 := jLI_fr (ft259 176 0 (by unfold w_X12_priority; omega)) (ft259 0 0 (by unfold w_X12_priority; omega)) (fun t => ft259 87 t (by unfold w_X12_priority; omega)) li254
          have dli261 : g260 176 0 ≤ 2000 := li261.1
          show jGo E l 179 0 229 _ 1410 [.inr (.inr (.inl (-2))), .inr (.inr (.inl 0)), .inr (.inr (.inl 176)), .inl x3] [] 229 jr0 g260
          refine jGo_blk qL_law_1410 ?_
          have e262 : jw32 (x3 + 6) = x3 + 6 := j32e (by omega) (by omega)
          show jGo E l 179 0 229 _ 18 [.inr (.inr (.inl (-2))), .inr (.inr (.inl 0)), .inr (.inr (.inl 176)), .inl (jw32 (x3 + 6))] [] 229 jr0 g260
          exact ih (jw32 (x3 + 6)) g260 (by omega) li261 (by omega)
        · replace c6 : jand v4 63 = 14 := c6
          show jGo E l 179 0 229 _ 764 [.inr (.inr (.inl (-2))), .inr (.inr (.inl 0)), .inr (.inr (.inl 176)), .inl x3] [] 229 jr0 g
          refine jGo_blk qL_law_764 ?_
          have e263 : jw32 (x3 + 1) = x3 + 1 := j32e (by omega) (by omega)
          refine st_xi (N := E.2.2.2.2.1) (by decide) (by decide) rfl (show 0 ≤ jw32 (x3 + 1) by omega) (show jw32 (x3 + 1) < ((E.2.2.2.2.1 : Nat) : Int) by omega) (fun v264 ev264 => ?_)
          replace ev264 : v264 = jxv E (-2) (jw32 (x3 + 1)) := ev264
          have e265 : jw32 (x3 + 2) = x3 + 2 := j32e (by omega) (by omega)
          refine st_xi (N := E.2.2.2.2.1) (by decide) (by decide) rfl (show 0 ≤ jw32 (x3 + 2) by omega) (show jw32 (x3 + 2) < ((E.2.2.2.2.1 : Nat) : Int) by omega) (fun v266 ev266 => ?_)
          replace ev266 : v266 = jxv E (-2) (jw32 (x3 + 2)) := ev266
          refine st_cv (na := 2) (st := [.inl v266, .inl v264, .inr (.inr (.inl 0))]) jo_0 rfl rfl rfl (c_X11_raft v264 v266 g) rfl ?_
          rintro _ _ g268 ⟨rfl, ft267, t267, rfl, ht267, zt267⟩ kt267
          replace kt267 : -2147483648 ≤ t267 ∧ t267 ≤ 2147483647 := kt267
          replace ht267 : -7 ≤ t267 ∧ t267 ≤ 1 := ht267
          have li269 : jLI g268 := jLI_fr (ft267 176 0 (by unfold w_X11_raft; omega)) (ft267 0 0 (by unfold w_X11_raft; omega)) (fun t => ft267 87 t (by unfold w_X11_raft; omega)) li
          have dli269 : g268 176 0 ≤ 2000 := li269.1
          have e270 : jw32 (x3 + 1) = x3 + 1 := j32e (by omega) (by omega)
          refine st_xi (N := E.2.2.2.2.1) (by decide) (by decide) rfl (show 0 ≤ jw32 (x3 + 1) by omega) (show jw32 (x3 + 1) < ((E.2.2.2.2.1 : Nat) : Int) by omega) (fun v271 ev271 => ?_)
          replace ev271 : v271 = jxv E (-2) (jw32 (x3 + 1)) := ev271
          have e272 : jw32 (x3 + 2) = x3 + 2 := j32e (by omega) (by omega)
          refine st_xi (N := E.2.2.2.2.1) (by decide) (by decide) rfl (show 0 ≤ jw32 (x3 + 2) by omega) (show jw32 (x3 + 2) < ((E.2.2.2.2.1 : Nat) : Int) by omega) (fun v273 ev273 => ?_)
          replace ev273 : v273 = jxv E (-2) (jw32 (x3 + 2)) := ev273
          refine st_cv (na := 2) (st := [.inl v273, .inl v271, .inr (.inr (.inl 176))]) jo_176 rfl rfl rfl (c_X12_raft v271 v273 g268) rfl ?_
          rintro _ _ g275 ⟨rfl, ft274, t274, rfl, ht274, zt274⟩ kt274
          replace kt274 : -2147483648 ≤ t274 ∧ t274 ≤ 2147483647 := kt274
          replace ht274 : -7 ≤ t274 ∧ t274 ≤ 1 := ht274
          have li276 : jLI g275 := jLI_fr (ft274 176 0 (by unfold w_X12_raft; omega)) (ft274 0 0 (by unfold w_X12_raft; omega)) (fun t => ft274 87 t (by unfold w_X12_raft; omega)) li269
          have dli276 : g275 176 0 ≤ 2000 := li276.1
          show jGo E l 179 0 229 _ 1410 [.inr (.inr (.inl (-2))), .inr (.inr (.inl 0)), .inr (.inr (.inl 176)), .inl x3] [] 229 jr0 g275
          refine jGo_blk qL_law_1410 ?_
          have e277 : jw32 (x3 + 6) = x3 + 6 := j32e (by omega) (by omega)
          show jGo E l 179 0 229 _ 18 [.inr (.inr (.inl (-2))), .inr (.inr (.inl 0)), .inr (.inr (.inl 176)), .inl (jw32 (x3 + 6))] [] 229 jr0 g275
          exact ih (jw32 (x3 + 6)) g275 (by omega) li276 (by omega)
        · replace c6 : jand v4 63 = 15 := c6
          show jGo E l 179 0 229 _ 797 [.inr (.inr (.inl (-2))), .inr (.inr (.inl 0)), .inr (.inr (.inl 176)), .inl x3] [] 229 jr0 g
          refine jGo_blk qL_law_797 ?_
          have e278 : jw32 (x3 + 1) = x3 + 1 := j32e (by omega) (by omega)
          refine st_xi (N := E.2.2.2.2.1) (by decide) (by decide) rfl (show 0 ≤ jw32 (x3 + 1) by omega) (show jw32 (x3 + 1) < ((E.2.2.2.2.1 : Nat) : Int) by omega) (fun v279 ev279 => ?_)
          replace ev279 : v279 = jxv E (-2) (jw32 (x3 + 1)) := ev279
          refine st_cv (na := 1) (st := [.inl v279, .inr (.inr (.inl 0))]) jo_0 rfl rfl rfl (c_X11_unraft v279 g) rfl ?_
          rintro _ _ g281 ⟨rfl, ft280, t280, rfl, ht280, zt280⟩ kt280
          replace kt280 : -2147483648 ≤ t280 ∧ t280 ≤ 2147483647 := kt280
          have li282 : jLI g281 := jLI_fr (ft280 176 0 (by unfold w_X11_unraft; omega)) (ft280 0 0 (by unfold w_X11_unraft; omega)) (fun t => ft280 87 t (by unfold w_X11_unraft; omega)) li
          have dli282 : g281 176 0 ≤ 2000 := li282.1
          have e283 : jw32 (x3 + 1) = x3 + 1 := j32e (by omega) (by omega)
          refine st_xi (N := E.2.2.2.2.1) (by decide) (by decide) rfl (show 0 ≤ jw32 (x3 + 1) by omega) (show jw32 (x3 + 1) < ((E.2.2.2.2.1 : Nat) : Int) by omega) (fun v284 ev284 => ?_)
          replace ev284 : v284 = jxv E (-2) (jw32 (x3 + 1)) := ev284
          refine st_cv (na := 1) (st := [.inl v284, .inr (.inr (.inl 176))]) jo_176 rfl rfl rfl (c_X12_unraft v284 g281) rfl ?_
          rintro _ _ g286 ⟨rfl, ft285, t285, rfl, ht285, zt285⟩ kt285
          replace kt285 : -2147483648 ≤ t285 ∧ t285 ≤ 2147483647 := kt285
          have li287 : jLI g286 := jLI_fr (ft285 176 0 (by unfold w_X12_unraft; omega)) (ft285 0 0 (by unfold w_X12_unraft; omega)) (fun t => ft285 87 t (by unfold w_X12_unraft; omega)) li282
          have dli287 : g286 176 0 ≤ 2000 := li287.1
          show jGo E l 179 0 229 _ 1410 [.inr (.inr (.inl (-2))), .inr (.inr (.inl 0)), .inr (.inr (.inl 176)), .inl x3] [] 229 jr0 g286
          refine jGo_blk qL_law_1410 ?_
          have e288 : jw32 (x3 + 6) = x3 + 6 := j32e (by omega) (by omega)
          show jGo E l 179 0 229 _ 18 [.inr (.inr (.inl (-2))), .inr (.inr (.inl 0)), .inr (.inr (.inl 176)), .inl (jw32 (x3 + 6))] [] 229 jr0 g286
          exact ih (jw32 (x3 + 6)) g286 (by omega) li287 (by omega)
        · replace c6 : jand v4 63 = 16 := c6
          show jGo E l 179 0 229 _ 820 [.inr (.inr (.inl (-2))), .inr (.inr (.inl 0)), .inr (.inr (.inl 176)), .inl x3] [] 229 jr0 g
          refine jGo_blk qL_law_820 ?_
          have e289 : jw32 (x3 + 1) = x3 + 1 := j32e (by omega) (by omega)
          refine st_xi (N := E.2.2.2.2.1) (by decide) (by decide) rfl (show 0 ≤ jw32 (x3 + 1) by omega) (show jw32 (x3 + 1) < ((E.2.2.2.2.1 : Nat) : Int) by omega) (fun v290 ev290 => ?_)
          replace ev290 : v290 = jxv E (-2) (jw32 (x3 + 1)) := ev290
          refine st_cv (na := 1) (st := [.inl v290, .inr (.inr (.inl 0))]) jo_0 rfl rfl rfl (c_X11_days v290 g li.2) rfl ?_
          rintro _ _ g292 ⟨rfl, ft291, t291, rfl, ht291, zt291⟩ kt291
          replace kt291 : -2147483648 ≤ t291 ∧ t291 ≤ 2147483647 := kt291
          replace zt291 : jLG 0 g292 := zt291
          have li293 : jLI g292 := ⟨by rw [(ft291 176 0 (by unfold w_X11_days; omega))]; exact li.1, zt291⟩
          have dli293 : g292 176 0 ≤ 2000 := li293.1
          have e294 : jw32 (x3 + 1) = x3 + 1 := j32e (by omega) (by omega)
          refine st_xi (N := E.2.2.2.2.1) (by decide) (by decide) rfl (show 0 ≤ jw32 (x3 + 1) by omega) (show jw32 (x3 + 1) < ((E.2.2.2.2.1 : Nat) : Int) by omega) (fun v295 ev295 => ?_)
          replace ev295 : v295 = jxv E (-2) (jw32 (x3 + 1)) := ev295
          have e296 : g292 176 0 = g 176 0 := ft291 176 0 (by unfold w_X11_days; omega)
          refine st_cv (na := 1) (st := [.inl v295, .inr (.inr (.inl 176))]) jo_176 rfl rfl rfl (c_X12_days v295 g292 (by omega)) rfl ?_
          rintro _ _ g298 ⟨rfl, ft297, t297, rfl, ht297, zt297⟩ kt297
          replace kt297 : -2147483648 ≤ t297 ∧ t297 ≤ 2147483647 := kt297
          replace zt297 : g298 176 0 ≤ 2000 := zt297
          have li299 : jLI g298 := ⟨zt297, jLG_fr (ft297 0 0 (by unfold w_X12_days; omega)) (fun t => ft297 87 t (by unfold w_X12_days; omega)) li293.2⟩
          have dli299 : g298 176 0 ≤ 2000 := li299.1
          show jGo E l 179 0 229 _ 1410 [.inr (.inr (.inl (-2))), .inr (.inr (.inl 0)), .inr (.inr (.inl 176)), .inl x3] [] 229 jr0 g298
          refine jGo_blk qL_law_1410 ?_
          have e300 : jw32 (x3 + 6) = x3 + 6 := j32e (by omega) (by omega)
          show jGo E l 179 0 229 _ 18 [.inr (.inr (.inl (-2))), .inr (.inr (.inl 0)), .inr (.inr (.inl 176)), .inl (jw32 (x3 + 6))] [] 229 jr0 g298
          exact ih (jw32 (x3 + 6)) g298 (by omega) li299 (by omega)
        · replace c6 : jand v4 63 = 17 := c6
          show jGo E l 179 0 229 _ 843 [.inr (.inr (.inl (-2))), .inr (.inr (.inl 0)), .inr (.inr (.inl 176)), .inl x3] [] 229 jr0 g
          refine jGo_blk qL_law_843 ?_
          have e301 : jw32 (x3 + 1) = x3 + 1 := j32e (by omega) (by omega)
          refine st_xi (N := E.2.2.2.2.1) (by decide) (by decide) rfl (show 0 ≤ jw32 (x3 + 1) by omega) (show jw32 (x3 + 1) < ((E.2.2.2.2.1 : Nat) : Int) by omega) (fun v302 ev302 => ?_)
          replace ev302 : v302 = jxv E (-2) (jw32 (x3 + 1)) := ev302
          refine st_cv (na := 1) (st := [.inl v302, .inr (.inr (.inl 0))]) jo_0 rfl rfl rfl (c_X11_breakUp v302 g) rfl ?_
          rintro _ _ g304 ⟨rfl, ft303, t303, rfl, ht303, zt303⟩ kt303
          replace kt303 : -2147483648 ≤ t303 ∧ t303 ≤ 2147483647 := kt303
          have li305 : jLI g304 := jLI_fr (ft303 176 0 (by unfold w_X11_breakUp; omega)) (ft303 0 0 (by unfold w_X11_breakUp; omega)) (fun t => ft303 87 t (by unfold w_X11_breakUp; omega)) li
          have dli305 : g304 176 0 ≤ 2000 := li305.1
          have e306 : jw32 (x3 + 1) = x3 + 1 := j32e (by omega) (by omega)
          refine st_xi (N := E.2.2.2.2.1) (by decide) (by decide) rfl (show 0 ≤ jw32 (x3 + 1) by omega) (show jw32 (x3 + 1) < ((E.2.2.2.2.1 : Nat) : Int) by omega) (fun v307 ev307 => ?_)
          replace ev307 : v307 = jxv E (-2) (jw32 (x3 + 1)) := ev307
          refine st_cv (na := 1) (st := [.inl v307, .inr (.inr (.inl 176))]) jo_176 rfl rfl rfl (c_X12_breakUp v307 g304) rfl ?_
          rintro _ _ g309 ⟨rfl, ft308, t308, rfl, ht308, zt308⟩ kt308
          replace kt308 : -2147483648 ≤ t308 ∧ t308 ≤ 2147483647 := kt308
          have li310 : jLI g309 := jLI_fr (ft308 176 0 (by unfold w_X12_breakUp; omega)) (ft308 0 0 (by unfold w_X12_breakUp; omega)) (fun t => ft308 87 t (by unfold w_X12_breakUp; omega)) li305
          have dli310 : g309 176 0 ≤ 2000 := li310.1
          show jGo E l 179 0 229 _ 1410 [.inr (.inr (.inl (-2))), .inr (.inr (.inl 0)), .inr (.inr (.inl 176)), .inl x3] [] 229 jr0 g309
          refine jGo_blk qL_law_1410 ?_
          have e311 : jw32 (x3 + 6) = x3 + 6 := j32e (by omega) (by omega)
          show jGo E l 179 0 229 _ 18 [.inr (.inr (.inl (-2))), .inr (.inr (.inl 0)), .inr (.inr (.inl 176)), .inl (jw32 (x3 + 6))] [] 229 jr0 g309
          exact ih (jw32 (x3 + 6)) g309 (by omega) li310 (by omega)
        · replace c6 : jand v4 63 = 18 := c6
          show jGo E l 179 0 229 _ 866 [.inr (.inr (.inl (-2))), .inr (.inr (.inl 0)), .inr (.inr (.inl 176)), .inl x3] [] 229 jr0 g
          refine jGo_blk qL_law_866 ?_
          have e312 : jw32 (x3 + 1) = x3 + 1 := j32e (by omega) (by omega)
          refine st_xi (N := E.2.2.2.2.1) (by decide) (by decide) rfl (show 0 ≤ jw32 (x3 + 1) by omega) (show jw32 (x3 + 1) < ((E.2.2.2.2.1 : Nat) : Int) by omega) (fun v313 ev313 => ?_)
          replace ev313 : v313 = jxv E (-2) (jw32 (x3 + 1)) := ev313
          have e314 : jw32 (x3 + 2) = x3 + 2 := j32e (by omega) (by omega)
          refine st_xi (N := E.2.2.2.2.1) (by decide) (by decide) rfl (show 0 ≤ jw32 (x3 + 2) by omega) (show jw32 (x3 + 2) < ((E.2.2.2.2.1 : Nat) : Int) by omega) (fun v315 ev315 => ?_)
          replace ev315 : v315 = jxv E (-2) (jw32 (x3 + 2)) := ev315
          refine st_cv (na := 2) (st := [.inl v315, .inl v313, .inr (.inr (.inl 0))]) jo_0 rfl rfl rfl (c_X11_growth v313 v315 g) rfl ?_
          rintro _ _ g317 ⟨rfl, ft316, t316, rfl, ht316, zt316⟩ kt316
          replace kt316 : -2147483648 ≤ t316 ∧ t316 ≤ 2147483647 := kt316
          replace ht316 : -7 ≤ t316 ∧ t316 ≤ 9 := ht316
          have li318 : jLI g317 := jLI_fr (ft316 176 0 (by unfold w_X11_growth; omega)) (ft316 0 0 (by unfold w_X11_growth; omega)) (fun t => ft316 87 t (by unfold w_X11_growth; omega)) li
          have dli318 : g317 176 0 ≤ 2000 := li318.1
          have e319 : jw32 (x3 + 1) = x3 + 1 := j32e (by omega) (by omega)
          refine st_xi (N := E.2.2.2.2.1) (by decide) (by decide) rfl (show 0 ≤ jw32 (x3 + 1) by omega) (show jw32 (x3 + 1) < ((E.2.2.2.2.1 : Nat) : Int) by omega) (fun v320 ev320 => ?_)
          replace ev320 : v320 = jxv E (-2) (jw32 (x3 + 1)) := ev320
          have e321 : jw32 (x3 + 2) = x3 + 2 := j32e (by omega) (by omega)
          refine st_xi (N := E.2.2.2.2.1) (by decide) (by decide) rfl (show 0 ≤ jw32 (x3 + 2) by omega) (show jw32 (x3 + 2) < ((E.2.2.2.2.1 : Nat) : Int) by omega) (fun v322 ev322 => ?_)
          replace ev322 : v322 = jxv E (-2) (jw32 (x3 + 2)) := ev322
          refine st_cv (na := 2) (st := [.inl v322, .inl v320, .inr (.inr (.inl 176))]) jo_176 rfl rfl rfl (c_X12_growth v320 v322 g317) rfl ?_
          rintro _ _ g324 ⟨rfl, ft323, t323, rfl, ht323, zt323⟩ kt323
          replace kt323 : -2147483648 ≤ t323 ∧ t323 ≤ 2147483647 := kt323
          replace ht323 : -7 ≤ t323 ∧ t323 ≤ 9 := ht323
          have li325 : jLI g324 := jLI_fr (ft323 176 0 (by unfold w_X12_growth; omega)) (ft323 0 0 (by unfold w_X12_growth; omega)) (fun t => ft323 87 t (by unfold w_X12_growth; omega)) li318
          have dli325 : g324 176 0 ≤ 2000 := li325.1
          show jGo E l 179 0 229 _ 1410 [.inr (.inr (.inl (-2))), .inr (.inr (.inl 0)), .inr (.inr (.inl 176)), .inl x3] [] 229 jr0 g324
          refine jGo_blk qL_law_1410 ?_
          have e326 : jw32 (x3 + 6) = x3 + 6 := j32e (by omega) (by omega)
          show jGo E l 179 0 229 _ 18 [.inr (.inr (.inl (-2))), .inr (.inr (.inl 0)), .inr (.inr (.inl 176)), .inl (jw32 (x3 + 6))] [] 229 jr0 g324
          exact ih (jw32 (x3 + 6)) g324 (by omega) li325 (by omega)
        · replace c6 : jand v4 63 = 19 := c6
          show jGo E l 179 0 229 _ 899 [.inr (.inr (.inl (-2))), .inr (.inr (.inl 0)), .inr (.inr (.inl 176)), .inl x3] [] 229 jr0 g
          refine jGo_blk qL_law_899 ?_
          have e327 : jw32 (x3 + 1) = x3 + 1 := j32e (by omega) (by omega)
          refine st_xi (N := E.2.2.2.2.1) (by decide) (by decide) rfl (show 0 ≤ jw32 (x3 + 1) by omega) (show jw32 (x3 + 1) < ((E.2.2.2.2.1 : Nat) : Int) by omega) (fun v328 ev328 => ?_)
          replace ev328 : v328 = jxv E (-2) (jw32 (x3 + 1)) := ev328
          have e329 : jw32 (x3 + 2) = x3 + 2 := j32e (by omega) (by omega)
          refine st_xi (N := E.2.2.2.2.1) (by decide) (by decide) rfl (show 0 ≤ jw32 (x3 + 2) by omega) (show jw32 (x3 + 2) < ((E.2.2.2.2.1 : Nat) : Int) by omega) (fun v330 ev330 => ?_)
          replace ev330 : v330 = jxv E (-2) (jw32 (x3 + 2)) := ev330
          have e331 : jw32 (x3 + 3) = x3 + 3 := j32e (by omega) (by omega)
          refine st_xi (N := E.2.2.2.2.1) (by decide) (by decide) rfl (show 0 ≤ jw32 (x3 + 3) by omega) (show jw32 (x3 + 3) < ((E.2.2.2.2.1 : Nat) : Int) by omega) (fun v332 ev332 => ?_)
          replace ev332 : v332 = jxv E (-2) (jw32 (x3 + 3)) := ev332
          refine st_cv (na := 3) (st := [.inl v332, .inl v330, .inl v328, .inr (.inr (.inl 0))]) jo_0 rfl rfl rfl (c_X11_tree v328 v330 v332 g) rfl ?_
          rintro _ _ g334 ⟨rfl, ft333, t333, rfl, ht333, zt333⟩ kt333
          replace kt333 : -2147483648 ≤ t333 ∧ t333 ≤ 2147483647 := kt333
          replace ht333 : -7 ≤ t333 ∧ t333 ≤ 39 := ht333
          replace zt333 : ∀ t : Int, g334 87 t = g 87 t ∨ (1 ≤ g334 87 t ∧ g334 87 t ≤ 500) := zt333
          have li335 : jLI g334 := ⟨by rw [(ft333 176 0 (by unfold w_X11_tree; omega))]; exact li.1, jLG_tree (ft333 0 0 (by unfold w_X11_tree; omega)) zt333 li.2⟩
          have dli335 : g334 176 0 ≤ 2000 := li335.1
          clear zt333
          have e336 : jw32 (x3 + 1) = x3 + 1 := j32e (by omega) (by omega)
          refine st_xi (N := E.2.2.2.2.1) (by decide) (by decide) rfl (show 0 ≤ jw32 (x3 + 1) by omega) (show jw32 (x3 + 1) < ((E.2.2.2.2.1 : Nat) : Int) by omega) (fun v337 ev337 => ?_)
          replace ev337 : v337 = jxv E (-2) (jw32 (x3 + 1)) := ev337
          have e338 : jw32 (x3 + 2) = x3 + 2 := j32e (by omega) (by omega)
          refine st_xi (N := E.2.2.2.2.1) (by decide) (by decide) rfl (show 0 ≤ jw32 (x3 + 2) by omega) (show jw32 (x3 + 2) < ((E.2.2.2.2.1 : Nat) : Int) by omega) (fun v339 ev339 => ?_)
          replace ev339 : v339 = jxv E (-2) (jw32 (x3 + 2)) := ev339
          have e340 : jw32 (x3 + 3) = x3 + 3 := j32e (by omega) (by omega)
          refine st_xi (N := E.2.2.2.2.1) (by decide) (by decide) rfl (show 0 ≤ jw32 (x3 + 3) by omega) (show jw32 (x3 + 3) < ((E.2.2.2.2.1 : Nat) : Int) by omega) (fun v341 ev341 => ?_)
          replace ev341 : v341 = jxv E (-2) (jw32 (x3 + 3)) := ev341
          refine st_cv (na := 3) (st := [.inl v341, .inl v339, .inl v337, .inr (.inr (.inl 176))]) jo_176 rfl rfl rfl (c_X12_tree v337 v339 v341 g334) rfl ?_
          rintro _ _ g343 ⟨rfl, ft342, t342, rfl, ht342, zt342⟩ kt342
          replace kt342 : -2147483648 ≤ t342 ∧ t342 ≤ 2147483647 := kt342
          replace ht342 : -7 ≤ t342 ∧ t342 ≤ 39 := ht342
          have li344 : jLI g343 := jLI_fr (ft342 176 0 (by unfold w_X12_tree; omega)) (ft342 0 0 (by unfold w_X12_tree; omega)) (fun t => ft342 87 t (by unfold w_X12_tree; omega)) li335
          have dli344 : g343 176 0 ≤ 2000 := li344.1
          show jGo E l 179 0 229 _ 1410 [.inr (.inr (.inl (-2))), .inr (.inr (.inl 0)), .inr (.inr (.inl 176)), .inl x3] [] 229 jr0 g343
          refine jGo_blk qL_law_1410 ?_
          have e345 : jw32 (x3 + 6) = x3 + 6 := j32e (by omega) (by omega)
          show jGo E l 179 0 229 _ 18 [.inr (.inr (.inl (-2))), .inr (.inr (.inl 0)), .inr (.inr (.inl 176)), .inl (jw32 (x3 + 6))] [] 229 jr0 g343
          exact ih (jw32 (x3 + 6)) g343 (by omega) li344 (by omega)
        · replace c6 : jand v4 63 = 20 := c6
          show jGo E l 179 0 229 _ 942 [.inr (.inr (.inl (-2))), .inr (.inr (.inl 0)), .inr (.inr (.inl 176)), .inl x3] [] 229 jr0 g
          refine jGo_blk qL_law_942 ?_
          have e346 : jw32 (x3 + 1) = x3 + 1 := j32e (by omega) (by omega)
          refine st_xi (N := E.2.2.2.2.1) (by decide) (by decide) rfl (show 0 ≤ jw32 (x3 + 1) by omega) (show jw32 (x3 + 1) < ((E.2.2.2.2.1 : Nat) : Int) by omega) (fun v347 ev347 => ?_)
          replace ev347 : v347 = jxv E (-2) (jw32 (x3 + 1)) := ev347
          have e348 : jw32 (x3 + 2) = x3 + 2 := j32e (by omega) (by omega)
          refine st_xi (N := E.2.2.2.2.1) (by decide) (by decide) rfl (show 0 ≤ jw32 (x3 + 2) by omega) (show jw32 (x3 + 2) < ((E.2.2.2.2.1 : Nat) : Int) by omega) (fun v349 ev349 => ?_)
          replace ev349 : v349 = jxv E (-2) (jw32 (x3 + 2)) := ev349
          have e350 : jw32 (x3 + 3) = x3 + 3 := j32e (by omega) (by omega)
          refine st_xi (N := E.2.2.2.2.1) (by decide) (by decide) rfl (show 0 ≤ jw32 (x3 + 3) by omega) (show jw32 (x3 + 3) < ((E.2.2.2.2.1 : Nat) : Int) by omega) (fun v351 ev351 => ?_)
          replace ev351 : v351 = jxv E (-2) (jw32 (x3 + 3)) := ev351
          have e352 : jw32 (x3 + 4) = x3 + 4 := j32e (by omega) (by omega)
          refine st_xi (N := E.2.2.2.2.1) (by decide) (by decide) rfl (show 0 ≤ jw32 (x3 + 4) by omega) (show jw32 (x3 + 4) < ((E.2.2.2.2.1 : Nat) : Int) by omega) (fun v353 ev353 => ?_)
          replace ev353 : v353 = jxv E (-2) (jw32 (x3 + 4)) := ev353
          have e354 : jw32 (x3 + 5) = x3 + 5 := j32e (by omega) (by omega)
          refine st_xi (N := E.2.2.2.2.1) (by decide) (by decide) rfl (show 0 ≤ jw32 (x3 + 5) by omega) (show jw32 (x3 + 5) < ((E.2.2.2.2.1 : Nat) : Int) by omega) (fun v355 ev355 => ?_)
          replace ev355 : v355 = jxv E (-2) (jw32 (x3 + 5)) := ev355
          refine st_cv (na := 5) (st := [.inl v355, .inl v353, .inl v351, .inl v349, .inl v347, .inr (.inr (.inl 0))]) jo_0 rfl rfl rfl (c_X11_part v347 v349 v351 v353 v355 g) rfl ?_
          rintro _ _ g357 ⟨rfl, ft356, t356, rfl, ht356, zt356⟩ kt356
          replace kt356 : -2147483648 ≤ t356 ∧ t356 ≤ 2147483647 := kt356
          replace ht356 : -7 ≤ t356 ∧ t356 ≤ 5 := ht356
          have li358 : jLI g357 := jLI_fr (ft356 176 0 (by unfold w_X11_part; omega)) (ft356 0 0 (by unfold w_X11_part; omega)) (fun t => ft356 87 t (by unfold w_X11_part; omega)) li
          have dli358 : g357 176 0 ≤ 2000 := li358.1
          have e359 : jw32 (x3 + 1) = x3 + 1 := j32e (by omega) (by omega)
          refine st_xi (N := E.2.2.2.2.1) (by decide) (by decide) rfl (show 0 ≤ jw32 (x3 + 1) by omega) (show jw32 (x3 + 1) < ((E.2.2.2.2.1 : Nat) : Int) by omega) (fun v360 ev360 => ?_)
          replace ev360 : v360 = jxv E (-2) (jw32 (x3 + 1)) := ev360
          have e361 : jw32 (x3 + 2) = x3 + 2 := j32e (by omega) (by omega)
          refine st_xi (N := E.2.2.2.2.1) (by decide) (by decide) rfl (show 0 ≤ jw32 (x3 + 2) by omega) (show jw32 (x3 + 2) < ((E.2.2.2.2.1 : Nat) : Int) by omega) (fun v362 ev362 => ?_)
          replace ev362 : v362 = jxv E (-2) (jw32 (x3 + 2)) := ev362
          have e363 : jw32 (x3 + 3) = x3 + 3 := j32e (by omega) (by omega)
          refine st_xi (N := E.2.2.2.2.1) (by decide) (by decide) rfl (show 0 ≤ jw32 (x3 + 3) by omega) (show jw32 (x3 + 3) < ((E.2.2.2.2.1 : Nat) : Int) by omega) (fun v364 ev364 => ?_)
          replace ev364 : v364 = jxv E (-2) (jw32 (x3 + 3)) := ev364
          have e365 : jw32 (x3 + 4) = x3 + 4 := j32e (by omega) (by omega)
          refine st_xi (N := E.2.2.2.2.1) (by decide) (by decide) rfl (show 0 ≤ jw32 (x3 + 4) by omega) (show jw32 (x3 + 4) < ((E.2.2.2.2.1 : Nat) : Int) by omega) (fun v366 ev366 => ?_)
          replace ev366 : v366 = jxv E (-2) (jw32 (x3 + 4)) := ev366
          have e367 : jw32 (x3 + 5) = x3 + 5 := j32e (by omega) (by omega)
          refine st_xi (N := E.2.2.2.2.1) (by decide) (by decide) rfl (show 0 ≤ jw32 (x3 + 5) by omega) (show jw32 (x3 + 5) < ((E.2.2.2.2.1 : Nat) : Int) by omega) (fun v368 ev368 => ?_)
          replace ev368 : v368 = jxv E (-2) (jw32 (x3 + 5)) := ev368
          refine st_cv (na := 5) (st := [.inl v368, .inl v366, .inl v364, .inl v362, .inl v360, .inr (.inr (.inl 176))]) jo_176 rfl rfl rfl (c_X12_part v360 v362 v364 v366 v368 g357) rfl ?_
          rintro _ _ g370 ⟨rfl, ft369, t369, rfl, ht369, zt369⟩ kt369
          replace kt369 : -2147483648 ≤ t369 ∧ t369 ≤ 2147483647 := kt369
          replace ht369 : -7 ≤ t369 ∧ t369 ≤ 5 := ht369
          have li371 : jLI g370 := jLI_fr (ft369 176 0 (by unfold w_X12_part; omega)) (ft369 0 0 (by unfold w_X12_part; omega)) (fun t => ft369 87 t (by unfold w_X12_part; omega)) li358
          have dli371 : g370 176 0 ≤ 2000 := li371.1
          show jGo E l 179 0 229 _ 1410 [.inr (.inr (.inl (-2))), .inr (.inr (.inl 0)), .inr (.inr (.inl 176)), .inl x3] [] 229 jr0 g370
          refine jGo_blk qL_law_1410 ?_
          have e372 : jw32 (x3 + 6) = x3 + 6 := j32e (by omega) (by omega)
          show jGo E l 179 0 229 _ 18 [.inr (.inr (.inl (-2))), .inr (.inr (.inl 0)), .inr (.inr (.inl 176)), .inl (jw32 (x3 + 6))] [] 229 jr0 g370
          exact ih (jw32 (x3 + 6)) g370 (by omega) li371 (by omega)
        · replace c6 : jand v4 63 = 21 := c6
          show jGo E l 179 0 229 _ 1005 [.inr (.inr (.inl (-2))), .inr (.inr (.inl 0)), .inr (.inr (.inl 176)), .inl x3] [] 229 jr0 g
          refine jGo_blk qL_law_1005 ?_
          have e373 : jw32 (x3 + 1) = x3 + 1 := j32e (by omega) (by omega)
          refine st_xi (N := E.2.2.2.2.1) (by decide) (by decide) rfl (show 0 ≤ jw32 (x3 + 1) by omega) (show jw32 (x3 + 1) < ((E.2.2.2.2.1 : Nat) : Int) by omega) (fun v374 ev374 => ?_)
          replace ev374 : v374 = jxv E (-2) (jw32 (x3 + 1)) := ev374
          have e375 : jw32 (x3 + 2) = x3 + 2 := j32e (by omega) (by omega)
          refine st_xi (N := E.2.2.2.2.1) (by decide) (by decide) rfl (show 0 ≤ jw32 (x3 + 2) by omega) (show jw32 (x3 + 2) < ((E.2.2.2.2.1 : Nat) : Int) by omega) (fun v376 ev376 => ?_)
          replace ev376 : v376 = jxv E (-2) (jw32 (x3 + 2)) := ev376
          refine st_cv (na := 2) (st := [.inl v376, .inl v374, .inr (.inr (.inl 0))]) jo_0 rfl rfl rfl (c_X11_match v374 v376 g (jLG_ok li.2)) rfl ?_
          rintro _ _ g378 ⟨rfl, ft377, t377, rfl, ht377, zt377⟩ kt377
          replace kt377 : -2147483648 ≤ t377 ∧ t377 ≤ 2147483647 := kt377
          have li379 : jLI g378 := jLI_fr (ft377 176 0 (by unfold w_X11_match; omega)) (ft377 0 0 (by unfold w_X11_match; omega)) (fun t => ft377 87 t (by unfold w_X11_match; omega)) li
          have dli379 : g378 176 0 ≤ 2000 := li379.1
          have e380 : jw32 (x3 + 1) = x3 + 1 := j32e (by omega) (by omega)
          refine st_xi (N := E.2.2.2.2.1) (by decide) (by decide) rfl (show 0 ≤ jw32 (x3 + 1) by omega) (show jw32 (x3 + 1) < ((E.2.2.2.2.1 : Nat) : Int) by omega) (fun v381 ev381 => ?_)
          replace ev381 : v381 = jxv E (-2) (jw32 (x3 + 1)) := ev381
          have e382 : jw32 (x3 + 2) = x3 + 2 := j32e (by omega) (by omega)
          refine st_xi (N := E.2.2.2.2.1) (by decide) (by decide) rfl (show 0 ≤ jw32 (x3 + 2) by omega) (show jw32 (x3 + 2) < ((E.2.2.2.2.1 : Nat) : Int) by omega) (fun v383 ev383 => ?_)
          replace ev383 : v383 = jxv E (-2) (jw32 (x3 + 2)) := ev383
          refine st_cv (na := 2) (st := [.inl v383, .inl v381, .inr (.inr (.inl 176))]) jo_176 rfl rfl rfl (c_X12_match v381 v383 g378) rfl ?_
          rintro _ _ g385 ⟨rfl, ft384, t384, rfl, ht384, zt384⟩ kt384
          replace kt384 : -2147483648 ≤ t384 ∧ t384 ≤ 2147483647 := kt384
          have li386 : jLI g385 := jLI_fr (ft384 176 0 (by unfold w_X12_match; omega)) (ft384 0 0 (by unfold w_X12_match; omega)) (fun t => ft384 87 t (by unfold w_X12_match; omega)) li379
          have dli386 : g385 176 0 ≤ 2000 := li386.1
          show jGo E l 179 0 229 _ 1410 [.inr (.inr (.inl (-2))), .inr (.inr (.inl 0)), .inr (.inr (.inl 176)), .inl x3] [] 229 jr0 g385
          refine jGo_blk qL_law_1410 ?_
          have e387 : jw32 (x3 + 6) = x3 + 6 := j32e (by omega) (by omega)
          show jGo E l 179 0 229 _ 18 [.inr (.inr (.inl (-2))), .inr (.inr (.inl 0)), .inr (.inr (.inl 176)), .inl (jw32 (x3 + 6))] [] 229 jr0 g385
          exact ih (jw32 (x3 + 6)) g385 (by omega) li386 (by omega)
        · replace c6 : jand v4 63 = 22 := c6
          show jGo E l 179 0 229 _ 1038 [.inr (.inr (.inl (-2))), .inr (.inr (.inl 0)), .inr (.inr (.inl 176)), .inl x3] [] 229 jr0 g
          refine jGo_blk qL_law_1038 ?_
          have e388 : jw32 (x3 + 1) = x3 + 1 := j32e (by omega) (by omega)
          refine st_xi (N := E.2.2.2.2.1) (by decide) (by decide) rfl (show 0 ≤ jw32 (x3 + 1) by omega) (show jw32 (x3 + 1) < ((E.2.2.2.2.1 : Nat) : Int) by omega) (fun v389 ev389 => ?_)
          replace ev389 : v389 = jxv E (-2) (jw32 (x3 + 1)) := ev389
          refine st_cv (na := 1) (st := [.inl v389, .inr (.inr (.inl 0))]) jo_0 rfl rfl rfl (c_X11_fell v389 g (jLG_ok li.2)) rfl ?_
          rintro _ _ g391 ⟨rfl, ft390, t390, rfl, ht390, zt390⟩ kt390
          replace kt390 : -2147483648 ≤ t390 ∧ t390 ≤ 2147483647 := kt390
          have li392 : jLI g391 := jLI_fr (ft390 176 0 (by unfold w_X11_fell; omega)) (ft390 0 0 (by unfold w_X11_fell; omega)) (fun t => ft390 87 t (by unfold w_X11_fell; omega)) li
          have dli392 : g391 176 0 ≤ 2000 := li392.1
          have e393 : jw32 (x3 + 1) = x3 + 1 := j32e (by omega) (by omega)
          refine st_xi (N := E.2.2.2.2.1) (by decide) (by decide) rfl (show 0 ≤ jw32 (x3 + 1) by omega) (show jw32 (x3 + 1) < ((E.2.2.2.2.1 : Nat) : Int) by omega) (fun v394 ev394 => ?_)
          replace ev394 : v394 = jxv E (-2) (jw32 (x3 + 1)) := ev394
          refine st_cv (na := 1) (st := [.inl v394, .inr (.inr (.inl 176))]) jo_176 rfl rfl rfl (c_X12_fell v394 g391) rfl ?_
          rintro _ _ g396 ⟨rfl, ft395, t395, rfl, ht395, zt395⟩ kt395
          replace kt395 : -2147483648 ≤ t395 ∧ t395 ≤ 2147483647 := kt395
          have li397 : jLI g396 := jLI_fr (ft395 176 0 (by unfold w_X12_fell; omega)) (ft395 0 0 (by unfold w_X12_fell; omega)) (fun t => ft395 87 t (by unfold w_X12_fell; omega)) li392
          have dli397 : g396 176 0 ≤ 2000 := li397.1
          show jGo E l 179 0 229 _ 1410 [.inr (.inr (.inl (-2))), .inr (.inr (.inl 0)), .inr (.inr (.inl 176)), .inl x3] [] 229 jr0 g396
          refine jGo_blk qL_law_1410 ?_
          have e398 : jw32 (x3 + 6) = x3 + 6 := j32e (by omega) (by omega)
          show jGo E l 179 0 229 _ 18 [.inr (.inr (.inl (-2))), .inr (.inr (.inl 0)), .inr (.inr (.inl 176)), .inl (jw32 (x3 + 6))] [] 229 jr0 g396
          exact ih (jw32 (x3 + 6)) g396 (by omega) li397 (by omega)
        · replace c6 : jand v4 63 = 23 := c6
          show jGo E l 179 0 229 _ 1061 [.inr (.inr (.inl (-2))), .inr (.inr (.inl 0)), .inr (.inr (.inl 176)), .inl x3] [] 229 jr0 g
          refine jGo_blk qL_law_1061 ?_
          have e399 : jw32 (x3 + 1) = x3 + 1 := j32e (by omega) (by omega)
          refine st_xi (N := E.2.2.2.2.1) (by decide) (by decide) rfl (show 0 ≤ jw32 (x3 + 1) by omega) (show jw32 (x3 + 1) < ((E.2.2.2.2.1 : Nat) : Int) by omega) (fun v400 ev400 => ?_)
          replace ev400 : v400 = jxv E (-2) (jw32 (x3 + 1)) := ev400
          have e401 : jw32 (x3 + 2) = x3 + 2 := j32e (by omega) (by omega)
          refine st_xi (N := E.2.2.2.2.1) (by decide) (by decide) rfl (show 0 ≤ jw32 (x3 + 2) by omega) (show jw32 (x3 + 2) < ((E.2.2.2.2.1 : Nat) : Int) by omega) (fun v402 ev402 => ?_)
          replace ev402 : v402 = jxv E (-2) (jw32 (x3 + 2)) := ev402
          refine st_cv (na := 2) (st := [.inl v402, .inl v400, .inr (.inr (.inl 0))]) jo_0 rfl rfl rfl (c_X11_treeFor v400 v402 g) rfl ?_
          rintro _ _ g404 ⟨rfl, ft403, t403, rfl, ht403, zt403⟩ kt403
          replace kt403 : -2147483648 ≤ t403 ∧ t403 ≤ 2147483647 := kt403
          replace ht403 : -9 ≤ t403 ∧ t403 ≤ 39 := ht403
          have li405 : jLI g404 := jLI_fr (ft403 176 0 (by unfold w_X11_treeFor; omega)) (ft403 0 0 (by unfold w_X11_treeFor; omega)) (fun t => ft403 87 t (by unfold w_X11_treeFor; omega)) li
          have dli405 : g404 176 0 ≤ 2000 := li405.1
          have e406 : jw32 (x3 + 1) = x3 + 1 := j32e (by omega) (by omega)
          refine st_xi (N := E.2.2.2.2.1) (by decide) (by decide) rfl (show 0 ≤ jw32 (x3 + 1) by omega) (show jw32 (x3 + 1) < ((E.2.2.2.2.1 : Nat) : Int) by omega) (fun v407 ev407 => ?_)
          replace ev407 : v407 = jxv E (-2) (jw32 (x3 + 1)) := ev407
          have e408 : jw32 (x3 + 2) = x3 + 2 := j32e (by omega) (by omega)
          refine st_xi (N := E.2.2.2.2.1) (by decide) (by decide) rfl (show 0 ≤ jw32 (x3 + 2) by omega) (show jw32 (x3 + 2) < ((E.2.2.2.2.1 : Nat) : Int) by omega) (fun v409 ev409 => ?_)
          replace ev409 : v409 = jxv E (-2) (jw32 (x3 + 2)) := ev409
          refine st_cv (na := 2) (st := [.inl v409, .inl v407, .inr (.inr (.inl 176))]) jo_176 rfl rfl rfl (c_X12_treeFor v407 v409 g404) rfl ?_
          rintro _ _ g411 ⟨rfl, ft410, t410, rfl, ht410, zt410⟩ kt410
          replace kt410 : -2147483648 ≤ t410 ∧ t410 ≤ 2147483647 := kt410
          replace ht410 : -9 ≤ t410 ∧ t410 ≤ 39 := ht410
          have li412 : jLI g411 := jLI_fr (ft410 176 0 (by unfold w_X12_treeFor; omega)) (ft410 0 0 (by unfold w_X12_treeFor; omega)) (fun t => ft410 87 t (by unfold w_X12_treeFor; omega)) li405
          have dli412 : g411 176 0 ≤ 2000 := li412.1
          show jGo E l 179 0 229 _ 1410 [.inr (.inr (.inl (-2))), .inr (.inr (.inl 0)), .inr (.inr (.inl 176)), .inl x3] [] 229 jr0 g411
          refine jGo_blk qL_law_1410 ?_
          have e413 : jw32 (x3 + 6) = x3 + 6 := j32e (by omega) (by omega)
          show jGo E l 179 0 229 _ 18 [.inr (.inr (.inl (-2))), .inr (.inr (.inl 0)), .inr (.inr (.inl 176)), .inl (jw32 (x3 + 6))] [] 229 jr0 g411
          exact ih (jw32 (x3 + 6)) g411 (by omega) li412 (by omega)
        · replace c6 : jand v4 63 = 24 := c6
          show jGo E l 179 0 229 _ 1094 [.inr (.inr (.inl (-2))), .inr (.inr (.inl 0)), .inr (.inr (.inl 176)), .inl x3] [] 229 jr0 g
          refine jGo_blk qL_law_1094 ?_
          have e414 : jw32 (x3 + 1) = x3 + 1 := j32e (by omega) (by omega)
          refine st_xi (N := E.2.2.2.2.1) (by decide) (by decide) rfl (show 0 ≤ jw32 (x3 + 1) by omega) (show jw32 (x3 + 1) < ((E.2.2.2.2.1 : Nat) : Int) by omega) (fun v415 ev415 => ?_)
          replace ev415 : v415 = jxv E (-2) (jw32 (x3 + 1)) := ev415
          have e416 : jw32 (x3 + 2) = x3 + 2 := j32e (by omega) (by omega)
          refine st_xi (N := E.2.2.2.2.1) (by decide) (by decide) rfl (show 0 ≤ jw32 (x3 + 2) by omega) (show jw32 (x3 + 2) < ((E.2.2.2.2.1 : Nat) : Int) by omega) (fun v417 ev417 => ?_)
          replace ev417 : v417 = jxv E (-2) (jw32 (x3 + 2)) := ev417
          refine st_cv (na := 2) (st := [.inl v417, .inl v415, .inr (.inr (.inl 0))]) jo_0 rfl rfl rfl (c_X11_treeOf v415 v417 g) rfl ?_
          rintro _ _ g419 ⟨rfl, ft418, t418, rfl, ht418, zt418⟩ kt418
          replace kt418 : -2147483648 ≤ t418 ∧ t418 ≤ 2147483647 := kt418
          have li420 : jLI g419 := jLI_fr (ft418 176 0 (by unfold w_X11_treeOf; omega)) (ft418 0 0 (by unfold w_X11_treeOf; omega)) (fun t => ft418 87 t (by unfold w_X11_treeOf; omega)) li
          have dli420 : g419 176 0 ≤ 2000 := li420.1
          have e421 : jw32 (x3 + 1) = x3 + 1 := j32e (by omega) (by omega)
          refine st_xi (N := E.2.2.2.2.1) (by decide) (by decide) rfl (show 0 ≤ jw32 (x3 + 1) by omega) (show jw32 (x3 + 1) < ((E.2.2.2.2.1 : Nat) : Int) by omega) (fun v422 ev422 => ?_)
          replace ev422 : v422 = jxv E (-2) (jw32 (x3 + 1)) := ev422
          have e423 : jw32 (x3 + 2) = x3 + 2 := j32e (by omega) (by omega)
          refine st_xi (N := E.2.2.2.2.1) (by decide) (by decide) rfl (show 0 ≤ jw32 (x3 + 2) by omega) (show jw32 (x3 + 2) < ((E.2.2.2.2.1 : Nat) : Int) by omega) (fun v424 ev424 => ?_)
          replace ev424 : v424 = jxv E (-2) (jw32 (x3 + 2)) := ev424
          refine st_cv (na := 2) (st := [.inl v424, .inl v422, .inr (.inr (.inl 176))]) jo_176 rfl rfl rfl (c_X12_treeOf v422 v424 g419) rfl ?_
          rintro _ _ g426 ⟨rfl, ft425, t425, rfl, ht425, zt425⟩ kt425
          replace kt425 : -2147483648 ≤ t425 ∧ t425 ≤ 2147483647 := kt425
          have li427 : jLI g426 := jLI_fr (ft425 176 0 (by unfold w_X12_treeOf; omega)) (ft425 0 0 (by unfold w_X12_treeOf; omega)) (fun t => ft425 87 t (by unfold w_X12_treeOf; omega)) li420
          have dli427 : g426 176 0 ≤ 2000 := li427.1
          show jGo E l 179 0 229 _ 1410 [.inr (.inr (.inl (-2))), .inr (.inr (.inl 0)), .inr (.inr (.inl 176)), .inl x3] [] 229 jr0 g426
          refine jGo_blk qL_law_1410 ?_
          have e428 : jw32 (x3 + 6) = x3 + 6 := j32e (by omega) (by omega)
          show jGo E l 179 0 229 _ 18 [.inr (.inr (.inl (-2))), .inr (.inr (.inl 0)), .inr (.inr (.inl 176)), .inl (jw32 (x3 + 6))] [] 229 jr0 g426
          exact ih (jw32 (x3 + 6)) g426 (by omega) li427 (by omega)
        · replace c6 : jand v4 63 = 25 := c6
          show jGo E l 179 0 229 _ 1127 [.inr (.inr (.inl (-2))), .inr (.inr (.inl 0)), .inr (.inr (.inl 176)), .inl x3] [] 229 jr0 g
          refine jGo_blk qL_law_1127 ?_
          have e429 : jw32 (x3 + 1) = x3 + 1 := j32e (by omega) (by omega)
          refine st_xi (N := E.2.2.2.2.1) (by decide) (by decide) rfl (show 0 ≤ jw32 (x3 + 1) by omega) (show jw32 (x3 + 1) < ((E.2.2.2.2.1 : Nat) : Int) by omega) (fun v430 ev430 => ?_)
          replace ev430 : v430 = jxv E (-2) (jw32 (x3 + 1)) := ev430
          have e431 : jw32 (x3 + 2) = x3 + 2 := j32e (by omega) (by omega)
          refine st_xi (N := E.2.2.2.2.1) (by decide) (by decide) rfl (show 0 ≤ jw32 (x3 + 2) by omega) (show jw32 (x3 + 2) < ((E.2.2.2.2.1 : Nat) : Int) by omega) (fun v432 ev432 => ?_)
          replace ev432 : v432 = jxv E (-2) (jw32 (x3 + 2)) := ev432
          refine st_cv (na := 2) (st := [.inl v432, .inl v430, .inr (.inr (.inl 0))]) jo_0 rfl rfl rfl (c_X11_count v430 v432 g) rfl ?_
          rintro _ _ g434 ⟨rfl, ft433, t433, rfl, ht433, zt433⟩ kt433
          replace kt433 : -2147483648 ≤ t433 ∧ t433 ≤ 2147483647 := kt433
          have li435 : jLI g434 := jLI_fr (ft433 176 0 (by unfold w_X11_count; omega)) (ft433 0 0 (by unfold w_X11_count; omega)) (fun t => ft433 87 t (by unfold w_X11_count; omega)) li
          have dli435 : g434 176 0 ≤ 2000 := li435.1
          have e436 : jw32 (x3 + 1) = x3 + 1 := j32e (by omega) (by omega)
          refine st_xi (N := E.2.2.2.2.1) (by decide) (by decide) rfl (show 0 ≤ jw32 (x3 + 1) by omega) (show jw32 (x3 + 1) < ((E.2.2.2.2.1 : Nat) : Int) by omega) (fun v437 ev437 => ?_)
          replace ev437 : v437 = jxv E (-2) (jw32 (x3 + 1)) := ev437
          have e438 : jw32 (x3 + 2) = x3 + 2 := j32e (by omega) (by omega)
          refine st_xi (N := E.2.2.2.2.1) (by decide) (by decide) rfl (show 0 ≤ jw32 (x3 + 2) by omega) (show jw32 (x3 + 2) < ((E.2.2.2.2.1 : Nat) : Int) by omega) (fun v439 ev439 => ?_)
          replace ev439 : v439 = jxv E (-2) (jw32 (x3 + 2)) := ev439
          have e440 : g434 176 0 = g 176 0 := ft433 176 0 (by unfold w_X11_count; omega)
          refine st_cv (na := 2) (st := [.inl v439, .inl v437, .inr (.inr (.inl 176))]) jo_176 rfl rfl rfl (c_X12_count v437 v439 g434 (by omega)) rfl ?_
          rintro _ _ g442 ⟨rfl, ft441, t441, rfl, ht441, zt441⟩ kt441
          replace kt441 : -2147483648 ≤ t441 ∧ t441 ≤ 2147483647 := kt441
          have li443 : jLI g442 := jLI_fr (ft441 176 0 (by unfold w_X12_count; omega)) (ft441 0 0 (by unfold w_X12_count; omega)) (fun t => ft441 87 t (by unfold w_X12_count; omega)) li435
          have dli443 : g442 176 0 ≤ 2000 := li443.1
          show jGo E l 179 0 229 _ 1410 [.inr (.inr (.inl (-2))), .inr (.inr (.inl 0)), .inr (.inr (.inl 176)), .inl x3] [] 229 jr0 g442
          refine jGo_blk qL_law_1410 ?_
          have e444 : jw32 (x3 + 6) = x3 + 6 := j32e (by omega) (by omega)
          show jGo E l 179 0 229 _ 18 [.inr (.inr (.inl (-2))), .inr (.inr (.inl 0)), .inr (.inr (.inl 176)), .inl (jw32 (x3 + 6))] [] 229 jr0 g442
          exact ih (jw32 (x3 + 6)) g442 (by omega) li443 (by omega)
        · replace c6 : jand v4 63 = 26 := c6
          show jGo E l 179 0 229 _ 1160 [.inr (.inr (.inl (-2))), .inr (.inr (.inl 0)), .inr (.inr (.inl 176)), .inl x3] [] 229 jr0 g
          refine jGo_blk qL_law_1160 ?_
          have e445 : jw32 (x3 + 1) = x3 + 1 := j32e (by omega) (by omega)
          refine st_xi (N := E.2.2.2.2.1) (by decide) (by decide) rfl (show 0 ≤ jw32 (x3 + 1) by omega) (show jw32 (x3 + 1) < ((E.2.2.2.2.1 : Nat) : Int) by omega) (fun v446 ev446 => ?_)
          replace ev446 : v446 = jxv E (-2) (jw32 (x3 + 1)) := ev446
          have e447 : jw32 (x3 + 2) = x3 + 2 := j32e (by omega) (by omega)
          refine st_xi (N := E.2.2.2.2.1) (by decide) (by decide) rfl (show 0 ≤ jw32 (x3 + 2) by omega) (show jw32 (x3 + 2) < ((E.2.2.2.2.1 : Nat) : Int) by omega) (fun v448 ev448 => ?_)
          replace ev448 : v448 = jxv E (-2) (jw32 (x3 + 2)) := ev448
          refine st_cv (na := 2) (st := [.inl v448, .inl v446, .inr (.inr (.inl 0))]) jo_0 rfl rfl rfl (c_X11_gap v446 v448 g) rfl ?_
          rintro _ _ g450 ⟨rfl, ft449, t449, rfl, ht449, zt449⟩ kt449
          replace kt449 : -2147483648 ≤ t449 ∧ t449 ≤ 2147483647 := kt449
          have li451 : jLI g450 := jLI_fr (ft449 176 0 (by unfold w_X11_gap; omega)) (ft449 0 0 (by unfold w_X11_gap; omega)) (fun t => ft449 87 t (by unfold w_X11_gap; omega)) li
          have dli451 : g450 176 0 ≤ 2000 := li451.1
          have e452 : jw32 (x3 + 1) = x3 + 1 := j32e (by omega) (by omega)
          refine st_xi (N := E.2.2.2.2.1) (by decide) (by decide) rfl (show 0 ≤ jw32 (x3 + 1) by omega) (show jw32 (x3 + 1) < ((E.2.2.2.2.1 : Nat) : Int) by omega) (fun v453 ev453 => ?_)
          replace ev453 : v453 = jxv E (-2) (jw32 (x3 + 1)) := ev453
          have e454 : jw32 (x3 + 2) = x3 + 2 := j32e (by omega) (by omega)
          refine st_xi (N := E.2.2.2.2.1) (by decide) (by decide) rfl (show 0 ≤ jw32 (x3 + 2) by omega) (show jw32 (x3 + 2) < ((E.2.2.2.2.1 : Nat) : Int) by omega) (fun v455 ev455 => ?_)
          replace ev455 : v455 = jxv E (-2) (jw32 (x3 + 2)) := ev455
          refine st_cv (na := 2) (st := [.inl v455, .inl v453, .inr (.inr (.inl 176))]) jo_176 rfl rfl rfl (c_X12_gap v453 v455 g450) rfl ?_
          rintro _ _ g457 ⟨rfl, ft456, t456, rfl, ht456, zt456⟩ kt456
          replace kt456 : -2147483648 ≤ t456 ∧ t456 ≤ 2147483647 := kt456
          have li458 : jLI g457 := jLI_fr (ft456 176 0 (by unfold w_X12_gap; omega)) (ft456 0 0 (by unfold w_X12_gap; omega)) (fun t => ft456 87 t (by unfold w_X12_gap; omega)) li451
          have dli458 : g457 176 0 ≤ 2000 := li458.1
          show jGo E l 179 0 229 _ 1410 [.inr (.inr (.inl (-2))), .inr (.inr (.inl 0)), .inr (.inr (.inl 176)), .inl x3] [] 229 jr0 g457
          refine jGo_blk qL_law_1410 ?_
          have e459 : jw32 (x3 + 6) = x3 + 6 := j32e (by omega) (by omega)
          show jGo E l 179 0 229 _ 18 [.inr (.inr (.inl (-2))), .inr (.inr (.inl 0)), .inr (.inr (.inl 176)), .inl (jw32 (x3 + 6))] [] 229 jr0 g457
          exact ih (jw32 (x3 + 6)) g457 (by omega) li458 (by omega)
        · replace c6 : jand v4 63 = 27 := c6
          show jGo E l 179 0 229 _ 1193 [.inr (.inr (.inl (-2))), .inr (.inr (.inl 0)), .inr (.inr (.inl 176)), .inl x3] [] 229 jr0 g
          refine jGo_blk qL_law_1193 ?_
          have e460 : jw32 (x3 + 1) = x3 + 1 := j32e (by omega) (by omega)
          refine st_xi (N := E.2.2.2.2.1) (by decide) (by decide) rfl (show 0 ≤ jw32 (x3 + 1) by omega) (show jw32 (x3 + 1) < ((E.2.2.2.2.1 : Nat) : Int) by omega) (fun v461 ev461 => ?_)
          replace ev461 : v461 = jxv E (-2) (jw32 (x3 + 1)) := ev461
          refine st_cv (na := 1) (st := [.inl v461, .inr (.inr (.inl 0))]) jo_0 rfl rfl rfl (c_X11_worst v461 g) rfl ?_
          rintro _ _ g463 ⟨rfl, ft462, t462, rfl, ht462, zt462⟩ kt462
          replace kt462 : -2147483648 ≤ t462 ∧ t462 ≤ 2147483647 := kt462
          replace ht462 : -9 ≤ t462 ∧ t462 ≤ 39 := ht462
          have li464 : jLI g463 := jLI_fr (ft462 176 0 (by unfold w_X11_worst; omega)) (ft462 0 0 (by unfold w_X11_worst; omega)) (fun t => ft462 87 t (by unfold w_X11_worst; omega)) li
          have dli464 : g463 176 0 ≤ 2000 := li464.1
          have e465 : jw32 (x3 + 1) = x3 + 1 := j32e (by omega) (by omega)
          refine st_xi (N := E.2.2.2.2.1) (by decide) (by decide) rfl (show 0 ≤ jw32 (x3 + 1) by omega) (show jw32 (x3 + 1) < ((E.2.2.2.2.1 : Nat) : Int) by omega) (fun v466 ev466 => ?_)
          replace ev466 : v466 = jxv E (-2) (jw32 (x3 + 1)) := ev466
          refine st_cv (na := 1) (st := [.inl v466, .inr (.inr (.inl 176))]) jo_176 rfl rfl rfl (c_X12_worst v466 g463) rfl ?_
          rintro _ _ g468 ⟨rfl, ft467, t467, rfl, ht467, zt467⟩ kt467
          replace kt467 : -2147483648 ≤ t467 ∧ t467 ≤ 2147483647 := kt467
          replace ht467 : -9 ≤ t467 ∧ t467 ≤ 39 := ht467
          have li469 : jLI g468 := jLI_fr (ft467 176 0 (by unfold w_X12_worst; omega)) (ft467 0 0 (by unfold w_X12_worst; omega)) (fun t => ft467 87 t (by unfold w_X12_worst; omega)) li464
          have dli469 : g468 176 0 ≤ 2000 := li469.1
          show jGo E l 179 0 229 _ 1410 [.inr (.inr (.inl (-2))), .inr (.inr (.inl 0)), .inr (.inr (.inl 176)), .inl x3] [] 229 jr0 g468
          refine jGo_blk qL_law_1410 ?_
          have e470 : jw32 (x3 + 6) = x3 + 6 := j32e (by omega) (by omega)
          show jGo E l 179 0 229 _ 18 [.inr (.inr (.inl (-2))), .inr (.inr (.inl 0)), .inr (.inr (.inl 176)), .inl (jw32 (x3 + 6))] [] 229 jr0 g468
          exact ih (jw32 (x3 + 6)) g468 (by omega) li469 (by omega)
        · replace c6 : jand v4 63 = 28 := c6
          show jGo E l 179 0 229 _ 1216 [.inr (.inr (.inl (-2))), .inr (.inr (.inl 0)), .inr (.inr (.inl 176)), .inl x3] [] 229 jr0 g
          refine jGo_blk qL_law_1216 ?_
          have e471 : jw32 (x3 + 1) = x3 + 1 := j32e (by omega) (by omega)
          refine st_xi (N := E.2.2.2.2.1) (by decide) (by decide) rfl (show 0 ≤ jw32 (x3 + 1) by omega) (show jw32 (x3 + 1) < ((E.2.2.2.2.1 : Nat) : Int) by omega) (fun v472 ev472 => ?_)
          replace ev472 : v472 = jxv E (-2) (jw32 (x3 + 1)) := ev472
          refine st_cv (na := 1) (st := [.inl v472, .inr (.inr (.inl 0))]) jo_0 rfl rfl rfl (c_X11_ready v472 g) rfl ?_
          rintro _ _ g474 ⟨rfl, ft473, t473, rfl, ht473, zt473⟩ kt473
          replace kt473 : -2147483648 ≤ t473 ∧ t473 ≤ 2147483647 := kt473
          have li475 : jLI g474 := jLI_fr (ft473 176 0 (by unfold w_X11_ready; omega)) (ft473 0 0 (by unfold w_X11_ready; omega)) (fun t => ft473 87 t (by unfold w_X11_ready; omega)) li
          have dli475 : g474 176 0 ≤ 2000 := li475.1
          have e476 : jw32 (x3 + 1) = x3 + 1 := j32e (by omega) (by omega)
          refine st_xi (N := E.2.2.2.2.1) (by decide) (by decide) rfl (show 0 ≤ jw32 (x3 + 1) by omega) (show jw32 (x3 + 1) < ((E.2.2.2.2.1 : Nat) : Int) by omega) (fun v477 ev477 => ?_)
          replace ev477 : v477 = jxv E (-2) (jw32 (x3 + 1)) := ev477
          have e478 : g474 176 0 = g 176 0 := ft473 176 0 (by unfold w_X11_ready; omega)
          refine st_cv (na := 1) (st := [.inl v477, .inr (.inr (.inl 176))]) jo_176 rfl rfl rfl (c_X12_ready v477 g474 (by omega)) rfl ?_
          rintro _ _ g480 ⟨rfl, ft479, t479, rfl, ht479, zt479⟩ kt479
          replace kt479 : -2147483648 ≤ t479 ∧ t479 ≤ 2147483647 := kt479
          replace zt479 : g480 176 0 = g474 176 0 := zt479
          have li481 : jLI g480 := ⟨by rw [show g480 176 0 = g474 176 0 from zt479]; exact li475.1, jLG_fr (ft479 0 0 (by unfold w_X12_ready; omega)) (fun t => ft479 87 t (by unfold w_X12_ready; omega)) li475.2⟩
          have dli481 : g480 176 0 ≤ 2000 := li481.1
          show jGo E l 179 0 229 _ 1410 [.inr (.inr (.inl (-2))), .inr (.inr (.inl 0)), .inr (.inr (.inl 176)), .inl x3] [] 229 jr0 g480
          refine jGo_blk qL_law_1410 ?_
          have e482 : jw32 (x3 + 6) = x3 + 6 := j32e (by omega) (by omega)
          show jGo E l 179 0 229 _ 18 [.inr (.inr (.inl (-2))), .inr (.inr (.inl 0)), .inr (.inr (.inl 176)), .inl (jw32 (x3 + 6))] [] 229 jr0 g480
          exact ih (jw32 (x3 + 6)) g480 (by omega) li481 (by omega)
        · replace c6 : jand v4 63 = 29 := c6
          show jGo E l 179 0 229 _ 1239 [.inr (.inr (.inl (-2))), .inr (.inr (.inl 0)), .inr (.inr (.inl 176)), .inl x3] [] 229 jr0 g
          refine jGo_blk qL_law_1239 ?_
          have e483 : jw32 (x3 + 1) = x3 + 1 := j32e (by omega) (by omega)
          refine st_xi (N := E.2.2.2.2.1) (by decide) (by decide) rfl (show 0 ≤ jw32 (x3 + 1) by omega) (show jw32 (x3 + 1) < ((E.2.2.2.2.1 : Nat) : Int) by omega) (fun v484 ev484 => ?_)
          replace ev484 : v484 = jxv E (-2) (jw32 (x3 + 1)) := ev484
          refine st_cv (na := 1) (st := [.inl v484, .inr (.inr (.inl 0))]) jo_0 rfl rfl rfl (c_X11_late v484 g) rfl ?_
          rintro _ _ g486 ⟨rfl, ft485, t485, rfl, ht485, zt485⟩ kt485
          replace kt485 : -2147483648 ≤ t485 ∧ t485 ≤ 2147483647 := kt485
          have li487 : jLI g486 := jLI_fr (ft485 176 0 (by unfold w_X11_late; omega)) (ft485 0 0 (by unfold w_X11_late; omega)) (fun t => ft485 87 t (by unfold w_X11_late; omega)) li
          have dli487 : g486 176 0 ≤ 2000 := li487.1
          have e488 : jw32 (x3 + 1) = x3 + 1 := j32e (by omega) (by omega)
          refine st_xi (N := E.2.2.2.2.1) (by decide) (by decide) rfl (show 0 ≤ jw32 (x3 + 1) by omega) (show jw32 (x3 + 1) < ((E.2.2.2.2.1 : Nat) : Int) by omega) (fun v489 ev489 => ?_)
          replace ev489 : v489 = jxv E (-2) (jw32 (x3 + 1)) := ev489
          have e490 : g486 176 0 = g 176 0 := ft485 176 0 (by unfold w_X11_late; omega)
          refine st_cv (na := 1) (st := [.inl v489, .inr (.inr (.inl 176))]) jo_176 rfl rfl rfl (c_X12_late v489 g486 (by omega)) rfl ?_
          rintro _ _ g492 ⟨rfl, ft491, t491, rfl, ht491, zt491⟩ kt491
          replace kt491 : -2147483648 ≤ t491 ∧ t491 ≤ 2147483647 := kt491
          replace zt491 : g492 176 0 = g486 176 0 := zt491
          have li493 : jLI g492 := ⟨by rw [show g492 176 0 = g486 176 0 from zt491]; exact li487.1, jLG_fr (ft491 0 0 (by unfold w_X12_late; omega)) (fun t => ft491 87 t (by unfold w_X12_late; omega)) li487.2⟩
          have dli493 : g492 176 0 ≤ 2000 := li493.1
          show jGo E l 179 0 229 _ 1410 [.inr (.inr (.inl (-2))), .inr (.inr (.inl 0)), .inr (.inr (.inl 176)), .inl x3] [] 229 jr0 g492
          refine jGo_blk qL_law_1410 ?_
          have e494 : jw32 (x3 + 6) = x3 + 6 := j32e (by omega) (by omega)
          show jGo E l 179 0 229 _ 18 [.inr (.inr (.inl (-2))), .inr (.inr (.inl 0)), .inr (.inr (.inl 176)), .inl (jw32 (x3 + 6))] [] 229 jr0 g492
          exact ih (jw32 (x3 + 6)) g492 (by omega) li493 (by omega)
        · replace c6 : jand v4 63 = 30 := c6
          show jGo E l 179 0 229 _ 1262 [.inr (.inr (.inl (-2))), .inr (.inr (.inl 0)), .inr (.inr (.inl 176)), .inl x3] [] 229 jr0 g
          refine jGo_blk qL_law_1262 ?_
          refine st_cv (na := 0) (st := [.inr (.inr (.inl 0))]) jo_0 rfl rfl rfl (c_X11_least g) rfl ?_
          rintro _ _ g496 ⟨rfl, ft495, t495, rfl, ht495, zt495⟩ kt495
          replace kt495 : -2147483648 ≤ t495 ∧ t495 ≤ 2147483647 := kt495
          have li497 : jLI g496 := jLI_fr (ft495 176 0 (by unfold w_X11_least; omega)) (ft495 0 0 (by unfold w_X11_least; omega)) (fun t => ft495 87 t (by unfold w_X11_least; omega)) li
          have dli497 : g496 176 0 ≤ 2000 := li497.1
          have e498 : g496 176 0 = g 176 0 := ft495 176 0 (by unfold w_X11_least; omega)
          refine st_cv (na := 0) (st := [.inr (.inr (.inl 176))]) jo_176 rfl rfl rfl (c_X12_least g496 (by omega)) rfl ?_
          rintro _ _ g500 ⟨rfl, ft499, t499, rfl, ht499, zt499⟩ kt499
          replace kt499 : -2147483648 ≤ t499 ∧ t499 ≤ 2147483647 := kt499
          replace zt499 : g500 176 0 = g496 176 0 := zt499
          have li501 : jLI g500 := ⟨by rw [show g500 176 0 = g496 176 0 from zt499]; exact li497.1, jLG_fr (ft499 0 0 (by unfold w_X12_least; omega)) (fun t => ft499 87 t (by unfold w_X12_least; omega)) li497.2⟩
          have dli501 : g500 176 0 ≤ 2000 := li501.1
          show jGo E l 179 0 229 _ 1410 [.inr (.inr (.inl (-2))), .inr (.inr (.inl 0)), .inr (.inr (.inl 176)), .inl x3] [] 229 jr0 g500
          refine jGo_blk qL_law_1410 ?_
          have e502 : jw32 (x3 + 6) = x3 + 6 := j32e (by omega) (by omega)
          show jGo E l 179 0 229 _ 18 [.inr (.inr (.inl (-2))), .inr (.inr (.inl 0)), .inr (.inr (.inl 176)), .inl (jw32 (x3 + 6))] [] 229 jr0 g500
          exact ih (jw32 (x3 + 6)) g500 (by omega) li501 (by omega)
        · replace c6 : jand v4 63 = 31 := c6
          show jGo E l 179 0 229 _ 1275 [.inr (.inr (.inl (-2))), .inr (.inr (.inl 0)), .inr (.inr (.inl 176)), .inl x3] [] 229 jr0 g
          refine jGo_blk qL_law_1275 ?_
          have e503 : jw32 (x3 + 1) = x3 + 1 := j32e (by omega) (by omega)
          refine st_xi (N := E.2.2.2.2.1) (by decide) (by decide) rfl (show 0 ≤ jw32 (x3 + 1) by omega) (show jw32 (x3 + 1) < ((E.2.2.2.2.1 : Nat) : Int) by omega) (fun v504 ev504 => ?_)
          replace ev504 : v504 = jxv E (-2) (jw32 (x3 + 1)) := ev504
          refine st_cv (na := 1) (st := [.inl v504, .inr (.inr (.inl 0))]) jo_0 rfl rfl rfl (c_X11_order v504 g) rfl ?_
          rintro _ _ g506 ⟨rfl, ft505, t505, rfl, ht505, zt505⟩ kt505
          replace kt505 : -2147483648 ≤ t505 ∧ t505 ≤ 2147483647 := kt505
          replace ht505 : -9 ≤ t505 ∧ t505 ≤ 15 := ht505
          have li507 : jLI g506 := jLI_fr (ft505 176 0 (by unfold w_X11_order; omega)) (ft505 0 0 (by unfold w_X11_order; omega)) (fun t => ft505 87 t (by unfold w_X11_order; omega)) li
          have dli507 : g506 176 0 ≤ 2000 := li507.1
          have e508 : jw32 (x3 + 1) = x3 + 1 := j32e (by omega) (by omega)
          refine st_xi (N := E.2.2.2.2.1) (by decide) (by decide) rfl (show 0 ≤ jw32 (x3 + 1) by omega) (show jw32 (x3 + 1) < ((E.2.2.2.2.1 : Nat) : Int) by omega) (fun v509 ev509 => ?_)
          replace ev509 : v509 = jxv E (-2) (jw32 (x3 + 1)) := ev509
          have e510 : g506 176 0 = g 176 0 := ft505 176 0 (by unfold w_X11_order; omega)
          refine st_cv (na := 1) (st := [.inl v509, .inr (.inr (.inl 176))]) jo_176 rfl rfl rfl (c_X12_order v509 g506 (by omega)) rfl ?_
          rintro _ _ g512 ⟨rfl, ft511, t511, rfl, ht511, zt511⟩ kt511
          replace kt511 : -2147483648 ≤ t511 ∧ t511 ≤ 2147483647 := kt511
          replace ht511 : -9 ≤ t511 ∧ t511 ≤ 15 := ht511
          replace zt511 : g512 176 0 = g506 176 0 := zt511
          have li513 : jLI g512 := ⟨by rw [show g512 176 0 = g506 176 0 from zt511]; exact li507.1, jLG_fr (ft511 0 0 (by unfold w_X12_order; omega)) (fun t => ft511 87 t (by unfold w_X12_order; omega)) li507.2⟩
          have dli513 : g512 176 0 ≤ 2000 := li513.1
          show jGo E l 179 0 229 _ 1410 [.inr (.inr (.inl (-2))), .inr (.inr (.inl 0)), .inr (.inr (.inl 176)), .inl x3] [] 229 jr0 g512
          refine jGo_blk qL_law_1410 ?_
          have e514 : jw32 (x3 + 6) = x3 + 6 := j32e (by omega) (by omega)
          show jGo E l 179 0 229 _ 18 [.inr (.inr (.inl (-2))), .inr (.inr (.inl 0)), .inr (.inr (.inl 176)), .inl (jw32 (x3 + 6))] [] 229 jr0 g512
          exact ih (jw32 (x3 + 6)) g512 (by omega) li513 (by omega)
        · replace c6 : jand v4 63 = 32 := c6
          show jGo E l 179 0 229 _ 1298 [.inr (.inr (.inl (-2))), .inr (.inr (.inl 0)), .inr (.inr (.inl 176)), .inl x3] [] 229 jr0 g
          refine jGo_blk qL_law_1298 ?_
          have e515 : jw32 (x3 + 1) = x3 + 1 := j32e (by omega) (by omega)
          refine st_xi (N := E.2.2.2.2.1) (by decide) (by decide) rfl (show 0 ≤ jw32 (x3 + 1) by omega) (show jw32 (x3 + 1) < ((E.2.2.2.2.1 : Nat) : Int) by omega) (fun v516 ev516 => ?_)
          replace ev516 : v516 = jxv E (-2) (jw32 (x3 + 1)) := ev516
          have e517 : jw32 (x3 + 2) = x3 + 2 := j32e (by omega) (by omega)
          refine st_xi (N := E.2.2.2.2.1) (by decide) (by decide) rfl (show 0 ≤ jw32 (x3 + 2) by omega) (show jw32 (x3 + 2) < ((E.2.2.2.2.1 : Nat) : Int) by omega) (fun v518 ev518 => ?_)
          replace ev518 : v518 = jxv E (-2) (jw32 (x3 + 2)) := ev518
          refine st_cv (na := 2) (st := [.inl v518, .inl v516, .inr (.inr (.inl 0))]) jo_0 rfl rfl rfl (c_X11_hullOf v516 v518 g) rfl ?_
          rintro _ _ g520 ⟨rfl, ft519, t519, rfl, ht519, zt519⟩ kt519
          replace kt519 : -2147483648 ≤ t519 ∧ t519 ≤ 2147483647 := kt519
          have li521 : jLI g520 := jLI_fr (ft519 176 0 (by unfold w_X11_hullOf; omega)) (ft519 0 0 (by unfold w_X11_hullOf; omega)) (fun t => ft519 87 t (by unfold w_X11_hullOf; omega)) li
          have dli521 : g520 176 0 ≤ 2000 := li521.1
          have e522 : jw32 (x3 + 1) = x3 + 1 := j32e (by omega) (by omega)
          refine st_xi (N := E.2.2.2.2.1) (by decide) (by decide) rfl (show 0 ≤ jw32 (x3 + 1) by omega) (show jw32 (x3 + 1) < ((E.2.2.2.2.1 : Nat) : Int) by omega) (fun v523 ev523 => ?_)
          replace ev523 : v523 = jxv E (-2) (jw32 (x3 + 1)) := ev523
          have e524 : jw32 (x3 + 2) = x3 + 2 := j32e (by omega) (by omega)
          refine st_xi (N := E.2.2.2.2.1) (by decide) (by decide) rfl (show 0 ≤ jw32 (x3 + 2) by omega) (show jw32 (x3 + 2) < ((E.2.2.2.2.1 : Nat) : Int) by omega) (fun v525 ev525 => ?_)
          replace ev525 : v525 = jxv E (-2) (jw32 (x3 + 2)) := ev525
          refine st_cv (na := 2) (st := [.inl v525, .inl v523, .inr (.inr (.inl 176))]) jo_176 rfl rfl rfl (c_X12_hullOf v523 v525 g520) rfl ?_
          rintro _ _ g527 ⟨rfl, ft526, t526, rfl, ht526, zt526⟩ kt526
          replace kt526 : -2147483648 ≤ t526 ∧ t526 ≤ 2147483647 := kt526
          have li528 : jLI g527 := jLI_fr (ft526 176 0 (by unfold w_X12_hullOf; omega)) (ft526 0 0 (by unfold w_X12_hullOf; omega)) (fun t => ft526 87 t (by unfold w_X12_hullOf; omega)) li521
          have dli528 : g527 176 0 ≤ 2000 := li528.1
          show jGo E l 179 0 229 _ 1410 [.inr (.inr (.inl (-2))), .inr (.inr (.inl 0)), .inr (.inr (.inl 176)), .inl x3] [] 229 jr0 g527
          refine jGo_blk qL_law_1410 ?_
          have e529 : jw32 (x3 + 6) = x3 + 6 := j32e (by omega) (by omega)
          show jGo E l 179 0 229 _ 18 [.inr (.inr (.inl (-2))), .inr (.inr (.inl 0)), .inr (.inr (.inl 176)), .inl (jw32 (x3 + 6))] [] 229 jr0 g527
          exact ih (jw32 (x3 + 6)) g527 (by omega) li528 (by omega)
        · replace c6 : jand v4 63 = 33 := c6
          show jGo E l 179 0 229 _ 1331 [.inr (.inr (.inl (-2))), .inr (.inr (.inl 0)), .inr (.inr (.inl 176)), .inl x3] [] 229 jr0 g
          refine jGo_blk qL_law_1331 ?_
          have e530 : jw32 (x3 + 1) = x3 + 1 := j32e (by omega) (by omega)
          refine st_xi (N := E.2.2.2.2.1) (by decide) (by decide) rfl (show 0 ≤ jw32 (x3 + 1) by omega) (show jw32 (x3 + 1) < ((E.2.2.2.2.1 : Nat) : Int) by omega) (fun v531 ev531 => ?_)
          replace ev531 : v531 = jxv E (-2) (jw32 (x3 + 1)) := ev531
          have e532 : jw32 (x3 + 2) = x3 + 2 := j32e (by omega) (by omega)
          refine st_xi (N := E.2.2.2.2.1) (by decide) (by decide) rfl (show 0 ≤ jw32 (x3 + 2) by omega) (show jw32 (x3 + 2) < ((E.2.2.2.2.1 : Nat) : Int) by omega) (fun v533 ev533 => ?_)
          replace ev533 : v533 = jxv E (-2) (jw32 (x3 + 2)) := ev533
          refine st_cv (na := 2) (st := [.inl v533, .inl v531, .inr (.inr (.inl 0))]) jo_0 rfl rfl rfl (c_X11_basinOf v531 v533 g) rfl ?_
          rintro _ _ g535 ⟨rfl, ft534, t534, rfl, ht534, zt534⟩ kt534
          replace kt534 : -2147483648 ≤ t534 ∧ t534 ≤ 2147483647 := kt534
          have li536 : jLI g535 := jLI_fr (ft534 176 0 (by unfold w_X11_basinOf; omega)) (ft534 0 0 (by unfold w_X11_basinOf; omega)) (fun t => ft534 87 t (by unfold w_X11_basinOf; omega)) li
          have dli536 : g535 176 0 ≤ 2000 := li536.1
          have e537 : jw32 (x3 + 1) = x3 + 1 := j32e (by omega) (by omega)
          refine st_xi (N := E.2.2.2.2.1) (by decide) (by decide) rfl (show 0 ≤ jw32 (x3 + 1) by omega) (show jw32 (x3 + 1) < ((E.2.2.2.2.1 : Nat) : Int) by omega) (fun v538 ev538 => ?_)
          replace ev538 : v538 = jxv E (-2) (jw32 (x3 + 1)) := ev538
          have e539 : jw32 (x3 + 2) = x3 + 2 := j32e (by omega) (by omega)
          refine st_xi (N := E.2.2.2.2.1) (by decide) (by decide) rfl (show 0 ≤ jw32 (x3 + 2) by omega) (show jw32 (x3 + 2) < ((E.2.2.2.2.1 : Nat) : Int) by omega) (fun v540 ev540 => ?_)
          replace ev540 : v540 = jxv E (-2) (jw32 (x3 + 2)) := ev540
          refine st_cv (na := 2) (st := [.inl v540, .inl v538, .inr (.inr (.inl 176))]) jo_176 rfl rfl rfl (c_X12_basinOf v538 v540 g535) rfl ?_
          rintro _ _ g542 ⟨rfl, ft541, t541, rfl, ht541, zt541⟩ kt541
          replace kt541 : -2147483648 ≤ t541 ∧ t541 ≤ 2147483647 := kt541
          have li543 : jLI g542 := jLI_fr (ft541 176 0 (by unfold w_X12_basinOf; omega)) (ft541 0 0 (by unfold w_X12_basinOf; omega)) (fun t => ft541 87 t (by unfold w_X12_basinOf; omega)) li536
          have dli543 : g542 176 0 ≤ 2000 := li543.1
          show jGo E l 179 0 229 _ 1410 [.inr (.inr (.inl (-2))), .inr (.inr (.inl 0)), .inr (.inr (.inl 176)), .inl x3] [] 229 jr0 g542
          refine jGo_blk qL_law_1410 ?_
          have e544 : jw32 (x3 + 6) = x3 + 6 := j32e (by omega) (by omega)
          show jGo E l 179 0 229 _ 18 [.inr (.inr (.inl (-2))), .inr (.inr (.inl 0)), .inr (.inr (.inl 176)), .inl (jw32 (x3 + 6))] [] 229 jr0 g542
          exact ih (jw32 (x3 + 6)) g542 (by omega) li543 (by omega)
        · replace c6 : jand v4 63 = 34 := c6
          show jGo E l 179 0 229 _ 1364 [.inr (.inr (.inl (-2))), .inr (.inr (.inl 0)), .inr (.inr (.inl 176)), .inl x3] [] 229 jr0 g
          refine jGo_blk qL_law_1364 ?_
          have e545 : jw32 (x3 + 1) = x3 + 1 := j32e (by omega) (by omega)
          refine st_xi (N := E.2.2.2.2.1) (by decide) (by decide) rfl (show 0 ≤ jw32 (x3 + 1) by omega) (show jw32 (x3 + 1) < ((E.2.2.2.2.1 : Nat) : Int) by omega) (fun v546 ev546 => ?_)
          replace ev546 : v546 = jxv E (-2) (jw32 (x3 + 1)) := ev546
          refine st_cv (na := 1) (st := [.inl v546, .inr (.inr (.inl 0))]) jo_0 rfl rfl rfl (c_X11_stock v546 g) rfl ?_
          rintro _ _ g548 ⟨rfl, ft547, t547, rfl, ht547, zt547⟩ kt547
          replace kt547 : -2147483648 ≤ t547 ∧ t547 ≤ 2147483647 := kt547
          have li549 : jLI g548 := jLI_fr (ft547 176 0 (by unfold w_X11_stock; omega)) (ft547 0 0 (by unfold w_X11_stock; omega)) (fun t => ft547 87 t (by unfold w_X11_stock; omega)) li
          have dli549 : g548 176 0 ≤ 2000 := li549.1
          have e550 : jw32 (x3 + 1) = x3 + 1 := j32e (by omega) (by omega)
          refine st_xi (N := E.2.2.2.2.1) (by decide) (by decide) rfl (show 0 ≤ jw32 (x3 + 1) by omega) (show jw32 (x3 + 1) < ((E.2.2.2.2.1 : Nat) : Int) by omega) (fun v551 ev551 => ?_)
          replace ev551 : v551 = jxv E (-2) (jw32 (x3 + 1)) := ev551
          refine st_cv (na := 1) (st := [.inl v551, .inr (.inr (.inl 176))]) jo_176 rfl rfl rfl (c_X12_stock v551 g548) rfl ?_
          rintro _ _ g553 ⟨rfl, ft552, t552, rfl, ht552, zt552⟩ kt552
          replace kt552 : -2147483648 ≤ t552 ∧ t552 ≤ 2147483647 := kt552
          have li554 : jLI g553 := jLI_fr (ft552 176 0 (by unfold w_X12_stock; omega)) (ft552 0 0 (by unfold w_X12_stock; omega)) (fun t => ft552 87 t (by unfold w_X12_stock; omega)) li549
          have dli554 : g553 176 0 ≤ 2000 := li554.1
          show jGo E l 179 0 229 _ 1410 [.inr (.inr (.inl (-2))), .inr (.inr (.inl 0)), .inr (.inr (.inl 176)), .inl x3] [] 229 jr0 g553
          refine jGo_blk qL_law_1410 ?_
          have e555 : jw32 (x3 + 6) = x3 + 6 := j32e (by omega) (by omega)
          show jGo E l 179 0 229 _ 18 [.inr (.inr (.inl (-2))), .inr (.inr (.inl 0)), .inr (.inr (.inl 176)), .inl (jw32 (x3 + 6))] [] 229 jr0 g553
          exact ih (jw32 (x3 + 6)) g553 (by omega) li554 (by omega)
        · replace c6 : jand v4 63 = 35 := c6
          show jGo E l 179 0 229 _ 1387 [.inr (.inr (.inl (-2))), .inr (.inr (.inl 0)), .inr (.inr (.inl 176)), .inl x3] [] 229 jr0 g
          refine jGo_blk qL_law_1387 ?_
          have e556 : jw32 (x3 + 1) = x3 + 1 := j32e (by omega) (by omega)
          refine st_xi (N := E.2.2.2.2.1) (by decide) (by decide) rfl (show 0 ≤ jw32 (x3 + 1) by omega) (show jw32 (x3 + 1) < ((E.2.2.2.2.1 : Nat) : Int) by omega) (fun v557 ev557 => ?_)
          replace ev557 : v557 = jxv E (-2) (jw32 (x3 + 1)) := ev557
          refine st_cv (na := 1) (st := [.inl v557, .inr (.inr (.inl 0))]) jo_0 rfl rfl rfl (c_X11_told v557 g) rfl ?_
          rintro _ _ _ ⟨rfl, rfl, t558, rfl, ht558, zt558⟩ kt558
          replace kt558 : -2147483648 ≤ t558 ∧ t558 ≤ 2147483647 := kt558
          have e560 : jw32 (x3 + 1) = x3 + 1 := j32e (by omega) (by omega)
          refine st_xi (N := E.2.2.2.2.1) (by decide) (by decide) rfl (show 0 ≤ jw32 (x3 + 1) by omega) (show jw32 (x3 + 1) < ((E.2.2.2.2.1 : Nat) : Int) by omega) (fun v561 ev561 => ?_)
          replace ev561 : v561 = jxv E (-2) (jw32 (x3 + 1)) := ev561
          refine st_cv (na := 1) (st := [.inl v561, .inr (.inr (.inl 176))]) jo_176 rfl rfl rfl (c_X12_told v561 g) rfl ?_
          rintro _ _ _ ⟨rfl, rfl, t562, rfl, ht562, zt562⟩ kt562
          replace kt562 : -2147483648 ≤ t562 ∧ t562 ≤ 2147483647 := kt562
          show jGo E l 179 0 229 _ 1410 [.inr (.inr (.inl (-2))), .inr (.inr (.inl 0)), .inr (.inr (.inl 176)), .inl x3] [] 229 jr0 g
          refine jGo_blk qL_law_1410 ?_
          have e564 : jw32 (x3 + 6) = x3 + 6 := j32e (by omega) (by omega)
          show jGo E l 179 0 229 _ 18 [.inr (.inr (.inl (-2))), .inr (.inr (.inl 0)), .inr (.inr (.inl 176)), .inl (jw32 (x3 + 6))] [] 229 jr0 g
          exact ih (jw32 (x3 + 6)) g (by omega) li (by omega)
