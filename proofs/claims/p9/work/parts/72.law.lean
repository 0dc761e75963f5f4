/-! ===== THE LAW'S LOOP (by program) ===== -/
def jLI (h : JH) : Prop := h 176 0 ≤ 2000 ∧ jLG 0 h
theorem jLI_fr {h g : JH} (e : g 176 0 = h 176 0) (e0 : g 0 0 = h 0 0) (e87 : ∀ t : Int, g 87 t = h 87 t) (q : jLI h) : jLI g := ⟨by rw [e]; exact q.1, jLG_fr e0 e87 q.2⟩
def jlRT : JR := fun v _ _ _ => v = some (.inl 1)
theorem st_alx {E : JE} {K : JK} {ls s : List JV} {n : Nat} {r h : JH} (kk : ∀ v, v = ((E.2.2.2.2.1 : Nat) : Int) → K ls (.inl v :: s) n r h) : jaln E K ls (.inr (.inr (.inl (-2))) :: s) n r h := ⟨fun q => absurd q (by decide), fun _ => ⟨rfl, kk _ rfl⟩⟩
set_option maxHeartbeats 40000000 in
set_option maxRecDepth 20000 in
theorem law_loop {E : JE} {l : Launch} (hE : E.2.2.2.2.1 ≤ 3072) : ∀ N : Nat, ∀ (x3 : Int) (g : JH), (0 ≤ x3 ∧ x3 ≤ 3072) → jLI g → jI g → 3072 - x3 < (N : Int) → jGo E l 179 0 229 jlRT 18 [.inr (.inr (.inl (-2))), .inr (.inr (.inl 0)), .inr (.inr (.inl 176)), .inl x3] [] 229 jr0 g := by
  intro N
  induction N with
  | zero => exact fun x3 g hi _ _ hN => absurd hN (by omega)
  | succ N ih =>
      intro x3 g hi li sm hN
      have dli : g 176 0 ≤ 2000 := li.1
      have dd0 : 0 ≤ g 0 0 := li.2.1
      refine jGo_blk qL_law_18 ?_
      refine st_alx (fun v1 ev1 => ?_)
      replace ev1 : v1 = ((E.2.2.2.2.1 : Nat) : Int) := ev1
      have bv1 : 0 ≤ v1 ∧ v1 ≤ 3072 := by omega
      have e2 : jw32 (v1 - 6) = v1 - 6 := j32e (by omega) (by omega)
      refine And.intro (fun c3 => ?_) (fun c3 => ?_)
      · replace c3 : jw32 (v1 - 6) < x3 := c3
        show jGo E l 179 0 229 _ 1416 [.inr (.inr (.inl (-2))), .inr (.inr (.inl 0)), .inr (.inr (.inl 176)), .inl x3] [] 229 jr0 g
        refine jGo_blk qL_law_1416 ?_
        exact st_r1 (ls := []) (Or.inr rfl) rfl
      · replace c3 : x3 ≤ jw32 (v1 - 6) := by first | exact c3 | exact Int.not_le.mp c3 | exact Int.not_lt.mp c3 | exact Decidable.not_not.mp c3
        refine st_xi (N := E.2.2.2.2.1) (by decide) (by decide) rfl (show 0 ≤ x3 by omega) (show x3 < ((E.2.2.2.2.1 : Nat) : Int) by omega) (fun v4 ev4 => ?_)
        replace ev4 : v4 = jxv E (-2) x3 := ev4
        have e5 := jand_le2 v4 63 (by omega) (by omega)
        refine And.intro (fun c6 => ?_) (And.intro (fun c6 => ?_) (And.intro (fun c6 => ?_) (And.intro (fun c6 => ?_) (And.intro (fun c6 => ?_) (And.intro (fun c6 => ?_) (And.intro (fun c6 => ?_) (And.intro (fun c6 => ?_) (And.intro (fun c6 => ?_) (And.intro (fun c6 => ?_) (And.intro (fun c6 => ?_) (And.intro (fun c6 => ?_) (And.intro (fun c6 => ?_) (And.intro (fun c6 => ?_) (And.intro (fun c6 => ?_) (And.intro (fun c6 => ?_) (And.intro (fun c6 => ?_) (And.intro (fun c6 => ?_) (And.intro (fun c6 => ?_) (And.intro (fun c6 => ?_) (And.intro (fun c6 => ?_) (And.intro (fun c6 => ?_) (And.intro (fun c6 => ?_) (And.intro (fun c6 => ?_) (And.intro (fun c6 => ?_) (And.intro (fun c6 => ?_) (And.intro (fun c6 => ?_) (And.intro (fun c6 => ?_) (And.intro (fun c6 => ?_) (And.intro (fun c6 => ?_) (And.intro (fun c6 => ?_) (And.intro (fun c6 => ?_) (And.intro (fun c6 => ?_) (And.intro (fun c6 => ?_) (And.intro (fun c6 => ?_) (And.intro (fun c6 => ?_) (And.intro (fun c6 => ?_) (trivial)))))))))))))))))))))))))))))))))))))
        · replace c6 : jand v4 63 < 0 ∨ 35 < jand v4 63 := c6
          show jGo E l 179 0 229 _ 1410 [.inr (.inr (.inl (-2))), .inr (.inr (.inl 0)), .inr (.inr (.inl 176)), .inl x3] [] 229 jr0 g
          refine jGo_blk qL_law_1410 ?_
          have e7 : jw32 (x3 + 6) = x3 + 6 := j32e (by omega) (by omega)
          show jGo E l 179 0 229 _ 18 [.inr (.inr (.inl (-2))), .inr (.inr (.inl 0)), .inr (.inr (.inl 176)), .inl (jw32 (x3 + 6))] [] 229 jr0 g
          exact ih (jw32 (x3 + 6)) g (by omega) li sm (by omega)
        · replace c6 : jand v4 63 = 0 := c6
          show jGo E l 179 0 229 _ 192 [.inr (.inr (.inl (-2))), .inr (.inr (.inl 0)), .inr (.inr (.inl 176)), .inl x3] [] 229 jr0 g
          refine jGo_blk qL_law_192 ?_
          have e8 : jw32 (x3 + 1) = x3 + 1 := j32e (by omega) (by omega)
          refine st_xi (N := E.2.2.2.2.1) (by decide) (by decide) rfl (show 0 ≤ jw32 (x3 + 1) by omega) (show jw32 (x3 + 1) < ((E.2.2.2.2.1 : Nat) : Int) by omega) (fun v9 ev9 => ?_)
          replace ev9 : v9 = jxv E (-2) (jw32 (x3 + 1)) := ev9
          have e10 : jw32 (x3 + 2) = x3 + 2 := j32e (by omega) (by omega)
          refine st_xi (N := E.2.2.2.2.1) (by decide) (by decide) rfl (show 0 ≤ jw32 (x3 + 2) by omega) (show jw32 (x3 + 2) < ((E.2.2.2.2.1 : Nat) : Int) by omega) (fun v11 ev11 => ?_)
          replace ev11 : v11 = jxv E (-2) (jw32 (x3 + 2)) := ev11
          refine st_cv (na := 2) (st := [.inl v11, .inl v9, .inr (.inr (.inl 0))]) jo_0 rfl rfl rfl (c_X11_hands v9 v11 g) rfl ?_
          rintro _ _ g13 ⟨rfl, ft12, t12, rfl, ht12, zt12⟩ kt12
          replace kt12 : -2147483648 ≤ t12 ∧ t12 ≤ 2147483647 := kt12
          replace ht12 : -7 ≤ t12 ∧ t12 ≤ 400 := ht12
          replace zt12 : P_X11_hands v9 v11 t12 g g13 := zt12
          have li14 : jLI g13 := jLI_fr (ft12 176 0 (by unfold w_X11_hands; omega)) (ft12 0 0 (by unfold w_X11_hands; omega)) (fun t => ft12 87 t (by unfold w_X11_hands; omega)) li
          have dli14 : g13 176 0 ≤ 2000 := li14.1
          have e16 : jw32 (x3 + 1) = x3 + 1 := j32e (by omega) (by omega)
          refine st_xi (N := E.2.2.2.2.1) (by decide) (by decide) rfl (show 0 ≤ jw32 (x3 + 1) by omega) (show jw32 (x3 + 1) < ((E.2.2.2.2.1 : Nat) : Int) by omega) (fun v17 ev17 => ?_)
          replace ev17 : v17 = jxv E (-2) (jw32 (x3 + 1)) := ev17
          have e18 : jw32 (x3 + 2) = x3 + 2 := j32e (by omega) (by omega)
          refine st_xi (N := E.2.2.2.2.1) (by decide) (by decide) rfl (show 0 ≤ jw32 (x3 + 2) by omega) (show jw32 (x3 + 2) < ((E.2.2.2.2.1 : Nat) : Int) by omega) (fun v19 ev19 => ?_)
          replace ev19 : v19 = jxv E (-2) (jw32 (x3 + 2)) := ev19
          refine st_cv (na := 2) (st := [.inl v19, .inl v17, .inr (.inr (.inl 176))]) jo_176 rfl rfl rfl (c_X12_hands v17 v19 g13) rfl ?_
          rintro _ _ g21 ⟨rfl, ft20, t20, rfl, ht20, zt20⟩ kt20
          replace kt20 : -2147483648 ≤ t20 ∧ t20 ≤ 2147483647 := kt20
          replace ht20 : -7 ≤ t20 ∧ t20 ≤ 400 := ht20
          replace zt20 : P_X12_hands v17 v19 t20 g13 g21 := zt20
          have li22 : jLI g21 := jLI_fr (ft20 176 0 (by unfold w_X12_hands; omega)) (ft20 0 0 (by unfold w_X12_hands; omega)) (fun t => ft20 87 t (by unfold w_X12_hands; omega)) li14
          have dli22 : g21 176 0 ≤ 2000 := li22.1
          rw [show v17 = v9 by omega, show v19 = v11 by omega] at zt20
          have qe24 := pr_hands ft12 ft20 zt12 zt20 sm
          have eqe24 := qe24.1
          have sm23 : jI g21 := qe24.2
          clear qe24 zt20
          show jGo E l 179 0 229 _ 1410 [.inr (.inr (.inl (-2))), .inr (.inr (.inl 0)), .inr (.inr (.inl 176)), .inl x3] [] 229 jr0 g21
          refine jGo_blk qL_law_1410 ?_
          have e25 : jw32 (x3 + 6) = x3 + 6 := j32e (by omega) (by omega)
          show jGo E l 179 0 229 _ 18 [.inr (.inr (.inl (-2))), .inr (.inr (.inl 0)), .inr (.inr (.inl 176)), .inl (jw32 (x3 + 6))] [] 229 jr0 g21
          exact ih (jw32 (x3 + 6)) g21 (by omega) li22 sm23 (by omega)
        · replace c6 : jand v4 63 = 1 := c6
          show jGo E l 179 0 229 _ 225 [.inr (.inr (.inl (-2))), .inr (.inr (.inl 0)), .inr (.inr (.inl 176)), .inl x3] [] 229 jr0 g
          refine jGo_blk qL_law_225 ?_
          have e26 : jw32 (x3 + 1) = x3 + 1 := j32e (by omega) (by omega)
          refine st_xi (N := E.2.2.2.2.1) (by decide) (by decide) rfl (show 0 ≤ jw32 (x3 + 1) by omega) (show jw32 (x3 + 1) < ((E.2.2.2.2.1 : Nat) : Int) by omega) (fun v27 ev27 => ?_)
          replace ev27 : v27 = jxv E (-2) (jw32 (x3 + 1)) := ev27
          have e28 : jw32 (x3 + 2) = x3 + 2 := j32e (by omega) (by omega)
          refine st_xi (N := E.2.2.2.2.1) (by decide) (by decide) rfl (show 0 ≤ jw32 (x3 + 2) by omega) (show jw32 (x3 + 2) < ((E.2.2.2.2.1 : Nat) : Int) by omega) (fun v29 ev29 => ?_)
          replace ev29 : v29 = jxv E (-2) (jw32 (x3 + 2)) := ev29
          refine st_cv (na := 2) (st := [.inl v29, .inl v27, .inr (.inr (.inl 0))]) jo_0 rfl rfl rfl (c_X11_bring v27 v29 g) rfl ?_
          rintro _ _ g31 ⟨rfl, ft30, t30, rfl, ht30, zt30⟩ kt30
          replace kt30 : -2147483648 ≤ t30 ∧ t30 ≤ 2147483647 := kt30
          have li32 : jLI g31 := jLI_fr (ft30 176 0 (by unfold w_X11_bring; omega)) (ft30 0 0 (by unfold w_X11_bring; omega)) (fun t => ft30 87 t (by unfold w_X11_bring; omega)) li
          have dli32 : g31 176 0 ≤ 2000 := li32.1
          have e34 : jw32 (x3 + 1) = x3 + 1 := j32e (by omega) (by omega)
          refine st_xi (N := E.2.2.2.2.1) (by decide) (by decide) rfl (show 0 ≤ jw32 (x3 + 1) by omega) (show jw32 (x3 + 1) < ((E.2.2.2.2.1 : Nat) : Int) by omega) (fun v35 ev35 => ?_)
          replace ev35 : v35 = jxv E (-2) (jw32 (x3 + 1)) := ev35
          have e36 : jw32 (x3 + 2) = x3 + 2 := j32e (by omega) (by omega)
          refine st_xi (N := E.2.2.2.2.1) (by decide) (by decide) rfl (show 0 ≤ jw32 (x3 + 2) by omega) (show jw32 (x3 + 2) < ((E.2.2.2.2.1 : Nat) : Int) by omega) (fun v37 ev37 => ?_)
          replace ev37 : v37 = jxv E (-2) (jw32 (x3 + 2)) := ev37
          refine st_cv (na := 2) (st := [.inl v37, .inl v35, .inr (.inr (.inl 176))]) jo_176 rfl rfl rfl (c_X12_bring v35 v37 g31) rfl ?_
          rintro _ _ g39 ⟨rfl, ft38, t38, rfl, ht38, zt38⟩ kt38
          replace kt38 : -2147483648 ≤ t38 ∧ t38 ≤ 2147483647 := kt38
          have li40 : jLI g39 := jLI_fr (ft38 176 0 (by unfold w_X12_bring; omega)) (ft38 0 0 (by unfold w_X12_bring; omega)) (fun t => ft38 87 t (by unfold w_X12_bring; omega)) li32
          have dli40 : g39 176 0 ≤ 2000 := li40.1
          have sm41 : jI g39 := pf_bring ft30 ft38 sm
          show jGo E l 179 0 229 _ 1410 [.inr (.inr (.inl (-2))), .inr (.inr (.inl 0)), .inr (.inr (.inl 176)), .inl x3] [] 229 jr0 g39
          refine jGo_blk qL_law_1410 ?_
          have e42 : jw32 (x3 + 6) = x3 + 6 := j32e (by omega) (by omega)
          show jGo E l 179 0 229 _ 18 [.inr (.inr (.inl (-2))), .inr (.inr (.inl 0)), .inr (.inr (.inl 176)), .inl (jw32 (x3 + 6))] [] 229 jr0 g39
          exact ih (jw32 (x3 + 6)) g39 (by omega) li40 sm41 (by omega)
        · replace c6 : jand v4 63 = 2 := c6
          show jGo E l 179 0 229 _ 258 [.inr (.inr (.inl (-2))), .inr (.inr (.inl 0)), .inr (.inr (.inl 176)), .inl x3] [] 229 jr0 g
          refine jGo_blk qL_law_258 ?_
          have e43 : jw32 (x3 + 1) = x3 + 1 := j32e (by omega) (by omega)
          refine st_xi (N := E.2.2.2.2.1) (by decide) (by decide) rfl (show 0 ≤ jw32 (x3 + 1) by omega) (show jw32 (x3 + 1) < ((E.2.2.2.2.1 : Nat) : Int) by omega) (fun v44 ev44 => ?_)
          replace ev44 : v44 = jxv E (-2) (jw32 (x3 + 1)) := ev44
          have e45 : jw32 (x3 + 2) = x3 + 2 := j32e (by omega) (by omega)
          refine st_xi (N := E.2.2.2.2.1) (by decide) (by decide) rfl (show 0 ≤ jw32 (x3 + 2) by omega) (show jw32 (x3 + 2) < ((E.2.2.2.2.1 : Nat) : Int) by omega) (fun v46 ev46 => ?_)
          replace ev46 : v46 = jxv E (-2) (jw32 (x3 + 2)) := ev46
          refine st_cv (na := 2) (st := [.inl v46, .inl v44, .inr (.inr (.inl 0))]) jo_0 rfl rfl rfl (c_X11_row v44 v46 g) rfl ?_
          rintro _ _ g48 ⟨rfl, ft47, t47, rfl, ht47, zt47⟩ kt47
          replace kt47 : -2147483648 ≤ t47 ∧ t47 ≤ 2147483647 := kt47
          replace ht47 : -7 ≤ t47 ∧ t47 ≤ 30 := ht47
          replace zt47 : P_X11_row v44 v46 t47 g g48 := zt47
          have li49 : jLI g48 := jLI_fr (ft47 176 0 (by unfold w_X11_row; omega)) (ft47 0 0 (by unfold w_X11_row; omega)) (fun t => ft47 87 t (by unfold w_X11_row; omega)) li
          have dli49 : g48 176 0 ≤ 2000 := li49.1
          have e51 : jw32 (x3 + 1) = x3 + 1 := j32e (by omega) (by omega)
          refine st_xi (N := E.2.2.2.2.1) (by decide) (by decide) rfl (show 0 ≤ jw32 (x3 + 1) by omega) (show jw32 (x3 + 1) < ((E.2.2.2.2.1 : Nat) : Int) by omega) (fun v52 ev52 => ?_)
          replace ev52 : v52 = jxv E (-2) (jw32 (x3 + 1)) := ev52
          have e53 : jw32 (x3 + 2) = x3 + 2 := j32e (by omega) (by omega)
          refine st_xi (N := E.2.2.2.2.1) (by decide) (by decide) rfl (show 0 ≤ jw32 (x3 + 2) by omega) (show jw32 (x3 + 2) < ((E.2.2.2.2.1 : Nat) : Int) by omega) (fun v54 ev54 => ?_)
          replace ev54 : v54 = jxv E (-2) (jw32 (x3 + 2)) := ev54
          refine st_cv (na := 2) (st := [.inl v54, .inl v52, .inr (.inr (.inl 176))]) jo_176 rfl rfl rfl (c_X12_row v52 v54 g48) rfl ?_
          rintro _ _ g56 ⟨rfl, ft55, t55, rfl, ht55, zt55⟩ kt55
          replace kt55 : -2147483648 ≤ t55 ∧ t55 ≤ 2147483647 := kt55
          replace ht55 : -7 ≤ t55 ∧ t55 ≤ 30 := ht55
          replace zt55 : P_X12_row v52 v54 t55 g48 g56 := zt55
          have li57 : jLI g56 := jLI_fr (ft55 176 0 (by unfold w_X12_row; omega)) (ft55 0 0 (by unfold w_X12_row; omega)) (fun t => ft55 87 t (by unfold w_X12_row; omega)) li49
          have dli57 : g56 176 0 ≤ 2000 := li57.1
          rw [show v52 = v44 by omega, show v54 = v46 by omega] at zt55
          have qe59 := pr_row ft47 ft55 zt47 zt55 sm
          have eqe59 := qe59.1
          have sm58 : jI g56 := qe59.2
          clear qe59 zt55
          show jGo E l 179 0 229 _ 1410 [.inr (.inr (.inl (-2))), .inr (.inr (.inl 0)), .inr (.inr (.inl 176)), .inl x3] [] 229 jr0 g56
          refine jGo_blk qL_law_1410 ?_
          have e60 : jw32 (x3 + 6) = x3 + 6 := j32e (by omega) (by omega)
          show jGo E l 179 0 229 _ 18 [.inr (.inr (.inl (-2))), .inr (.inr (.inl 0)), .inr (.inr (.inl 176)), .inl (jw32 (x3 + 6))] [] 229 jr0 g56
          exact ih (jw32 (x3 + 6)) g56 (by omega) li57 sm58 (by omega)
        · replace c6 : jand v4 63 = 3 := c6
          show jGo E l 179 0 229 _ 291 [.inr (.inr (.inl (-2))), .inr (.inr (.inl 0)), .inr (.inr (.inl 176)), .inl x3] [] 229 jr0 g
          refine jGo_blk qL_law_291 ?_
          have e61 : jw32 (x3 + 1) = x3 + 1 := j32e (by omega) (by omega)
          refine st_xi (N := E.2.2.2.2.1) (by decide) (by decide) rfl (show 0 ≤ jw32 (x3 + 1) by omega) (show jw32 (x3 + 1) < ((E.2.2.2.2.1 : Nat) : Int) by omega) (fun v62 ev62 => ?_)
          replace ev62 : v62 = jxv E (-2) (jw32 (x3 + 1)) := ev62
          refine st_cv (na := 1) (st := [.inl v62, .inr (.inr (.inl 0))]) jo_0 rfl rfl rfl (c_X11_lose v62 g) rfl ?_
          rintro _ _ g64 ⟨rfl, ft63, t63, rfl, ht63, zt63⟩ kt63
          replace kt63 : -2147483648 ≤ t63 ∧ t63 ≤ 2147483647 := kt63
          replace ht63 : -7 ≤ t63 ∧ t63 ≤ 1 := ht63
          replace zt63 : P_X11_lose v62 t63 g g64 := zt63
          have li65 : jLI g64 := jLI_fr (ft63 176 0 (by unfold w_X11_lose; omega)) (ft63 0 0 (by unfold w_X11_lose; omega)) (fun t => ft63 87 t (by unfold w_X11_lose; omega)) li
          have dli65 : g64 176 0 ≤ 2000 := li65.1
          have e67 : jw32 (x3 + 1) = x3 + 1 := j32e (by omega) (by omega)
          refine st_xi (N := E.2.2.2.2.1) (by decide) (by decide) rfl (show 0 ≤ jw32 (x3 + 1) by omega) (show jw32 (x3 + 1) < ((E.2.2.2.2.1 : Nat) : Int) by omega) (fun v68 ev68 => ?_)
          replace ev68 : v68 = jxv E (-2) (jw32 (x3 + 1)) := ev68
          refine st_cv (na := 1) (st := [.inl v68, .inr (.inr (.inl 176))]) jo_176 rfl rfl rfl (c_X12_lose v68 g64) rfl ?_
          rintro _ _ g70 ⟨rfl, ft69, t69, rfl, ht69, zt69⟩ kt69
          replace kt69 : -2147483648 ≤ t69 ∧ t69 ≤ 2147483647 := kt69
          replace ht69 : -7 ≤ t69 ∧ t69 ≤ 1 := ht69
          replace zt69 : P_X12_lose v68 t69 g64 g70 := zt69
          have li71 : jLI g70 := jLI_fr (ft69 176 0 (by unfold w_X12_lose; omega)) (ft69 0 0 (by unfold w_X12_lose; omega)) (fun t => ft69 87 t (by unfold w_X12_lose; omega)) li65
          have dli71 : g70 176 0 ≤ 2000 := li71.1
          rw [show v68 = v62 by omega] at zt69
          have qe73 := pr_lose ft63 ft69 zt63 zt69 sm
          have eqe73 := qe73.1
          have sm72 : jI g70 := qe73.2
          clear qe73 zt69
          show jGo E l 179 0 229 _ 1410 [.inr (.inr (.inl (-2))), .inr (.inr (.inl 0)), .inr (.inr (.inl 176)), .inl x3] [] 229 jr0 g70
          refine jGo_blk qL_law_1410 ?_
          have e74 : jw32 (x3 + 6) = x3 + 6 := j32e (by omega) (by omega)
          show jGo E l 179 0 229 _ 18 [.inr (.inr (.inl (-2))), .inr (.inr (.inl 0)), .inr (.inr (.inl 176)), .inl (jw32 (x3 + 6))] [] 229 jr0 g70
          exact ih (jw32 (x3 + 6)) g70 (by omega) li71 sm72 (by omega)
        · replace c6 : jand v4 63 = 4 := c6
          show jGo E l 179 0 229 _ 314 [.inr (.inr (.inl (-2))), .inr (.inr (.inl 0)), .inr (.inr (.inl 176)), .inl x3] [] 229 jr0 g
          refine jGo_blk qL_law_314 ?_
          have e75 : jw32 (x3 + 1) = x3 + 1 := j32e (by omega) (by omega)
          refine st_xi (N := E.2.2.2.2.1) (by decide) (by decide) rfl (show 0 ≤ jw32 (x3 + 1) by omega) (show jw32 (x3 + 1) < ((E.2.2.2.2.1 : Nat) : Int) by omega) (fun v76 ev76 => ?_)
          replace ev76 : v76 = jxv E (-2) (jw32 (x3 + 1)) := ev76
          have e77 : jw32 (x3 + 2) = x3 + 2 := j32e (by omega) (by omega)
          refine st_xi (N := E.2.2.2.2.1) (by decide) (by decide) rfl (show 0 ≤ jw32 (x3 + 2) by omega) (show jw32 (x3 + 2) < ((E.2.2.2.2.1 : Nat) : Int) by omega) (fun v78 ev78 => ?_)
          replace ev78 : v78 = jxv E (-2) (jw32 (x3 + 2)) := ev78
          have e79 : jw32 (x3 + 3) = x3 + 3 := j32e (by omega) (by omega)
          refine st_xi (N := E.2.2.2.2.1) (by decide) (by decide) rfl (show 0 ≤ jw32 (x3 + 3) by omega) (show jw32 (x3 + 3) < ((E.2.2.2.2.1 : Nat) : Int) by omega) (fun v80 ev80 => ?_)
          replace ev80 : v80 = jxv E (-2) (jw32 (x3 + 3)) := ev80
          refine st_cv (na := 3) (st := [.inl v80, .inl v78, .inl v76, .inr (.inr (.inl 0))]) jo_0 rfl rfl rfl (c_X11_put v76 v78 v80 g) rfl ?_
          rintro _ _ g82 ⟨rfl, ft81, t81, rfl, ht81, zt81⟩ kt81
          replace kt81 : -2147483648 ≤ t81 ∧ t81 ≤ 2147483647 := kt81
          replace ht81 : -7 ≤ t81 ∧ t81 ≤ 400 := ht81
          replace zt81 : P_X11_put v76 v78 v80 t81 g g82 := zt81
          have li83 : jLI g82 := jLI_fr (ft81 176 0 (by unfold w_X11_put; omega)) (ft81 0 0 (by unfold w_X11_put; omega)) (fun t => ft81 87 t (by unfold w_X11_put; omega)) li
          have dli83 : g82 176 0 ≤ 2000 := li83.1
          have e85 : jw32 (x3 + 1) = x3 + 1 := j32e (by omega) (by omega)
          refine st_xi (N := E.2.2.2.2.1) (by decide) (by decide) rfl (show 0 ≤ jw32 (x3 + 1) by omega) (show jw32 (x3 + 1) < ((E.2.2.2.2.1 : Nat) : Int) by omega) (fun v86 ev86 => ?_)
          replace ev86 : v86 = jxv E (-2) (jw32 (x3 + 1)) := ev86
          have e87 : jw32 (x3 + 2) = x3 + 2 := j32e (by omega) (by omega)
          refine st_xi (N := E.2.2.2.2.1) (by decide) (by decide) rfl (show 0 ≤ jw32 (x3 + 2) by omega) (show jw32 (x3 + 2) < ((E.2.2.2.2.1 : Nat) : Int) by omega) (fun v88 ev88 => ?_)
          replace ev88 : v88 = jxv E (-2) (jw32 (x3 + 2)) := ev88
          have e89 : jw32 (x3 + 3) = x3 + 3 := j32e (by omega) (by omega)
          refine st_xi (N := E.2.2.2.2.1) (by decide) (by decide) rfl (show 0 ≤ jw32 (x3 + 3) by omega) (show jw32 (x3 + 3) < ((E.2.2.2.2.1 : Nat) : Int) by omega) (fun v90 ev90 => ?_)
          replace ev90 : v90 = jxv E (-2) (jw32 (x3 + 3)) := ev90
          refine st_cv (na := 3) (st := [.inl v90, .inl v88, .inl v86, .inr (.inr (.inl 176))]) jo_176 rfl rfl rfl (c_X12_put v86 v88 v90 g82) rfl ?_
          rintro _ _ g92 ⟨rfl, ft91, t91, rfl, ht91, zt91⟩ kt91
          replace kt91 : -2147483648 ≤ t91 ∧ t91 ≤ 2147483647 := kt91
          replace ht91 : -7 ≤ t91 ∧ t91 ≤ 400 := ht91
          replace zt91 : P_X12_put v86 v88 v90 t91 g82 g92 := zt91
          have li93 : jLI g92 := jLI_fr (ft91 176 0 (by unfold w_X12_put; omega)) (ft91 0 0 (by unfold w_X12_put; omega)) (fun t => ft91 87 t (by unfold w_X12_put; omega)) li83
          have dli93 : g92 176 0 ≤ 2000 := li93.1
          rw [show v86 = v76 by omega, show v88 = v78 by omega, show v90 = v80 by omega] at zt91
          have qe95 := pr_put ft81 ft91 zt81 zt91 sm
          have eqe95 := qe95.1
          have sm94 : jI g92 := qe95.2
          clear qe95 zt91
          show jGo E l 179 0 229 _ 1410 [.inr (.inr (.inl (-2))), .inr (.inr (.inl 0)), .inr (.inr (.inl 176)), .inl x3] [] 229 jr0 g92
          refine jGo_blk qL_law_1410 ?_
          have e96 : jw32 (x3 + 6) = x3 + 6 := j32e (by omega) (by omega)
          show jGo E l 179 0 229 _ 18 [.inr (.inr (.inl (-2))), .inr (.inr (.inl 0)), .inr (.inr (.inl 176)), .inl (jw32 (x3 + 6))] [] 229 jr0 g92
          exact ih (jw32 (x3 + 6)) g92 (by omega) li93 sm94 (by omega)
        · replace c6 : jand v4 63 = 5 := c6
          show jGo E l 179 0 229 _ 357 [.inr (.inr (.inl (-2))), .inr (.inr (.inl 0)), .inr (.inr (.inl 176)), .inl x3] [] 229 jr0 g
          refine jGo_blk qL_law_357 ?_
          have e97 : jw32 (x3 + 1) = x3 + 1 := j32e (by omega) (by omega)
          refine st_xi (N := E.2.2.2.2.1) (by decide) (by decide) rfl (show 0 ≤ jw32 (x3 + 1) by omega) (show jw32 (x3 + 1) < ((E.2.2.2.2.1 : Nat) : Int) by omega) (fun v98 ev98 => ?_)
          replace ev98 : v98 = jxv E (-2) (jw32 (x3 + 1)) := ev98
          have e99 : jw32 (x3 + 2) = x3 + 2 := j32e (by omega) (by omega)
          refine st_xi (N := E.2.2.2.2.1) (by decide) (by decide) rfl (show 0 ≤ jw32 (x3 + 2) by omega) (show jw32 (x3 + 2) < ((E.2.2.2.2.1 : Nat) : Int) by omega) (fun v100 ev100 => ?_)
          replace ev100 : v100 = jxv E (-2) (jw32 (x3 + 2)) := ev100
          have e101 : jw32 (x3 + 3) = x3 + 3 := j32e (by omega) (by omega)
          refine st_xi (N := E.2.2.2.2.1) (by decide) (by decide) rfl (show 0 ≤ jw32 (x3 + 3) by omega) (show jw32 (x3 + 3) < ((E.2.2.2.2.1 : Nat) : Int) by omega) (fun v102 ev102 => ?_)
          replace ev102 : v102 = jxv E (-2) (jw32 (x3 + 3)) := ev102
          have e103 : jw32 (x3 + 4) = x3 + 4 := j32e (by omega) (by omega)
          refine st_xi (N := E.2.2.2.2.1) (by decide) (by decide) rfl (show 0 ≤ jw32 (x3 + 4) by omega) (show jw32 (x3 + 4) < ((E.2.2.2.2.1 : Nat) : Int) by omega) (fun v104 ev104 => ?_)
          replace ev104 : v104 = jxv E (-2) (jw32 (x3 + 4)) := ev104
          have e105 : jw32 (x3 + 5) = x3 + 5 := j32e (by omega) (by omega)
          refine st_xi (N := E.2.2.2.2.1) (by decide) (by decide) rfl (show 0 ≤ jw32 (x3 + 5) by omega) (show jw32 (x3 + 5) < ((E.2.2.2.2.1 : Nat) : Int) by omega) (fun v106 ev106 => ?_)
          replace ev106 : v106 = jxv E (-2) (jw32 (x3 + 5)) := ev106
          refine st_cv (na := 5) (st := [.inl v106, .inl v104, .inl v102, .inl v100, .inl v98, .inr (.inr (.inl 0))]) jo_0 rfl rfl rfl (c_X11_copy v98 v100 v102 v104 v106 g) rfl ?_
          rintro _ _ g108 ⟨rfl, ft107, t107, rfl, ht107, zt107⟩ kt107
          replace kt107 : -2147483648 ≤ t107 ∧ t107 ≤ 2147483647 := kt107
          replace zt107 : P_X11_copy v98 v100 v102 v104 v106 t107 g g108 := zt107
          have li109 : jLI g108 := jLI_fr (ft107 176 0 (by unfold w_X11_copy; omega)) (ft107 0 0 (by unfold w_X11_copy; omega)) (fun t => ft107 87 t (by unfold w_X11_copy; omega)) li
          have dli109 : g108 176 0 ≤ 2000 := li109.1
          have e111 : jw32 (x3 + 1) = x3 + 1 := j32e (by omega) (by omega)
          refine st_xi (N := E.2.2.2.2.1) (by decide) (by decide) rfl (show 0 ≤ jw32 (x3 + 1) by omega) (show jw32 (x3 + 1) < ((E.2.2.2.2.1 : Nat) : Int) by omega) (fun v112 ev112 => ?_)
          replace ev112 : v112 = jxv E (-2) (jw32 (x3 + 1)) := ev112
          have e113 : jw32 (x3 + 2) = x3 + 2 := j32e (by omega) (by omega)
          refine st_xi (N := E.2.2.2.2.1) (by decide) (by decide) rfl (show 0 ≤ jw32 (x3 + 2) by omega) (show jw32 (x3 + 2) < ((E.2.2.2.2.1 : Nat) : Int) by omega) (fun v114 ev114 => ?_)
          replace ev114 : v114 = jxv E (-2) (jw32 (x3 + 2)) := ev114
          have e115 : jw32 (x3 + 3) = x3 + 3 := j32e (by omega) (by omega)
          refine st_xi (N := E.2.2.2.2.1) (by decide) (by decide) rfl (show 0 ≤ jw32 (x3 + 3) by omega) (show jw32 (x3 + 3) < ((E.2.2.2.2.1 : Nat) : Int) by omega) (fun v116 ev116 => ?_)
          replace ev116 : v116 = jxv E (-2) (jw32 (x3 + 3)) := ev116
          have e117 : jw32 (x3 + 4) = x3 + 4 := j32e (by omega) (by omega)
          refine st_xi (N := E.2.2.2.2.1) (by decide) (by decide) rfl (show 0 ≤ jw32 (x3 + 4) by omega) (show jw32 (x3 + 4) < ((E.2.2.2.2.1 : Nat) : Int) by omega) (fun v118 ev118 => ?_)
          replace ev118 : v118 = jxv E (-2) (jw32 (x3 + 4)) := ev118
          have e119 : jw32 (x3 + 5) = x3 + 5 := j32e (by omega) (by omega)
          refine st_xi (N := E.2.2.2.2.1) (by decide) (by decide) rfl (show 0 ≤ jw32 (x3 + 5) by omega) (show jw32 (x3 + 5) < ((E.2.2.2.2.1 : Nat) : Int) by omega) (fun v120 ev120 => ?_)
          replace ev120 : v120 = jxv E (-2) (jw32 (x3 + 5)) := ev120
          refine st_cv (na := 5) (st := [.inl v120, .inl v118, .inl v116, .inl v114, .inl v112, .inr (.inr (.inl 176))]) jo_176 rfl rfl rfl (c_X12_copy v112 v114 v116 v118 v120 g108) rfl ?_
          rintro _ _ g122 ⟨rfl, ft121, t121, rfl, ht121, zt121⟩ kt121
          replace kt121 : -2147483648 ≤ t121 ∧ t121 ≤ 2147483647 := kt121
          replace ht121 : -7 ≤ t121 ∧ t121 ≤ 30 := ht121
          replace zt121 : P_X12_copy v112 v114 v116 v118 v120 t121 g108 g122 := zt121
          have li123 : jLI g122 := jLI_fr (ft121 176 0 (by unfold w_X12_copy; omega)) (ft121 0 0 (by unfold w_X12_copy; omega)) (fun t => ft121 87 t (by unfold w_X12_copy; omega)) li109
          have dli123 : g122 176 0 ≤ 2000 := li123.1
          rw [show v112 = v98 by omega, show v114 = v100 by omega, show v116 = v102 by omega, show v118 = v104 by omega, show v120 = v106 by omega] at zt121
          have qe125 := pr_copy ft107 ft121 zt107 zt121 sm
          have eqe125 := qe125.1
          have sm124 : jI g122 := qe125.2
          clear qe125 zt121
          show jGo E l 179 0 229 _ 1410 [.inr (.inr (.inl (-2))), .inr (.inr (.inl 0)), .inr (.inr (.inl 176)), .inl x3] [] 229 jr0 g122
          refine jGo_blk qL_law_1410 ?_
          have e126 : jw32 (x3 + 6) = x3 + 6 := j32e (by omega) (by omega)
          show jGo E l 179 0 229 _ 18 [.inr (.inr (.inl (-2))), .inr (.inr (.inl 0)), .inr (.inr (.inl 176)), .inl (jw32 (x3 + 6))] [] 229 jr0 g122
          exact ih (jw32 (x3 + 6)) g122 (by omega) li123 sm124 (by omega)
        · replace c6 : jand v4 63 = 6 := c6
          show jGo E l 179 0 229 _ 420 [.inr (.inr (.inl (-2))), .inr (.inr (.inl 0)), .inr (.inr (.inl 176)), .inl x3] [] 229 jr0 g
          refine jGo_blk qL_law_420 ?_
          have e127 : jw32 (x3 + 1) = x3 + 1 := j32e (by omega) (by omega)
          refine st_xi (N := E.2.2.2.2.1) (by decide) (by decide) rfl (show 0 ≤ jw32 (x3 + 1) by omega) (show jw32 (x3 + 1) < ((E.2.2.2.2.1 : Nat) : Int) by omega) (fun v128 ev128 => ?_)
          replace ev128 : v128 = jxv E (-2) (jw32 (x3 + 1)) := ev128
          have e129 : jw32 (x3 + 2) = x3 + 2 := j32e (by omega) (by omega)
          refine st_xi (N := E.2.2.2.2.1) (by decide) (by decide) rfl (show 0 ≤ jw32 (x3 + 2) by omega) (show jw32 (x3 + 2) < ((E.2.2.2.2.1 : Nat) : Int) by omega) (fun v130 ev130 => ?_)
          replace ev130 : v130 = jxv E (-2) (jw32 (x3 + 2)) := ev130
          refine st_cv (na := 2) (st := [.inl v130, .inl v128, .inr (.inr (.inl 0))]) jo_0 rfl rfl rfl (c_X11_lead v128 v130 g) rfl ?_
          rintro _ _ g132 ⟨rfl, ft131, t131, rfl, ht131, zt131⟩ kt131
          replace kt131 : -2147483648 ≤ t131 ∧ t131 ≤ 2147483647 := kt131
          replace ht131 : -1 ≤ t131 ∧ t131 ≤ 2000000007 := ht131
          replace zt131 : P_X11_lead v128 v130 t131 g g132 := zt131
          have li133 : jLI g132 := jLI_fr (ft131 176 0 (by unfold w_X11_lead; omega)) (ft131 0 0 (by unfold w_X11_lead; omega)) (fun t => ft131 87 t (by unfold w_X11_lead; omega)) li
          have dli133 : g132 176 0 ≤ 2000 := li133.1
          have e135 : jw32 (x3 + 1) = x3 + 1 := j32e (by omega) (by omega)
          refine st_xi (N := E.2.2.2.2.1) (by decide) (by decide) rfl (show 0 ≤ jw32 (x3 + 1) by omega) (show jw32 (x3 + 1) < ((E.2.2.2.2.1 : Nat) : Int) by omega) (fun v136 ev136 => ?_)
          replace ev136 : v136 = jxv E (-2) (jw32 (x3 + 1)) := ev136
          have e137 : jw32 (x3 + 2) = x3 + 2 := j32e (by omega) (by omega)
          refine st_xi (N := E.2.2.2.2.1) (by decide) (by decide) rfl (show 0 ≤ jw32 (x3 + 2) by omega) (show jw32 (x3 + 2) < ((E.2.2.2.2.1 : Nat) : Int) by omega) (fun v138 ev138 => ?_)
          replace ev138 : v138 = jxv E (-2) (jw32 (x3 + 2)) := ev138
          refine st_cv (na := 2) (st := [.inl v138, .inl v136, .inr (.inr (.inl 176))]) jo_176 rfl rfl rfl (c_X12_lead v136 v138 g132) rfl ?_
          rintro _ _ g140 ⟨rfl, ft139, t139, rfl, ht139, zt139⟩ kt139
          replace kt139 : -2147483648 ≤ t139 ∧ t139 ≤ 2147483647 := kt139
          replace ht139 : -1 ≤ t139 ∧ t139 ≤ 2000000007 := ht139
          replace zt139 : P_X12_lead v136 v138 t139 g132 g140 := zt139
          have li141 : jLI g140 := jLI_fr (ft139 176 0 (by unfold w_X12_lead; omega)) (ft139 0 0 (by unfold w_X12_lead; omega)) (fun t => ft139 87 t (by unfold w_X12_lead; omega)) li133
          have dli141 : g140 176 0 ≤ 2000 := li141.1
          rw [show v136 = v128 by omega, show v138 = v130 by omega] at zt139
          have qe143 := pr_lead ft131 ft139 zt131 zt139 sm
          have eqe143 := qe143.1
          have sm142 : jI g140 := qe143.2
          clear qe143 zt139
          show jGo E l 179 0 229 _ 1410 [.inr (.inr (.inl (-2))), .inr (.inr (.inl 0)), .inr (.inr (.inl 176)), .inl x3] [] 229 jr0 g140
          refine jGo_blk qL_law_1410 ?_
          have e144 : jw32 (x3 + 6) = x3 + 6 := j32e (by omega) (by omega)
          show jGo E l 179 0 229 _ 18 [.inr (.inr (.inl (-2))), .inr (.inr (.inl 0)), .inr (.inr (.inl 176)), .inl (jw32 (x3 + 6))] [] 229 jr0 g140
          exact ih (jw32 (x3 + 6)) g140 (by omega) li141 sm142 (by omega)
        · replace c6 : jand v4 63 = 7 := c6
          show jGo E l 179 0 229 _ 453 [.inr (.inr (.inl (-2))), .inr (.inr (.inl 0)), .inr (.inr (.inl 176)), .inl x3] [] 229 jr0 g
          refine jGo_blk qL_law_453 ?_
          have e145 : jw32 (x3 + 1) = x3 + 1 := j32e (by omega) (by omega)
          refine st_xi (N := E.2.2.2.2.1) (by decide) (by decide) rfl (show 0 ≤ jw32 (x3 + 1) by omega) (show jw32 (x3 + 1) < ((E.2.2.2.2.1 : Nat) : Int) by omega) (fun v146 ev146 => ?_)
          replace ev146 : v146 = jxv E (-2) (jw32 (x3 + 1)) := ev146
          have e147 : jw32 (x3 + 2) = x3 + 2 := j32e (by omega) (by omega)
          refine st_xi (N := E.2.2.2.2.1) (by decide) (by decide) rfl (show 0 ≤ jw32 (x3 + 2) by omega) (show jw32 (x3 + 2) < ((E.2.2.2.2.1 : Nat) : Int) by omega) (fun v148 ev148 => ?_)
          replace ev148 : v148 = jxv E (-2) (jw32 (x3 + 2)) := ev148
          refine st_cv (na := 2) (st := [.inl v148, .inl v146, .inr (.inr (.inl 0))]) jo_0 rfl rfl rfl (c_X11_handsOn v146 v148 g) rfl ?_
          rintro _ _ g150 ⟨rfl, ft149, t149, rfl, ht149, zt149⟩ kt149
          replace kt149 : -2147483648 ≤ t149 ∧ t149 ≤ 2147483647 := kt149
          replace ht149 : -7 ≤ t149 ∧ t149 ≤ 400 := ht149
          replace zt149 : P_X11_handsOn v146 v148 t149 g := zt149
          have li151 : jLI g150 := jLI_fr (ft149 176 0 (by unfold w_X11_handsOn; omega)) (ft149 0 0 (by unfold w_X11_handsOn; omega)) (fun t => ft149 87 t (by unfold w_X11_handsOn; omega)) li
          have dli151 : g150 176 0 ≤ 2000 := li151.1
          have e153 : jw32 (x3 + 1) = x3 + 1 := j32e (by omega) (by omega)
          refine st_xi (N := E.2.2.2.2.1) (by decide) (by decide) rfl (show 0 ≤ jw32 (x3 + 1) by omega) (show jw32 (x3 + 1) < ((E.2.2.2.2.1 : Nat) : Int) by omega) (fun v154 ev154 => ?_)
          replace ev154 : v154 = jxv E (-2) (jw32 (x3 + 1)) := ev154
          have e155 : jw32 (x3 + 2) = x3 + 2 := j32e (by omega) (by omega)
          refine st_xi (N := E.2.2.2.2.1) (by decide) (by decide) rfl (show 0 ≤ jw32 (x3 + 2) by omega) (show jw32 (x3 + 2) < ((E.2.2.2.2.1 : Nat) : Int) by omega) (fun v156 ev156 => ?_)
          replace ev156 : v156 = jxv E (-2) (jw32 (x3 + 2)) := ev156
          refine st_cv (na := 2) (st := [.inl v156, .inl v154, .inr (.inr (.inl 176)), .inl t149]) jo_176 rfl rfl rfl (c_X12_handsOn v154 v156 g150) rfl ?_
          rintro _ _ g158 ⟨rfl, ft157, t157, rfl, ht157, zt157⟩ kt157
          replace kt157 : -2147483648 ≤ t157 ∧ t157 ≤ 2147483647 := kt157
          replace ht157 : -7 ≤ t157 ∧ t157 ≤ 400 := ht157
          replace zt157 : P_X12_handsOn v154 v156 t157 g150 := zt157
          have li159 : jLI g158 := jLI_fr (ft157 176 0 (by unfold w_X12_handsOn; omega)) (ft157 0 0 (by unfold w_X12_handsOn; omega)) (fun t => ft157 87 t (by unfold w_X12_handsOn; omega)) li151
          have dli159 : g158 176 0 ≤ 2000 := li159.1
          rw [show v154 = v146 by omega, show v156 = v148 by omega] at zt157
          have qe161 := pr_handsOn ft149 ft157 zt149 zt157 sm
          have eqe161 := qe161.1
          have sm160 : jI g158 := qe161.2
          clear qe161 zt157
          refine And.intro (fun c162 => ?_) (fun c162 => ?_)
          · replace c162 : t149 = t157 := c162
            show jGo E l 179 0 229 _ 1410 [.inr (.inr (.inl (-2))), .inr (.inr (.inl 0)), .inr (.inr (.inl 176)), .inl x3] [] 229 jr0 g158
            refine jGo_blk qL_law_1410 ?_
            have e163 : jw32 (x3 + 6) = x3 + 6 := j32e (by omega) (by omega)
            show jGo E l 179 0 229 _ 18 [.inr (.inr (.inl (-2))), .inr (.inr (.inl 0)), .inr (.inr (.inl 176)), .inl (jw32 (x3 + 6))] [] 229 jr0 g158
            exact ih (jw32 (x3 + 6)) g158 (by omega) li159 sm160 (by omega)
          · replace c162 : ¬ t149 = t157 := by first | exact c162 | exact Int.not_le.mp c162 | exact Int.not_lt.mp c162 | exact Decidable.not_not.mp c162
            exfalso; omega
        · replace c6 : jand v4 63 = 8 := c6
          show jGo E l 179 0 229 _ 486 [.inr (.inr (.inl (-2))), .inr (.inr (.inl 0)), .inr (.inr (.inl 176)), .inl x3] [] 229 jr0 g
          refine jGo_blk qL_law_486 ?_
          have e164 : jw32 (x3 + 1) = x3 + 1 := j32e (by omega) (by omega)
          refine st_xi (N := E.2.2.2.2.1) (by decide) (by decide) rfl (show 0 ≤ jw32 (x3 + 1) by omega) (show jw32 (x3 + 1) < ((E.2.2.2.2.1 : Nat) : Int) by omega) (fun v165 ev165 => ?_)
          replace ev165 : v165 = jxv E (-2) (jw32 (x3 + 1)) := ev165
          have e166 : jw32 (x3 + 2) = x3 + 2 := j32e (by omega) (by omega)
          refine st_xi (N := E.2.2.2.2.1) (by decide) (by decide) rfl (show 0 ≤ jw32 (x3 + 2) by omega) (show jw32 (x3 + 2) < ((E.2.2.2.2.1 : Nat) : Int) by omega) (fun v167 ev167 => ?_)
          replace ev167 : v167 = jxv E (-2) (jw32 (x3 + 2)) := ev167
          have e168 : jw32 (x3 + 3) = x3 + 3 := j32e (by omega) (by omega)
          refine st_xi (N := E.2.2.2.2.1) (by decide) (by decide) rfl (show 0 ≤ jw32 (x3 + 3) by omega) (show jw32 (x3 + 3) < ((E.2.2.2.2.1 : Nat) : Int) by omega) (fun v169 ev169 => ?_)
          replace ev169 : v169 = jxv E (-2) (jw32 (x3 + 3)) := ev169
          have e170 : jw32 (x3 + 4) = x3 + 4 := j32e (by omega) (by omega)
          refine st_xi (N := E.2.2.2.2.1) (by decide) (by decide) rfl (show 0 ≤ jw32 (x3 + 4) by omega) (show jw32 (x3 + 4) < ((E.2.2.2.2.1 : Nat) : Int) by omega) (fun v171 ev171 => ?_)
          replace ev171 : v171 = jxv E (-2) (jw32 (x3 + 4)) := ev171
          refine st_cv (na := 4) (st := [.inl v171, .inl v169, .inl v167, .inl v165, .inr (.inr (.inl 0))]) jo_0 rfl rfl rfl (c_X11_decree v165 v167 v169 v171 g) rfl ?_
          rintro _ _ g173 ⟨rfl, ft172, t172, rfl, ht172, zt172⟩ kt172
          replace kt172 : -2147483648 ≤ t172 ∧ t172 ≤ 2147483647 := kt172
          replace ht172 : -7 ≤ t172 ∧ t172 ≤ 39 := ht172
          replace zt172 : P_X11_decree v165 v167 v169 v171 t172 g g173 := zt172
          have li174 : jLI g173 := jLI_fr (ft172 176 0 (by unfold w_X11_decree; omega)) (ft172 0 0 (by unfold w_X11_decree; omega)) (fun t => ft172 87 t (by unfold w_X11_decree; omega)) li
          have dli174 : g173 176 0 ≤ 2000 := li174.1
          have e176 : jw32 (x3 + 1) = x3 + 1 := j32e (by omega) (by omega)
          refine st_xi (N := E.2.2.2.2.1) (by decide) (by decide) rfl (show 0 ≤ jw32 (x3 + 1) by omega) (show jw32 (x3 + 1) < ((E.2.2.2.2.1 : Nat) : Int) by omega) (fun v177 ev177 => ?_)
          replace ev177 : v177 = jxv E (-2) (jw32 (x3 + 1)) := ev177
          have e178 : jw32 (x3 + 2) = x3 + 2 := j32e (by omega) (by omega)
          refine st_xi (N := E.2.2.2.2.1) (by decide) (by decide) rfl (show 0 ≤ jw32 (x3 + 2) by omega) (show jw32 (x3 + 2) < ((E.2.2.2.2.1 : Nat) : Int) by omega) (fun v179 ev179 => ?_)
          replace ev179 : v179 = jxv E (-2) (jw32 (x3 + 2)) := ev179
          have e180 : jw32 (x3 + 3) = x3 + 3 := j32e (by omega) (by omega)
          refine st_xi (N := E.2.2.2.2.1) (by decide) (by decide) rfl (show 0 ≤ jw32 (x3 + 3) by omega) (show jw32 (x3 + 3) < ((E.2.2.2.2.1 : Nat) : Int) by omega) (fun v181 ev181 => ?_)
          replace ev181 : v181 = jxv E (-2) (jw32 (x3 + 3)) := ev181
          have e182 : jw32 (x3 + 4) = x3 + 4 := j32e (by omega) (by omega)
          refine st_xi (N := E.2.2.2.2.1) (by decide) (by decide) rfl (show 0 ≤ jw32 (x3 + 4) by omega) (show jw32 (x3 + 4) < ((E.2.2.2.2.1 : Nat) : Int) by omega) (fun v183 ev183 => ?_)
          replace ev183 : v183 = jxv E (-2) (jw32 (x3 + 4)) := ev183
          refine st_cv (na := 4) (st := [.inl v183, .inl v181, .inl v179, .inl v177, .inr (.inr (.inl 176))]) jo_176 rfl rfl rfl (c_X12_decree v177 v179 v181 v183 g173) rfl ?_
          rintro _ _ g185 ⟨rfl, ft184, t184, rfl, ht184, zt184⟩ kt184
          replace kt184 : -2147483648 ≤ t184 ∧ t184 ≤ 2147483647 := kt184
          replace ht184 : -7 ≤ t184 ∧ t184 ≤ 39 := ht184
          replace zt184 : P_X12_decree v177 v179 v181 v183 t184 g173 g185 := zt184
          have li186 : jLI g185 := jLI_fr (ft184 176 0 (by unfold w_X12_decree; omega)) (ft184 0 0 (by unfold w_X12_decree; omega)) (fun t => ft184 87 t (by unfold w_X12_decree; omega)) li174
          have dli186 : g185 176 0 ≤ 2000 := li186.1
          rw [show v177 = v165 by omega, show v179 = v167 by omega, show v181 = v169 by omega, show v183 = v171 by omega] at zt184
          have qe188 := pr_decree ft172 ft184 zt172 zt184 sm dd0
          have eqe188 := qe188.1
          have sm187 : jI g185 := qe188.2
          clear qe188 zt184
          show jGo E l 179 0 229 _ 1410 [.inr (.inr (.inl (-2))), .inr (.inr (.inl 0)), .inr (.inr (.inl 176)), .inl x3] [] 229 jr0 g185
          refine jGo_blk qL_law_1410 ?_
          have e189 : jw32 (x3 + 6) = x3 + 6 := j32e (by omega) (by omega)
          show jGo E l 179 0 229 _ 18 [.inr (.inr (.inl (-2))), .inr (.inr (.inl 0)), .inr (.inr (.inl 176)), .inl (jw32 (x3 + 6))] [] 229 jr0 g185
          exact ih (jw32 (x3 + 6)) g185 (by omega) li186 sm187 (by omega)
        · replace c6 : jand v4 63 = 9 := c6
          show jGo E l 179 0 229 _ 539 [.inr (.inr (.inl (-2))), .inr (.inr (.inl 0)), .inr (.inr (.inl 176)), .inl x3] [] 229 jr0 g
          refine jGo_blk qL_law_539 ?_
          have e190 : jw32 (x3 + 1) = x3 + 1 := j32e (by omega) (by omega)
          refine st_xi (N := E.2.2.2.2.1) (by decide) (by decide) rfl (show 0 ≤ jw32 (x3 + 1) by omega) (show jw32 (x3 + 1) < ((E.2.2.2.2.1 : Nat) : Int) by omega) (fun v191 ev191 => ?_)
          replace ev191 : v191 = jxv E (-2) (jw32 (x3 + 1)) := ev191
          have e192 : jw32 (x3 + 2) = x3 + 2 := j32e (by omega) (by omega)
          refine st_xi (N := E.2.2.2.2.1) (by decide) (by decide) rfl (show 0 ≤ jw32 (x3 + 2) by omega) (show jw32 (x3 + 2) < ((E.2.2.2.2.1 : Nat) : Int) by omega) (fun v193 ev193 => ?_)
          replace ev193 : v193 = jxv E (-2) (jw32 (x3 + 2)) := ev193
          have e194 : jw32 (x3 + 3) = x3 + 3 := j32e (by omega) (by omega)
          refine st_xi (N := E.2.2.2.2.1) (by decide) (by decide) rfl (show 0 ≤ jw32 (x3 + 3) by omega) (show jw32 (x3 + 3) < ((E.2.2.2.2.1 : Nat) : Int) by omega) (fun v195 ev195 => ?_)
          replace ev195 : v195 = jxv E (-2) (jw32 (x3 + 3)) := ev195
          refine st_cv (na := 3) (st := [.inl v195, .inl v193, .inl v191, .inr (.inr (.inl 0))]) jo_0 rfl rfl rfl (c_X11_force v191 v193 v195 g) rfl ?_
          rintro _ _ g197 ⟨rfl, ft196, t196, rfl, ht196, zt196⟩ kt196
          replace kt196 : -2147483648 ≤ t196 ∧ t196 ≤ 2147483647 := kt196
          replace ht196 : -7 ≤ t196 ∧ t196 ≤ 200 := ht196
          replace zt196 : P_X11_force v191 v193 v195 t196 g := zt196
          have li198 : jLI g197 := jLI_fr (ft196 176 0 (by unfold w_X11_force; omega)) (ft196 0 0 (by unfold w_X11_force; omega)) (fun t => ft196 87 t (by unfold w_X11_force; omega)) li
          have dli198 : g197 176 0 ≤ 2000 := li198.1
          have e200 : jw32 (x3 + 1) = x3 + 1 := j32e (by omega) (by omega)
          refine st_xi (N := E.2.2.2.2.1) (by decide) (by decide) rfl (show 0 ≤ jw32 (x3 + 1) by omega) (show jw32 (x3 + 1) < ((E.2.2.2.2.1 : Nat) : Int) by omega) (fun v201 ev201 => ?_)
          replace ev201 : v201 = jxv E (-2) (jw32 (x3 + 1)) := ev201
          have e202 : jw32 (x3 + 2) = x3 + 2 := j32e (by omega) (by omega)
          refine st_xi (N := E.2.2.2.2.1) (by decide) (by decide) rfl (show 0 ≤ jw32 (x3 + 2) by omega) (show jw32 (x3 + 2) < ((E.2.2.2.2.1 : Nat) : Int) by omega) (fun v203 ev203 => ?_)
          replace ev203 : v203 = jxv E (-2) (jw32 (x3 + 2)) := ev203
          have e204 : jw32 (x3 + 3) = x3 + 3 := j32e (by omega) (by omega)
          refine st_xi (N := E.2.2.2.2.1) (by decide) (by decide) rfl (show 0 ≤ jw32 (x3 + 3) by omega) (show jw32 (x3 + 3) < ((E.2.2.2.2.1 : Nat) : Int) by omega) (fun v205 ev205 => ?_)
          replace ev205 : v205 = jxv E (-2) (jw32 (x3 + 3)) := ev205
          refine st_cv (na := 3) (st := [.inl v205, .inl v203, .inl v201, .inr (.inr (.inl 176))]) jo_176 rfl rfl rfl (c_X12_force v201 v203 v205 g197) rfl ?_
          rintro _ _ g207 ⟨rfl, ft206, t206, rfl, ht206, zt206⟩ kt206
          replace kt206 : -2147483648 ≤ t206 ∧ t206 ≤ 2147483647 := kt206
          replace ht206 : -7 ≤ t206 ∧ t206 ≤ 200 := ht206
          replace zt206 : P_X12_force v201 v203 v205 t206 g197 := zt206
          have li208 : jLI g207 := jLI_fr (ft206 176 0 (by unfold w_X12_force; omega)) (ft206 0 0 (by unfold w_X12_force; omega)) (fun t => ft206 87 t (by unfold w_X12_force; omega)) li198
          have dli208 : g207 176 0 ≤ 2000 := li208.1
          rw [show v201 = v191 by omega, show v203 = v193 by omega, show v205 = v195 by omega] at zt206
          have qe210 := pr_force ft196 ft206 zt196 zt206 sm
          have eqe210 := qe210.1
          have sm209 : jI g207 := qe210.2
          clear qe210 zt206
          show jGo E l 179 0 229 _ 1410 [.inr (.inr (.inl (-2))), .inr (.inr (.inl 0)), .inr (.inr (.inl 176)), .inl x3] [] 229 jr0 g207
          refine jGo_blk qL_law_1410 ?_
          have e211 : jw32 (x3 + 6) = x3 + 6 := j32e (by omega) (by omega)
          show jGo E l 179 0 229 _ 18 [.inr (.inr (.inl (-2))), .inr (.inr (.inl 0)), .inr (.inr (.inl 176)), .inl (jw32 (x3 + 6))] [] 229 jr0 g207
          exact ih (jw32 (x3 + 6)) g207 (by omega) li208 sm209 (by omega)
        · replace c6 : jand v4 63 = 10 := c6
          show jGo E l 179 0 229 _ 582 [.inr (.inr (.inl (-2))), .inr (.inr (.inl 0)), .inr (.inr (.inl 176)), .inl x3] [] 229 jr0 g
          refine jGo_blk qL_law_582 ?_
          have e212 : jw32 (x3 + 1) = x3 + 1 := j32e (by omega) (by omega)
          refine st_xi (N := E.2.2.2.2.1) (by decide) (by decide) rfl (show 0 ≤ jw32 (x3 + 1) by omega) (show jw32 (x3 + 1) < ((E.2.2.2.2.1 : Nat) : Int) by omega) (fun v213 ev213 => ?_)
          replace ev213 : v213 = jxv E (-2) (jw32 (x3 + 1)) := ev213
          have e214 : jw32 (x3 + 2) = x3 + 2 := j32e (by omega) (by omega)
          refine st_xi (N := E.2.2.2.2.1) (by decide) (by decide) rfl (show 0 ≤ jw32 (x3 + 2) by omega) (show jw32 (x3 + 2) < ((E.2.2.2.2.1 : Nat) : Int) by omega) (fun v215 ev215 => ?_)
          replace ev215 : v215 = jxv E (-2) (jw32 (x3 + 2)) := ev215
          have e216 : jw32 (x3 + 3) = x3 + 3 := j32e (by omega) (by omega)
          refine st_xi (N := E.2.2.2.2.1) (by decide) (by decide) rfl (show 0 ≤ jw32 (x3 + 3) by omega) (show jw32 (x3 + 3) < ((E.2.2.2.2.1 : Nat) : Int) by omega) (fun v217 ev217 => ?_)
          replace ev217 : v217 = jxv E (-2) (jw32 (x3 + 3)) := ev217
          have e218 : jw32 (x3 + 4) = x3 + 4 := j32e (by omega) (by omega)
          refine st_xi (N := E.2.2.2.2.1) (by decide) (by decide) rfl (show 0 ≤ jw32 (x3 + 4) by omega) (show jw32 (x3 + 4) < ((E.2.2.2.2.1 : Nat) : Int) by omega) (fun v219 ev219 => ?_)
          replace ev219 : v219 = jxv E (-2) (jw32 (x3 + 4)) := ev219
          refine st_cv (na := 4) (st := [.inl v219, .inl v217, .inl v215, .inl v213, .inr (.inr (.inl 0))]) jo_0 rfl rfl rfl (c_X11_task v213 v215 v217 v219 g) rfl ?_
          rintro _ _ g221 ⟨rfl, ft220, t220, rfl, ht220, zt220⟩ kt220
          replace kt220 : -2147483648 ≤ t220 ∧ t220 ≤ 2147483647 := kt220
          replace ht220 : -7 ≤ t220 ∧ t220 ≤ 2000 := ht220
          replace zt220 : P_X11_task v213 v215 v217 v219 t220 g g221 := zt220
          have li222 : jLI g221 := jLI_fr (ft220 176 0 (by unfold w_X11_task; omega)) (ft220 0 0 (by unfold w_X11_task; omega)) (fun t => ft220 87 t (by unfold w_X11_task; omega)) li
          have dli222 : g221 176 0 ≤ 2000 := li222.1
          have e224 : jw32 (x3 + 1) = x3 + 1 := j32e (by omega) (by omega)
          refine st_xi (N := E.2.2.2.2.1) (by decide) (by decide) rfl (show 0 ≤ jw32 (x3 + 1) by omega) (show jw32 (x3 + 1) < ((E.2.2.2.2.1 : Nat) : Int) by omega) (fun v225 ev225 => ?_)
          replace ev225 : v225 = jxv E (-2) (jw32 (x3 + 1)) := ev225
          have e226 : jw32 (x3 + 2) = x3 + 2 := j32e (by omega) (by omega)
          refine st_xi (N := E.2.2.2.2.1) (by decide) (by decide) rfl (show 0 ≤ jw32 (x3 + 2) by omega) (show jw32 (x3 + 2) < ((E.2.2.2.2.1 : Nat) : Int) by omega) (fun v227 ev227 => ?_)
          replace ev227 : v227 = jxv E (-2) (jw32 (x3 + 2)) := ev227
          have e228 : jw32 (x3 + 3) = x3 + 3 := j32e (by omega) (by omega)
          refine st_xi (N := E.2.2.2.2.1) (by decide) (by decide) rfl (show 0 ≤ jw32 (x3 + 3) by omega) (show jw32 (x3 + 3) < ((E.2.2.2.2.1 : Nat) : Int) by omega) (fun v229 ev229 => ?_)
          replace ev229 : v229 = jxv E (-2) (jw32 (x3 + 3)) := ev229
          have e230 : jw32 (x3 + 4) = x3 + 4 := j32e (by omega) (by omega)
          refine st_xi (N := E.2.2.2.2.1) (by decide) (by decide) rfl (show 0 ≤ jw32 (x3 + 4) by omega) (show jw32 (x3 + 4) < ((E.2.2.2.2.1 : Nat) : Int) by omega) (fun v231 ev231 => ?_)
          replace ev231 : v231 = jxv E (-2) (jw32 (x3 + 4)) := ev231
          refine st_cv (na := 4) (st := [.inl v231, .inl v229, .inl v227, .inl v225, .inr (.inr (.inl 176))]) jo_176 rfl rfl rfl (c_X12_task v225 v227 v229 v231 g221) rfl ?_
          rintro _ _ g233 ⟨rfl, ft232, t232, rfl, ht232, zt232⟩ kt232
          replace kt232 : -2147483648 ≤ t232 ∧ t232 ≤ 2147483647 := kt232
          replace ht232 : -7 ≤ t232 ∧ t232 ≤ 2000 := ht232
          replace zt232 : P_X12_task v225 v227 v229 v231 t232 g221 g233 := zt232
          have li234 : jLI g233 := jLI_fr (ft232 176 0 (by unfold w_X12_task; omega)) (ft232 0 0 (by unfold w_X12_task; omega)) (fun t => ft232 87 t (by unfold w_X12_task; omega)) li222
          have dli234 : g233 176 0 ≤ 2000 := li234.1
          rw [show v225 = v213 by omega, show v227 = v215 by omega, show v229 = v217 by omega, show v231 = v219 by omega] at zt232
          have qe236 := pr_task ft220 ft232 zt220 zt232 sm
          have eqe236 := qe236.1
          have sm235 : jI g233 := qe236.2
          clear qe236 zt232
          show jGo E l 179 0 229 _ 1410 [.inr (.inr (.inl (-2))), .inr (.inr (.inl 0)), .inr (.inr (.inl 176)), .inl x3] [] 229 jr0 g233
          refine jGo_blk qL_law_1410 ?_
          have e237 : jw32 (x3 + 6) = x3 + 6 := j32e (by omega) (by omega)
          show jGo E l 179 0 229 _ 18 [.inr (.inr (.inl (-2))), .inr (.inr (.inl 0)), .inr (.inr (.inl 176)), .inl (jw32 (x3 + 6))] [] 229 jr0 g233
          exact ih (jw32 (x3 + 6)) g233 (by omega) li234 sm235 (by omega)
        · replace c6 : jand v4 63 = 11 := c6
          show jGo E l 179 0 229 _ 635 [.inr (.inr (.inl (-2))), .inr (.inr (.inl 0)), .inr (.inr (.inl 176)), .inl x3] [] 229 jr0 g
          refine jGo_blk qL_law_635 ?_
          have e238 : jw32 (x3 + 1) = x3 + 1 := j32e (by omega) (by omega)
          refine st_xi (N := E.2.2.2.2.1) (by decide) (by decide) rfl (show 0 ≤ jw32 (x3 + 1) by omega) (show jw32 (x3 + 1) < ((E.2.2.2.2.1 : Nat) : Int) by omega) (fun v239 ev239 => ?_)
          replace ev239 : v239 = jxv E (-2) (jw32 (x3 + 1)) := ev239
          have e240 : jw32 (x3 + 2) = x3 + 2 := j32e (by omega) (by omega)
          refine st_xi (N := E.2.2.2.2.1) (by decide) (by decide) rfl (show 0 ≤ jw32 (x3 + 2) by omega) (show jw32 (x3 + 2) < ((E.2.2.2.2.1 : Nat) : Int) by omega) (fun v241 ev241 => ?_)
          replace ev241 : v241 = jxv E (-2) (jw32 (x3 + 2)) := ev241
          have e242 : jw32 (x3 + 3) = x3 + 3 := j32e (by omega) (by omega)
          refine st_xi (N := E.2.2.2.2.1) (by decide) (by decide) rfl (show 0 ≤ jw32 (x3 + 3) by omega) (show jw32 (x3 + 3) < ((E.2.2.2.2.1 : Nat) : Int) by omega) (fun v243 ev243 => ?_)
          replace ev243 : v243 = jxv E (-2) (jw32 (x3 + 3)) := ev243
          have e244 : jw32 (x3 + 4) = x3 + 4 := j32e (by omega) (by omega)
          refine st_xi (N := E.2.2.2.2.1) (by decide) (by decide) rfl (show 0 ≤ jw32 (x3 + 4) by omega) (show jw32 (x3 + 4) < ((E.2.2.2.2.1 : Nat) : Int) by omega) (fun v245 ev245 => ?_)
          replace ev245 : v245 = jxv E (-2) (jw32 (x3 + 4)) := ev245
          refine st_cv (na := 4) (st := [.inl v245, .inl v243, .inl v241, .inl v239, .inr (.inr (.inl 0))]) jo_0 rfl rfl rfl (c_X11_needs v239 v241 v243 v245 g) rfl ?_
          rintro _ _ g247 ⟨rfl, ft246, t246, rfl, ht246, zt246⟩ kt246
          replace kt246 : -2147483648 ≤ t246 ∧ t246 ≤ 2147483647 := kt246
          replace ht246 : -7 ≤ t246 ∧ t246 ≤ 500 := ht246
          replace zt246 : P_X11_needs v239 v241 v243 v245 t246 g g247 := zt246
          have li248 : jLI g247 := jLI_fr (ft246 176 0 (by unfold w_X11_needs; omega)) (ft246 0 0 (by unfold w_X11_needs; omega)) (fun t => ft246 87 t (by unfold w_X11_needs; omega)) li
          have dli248 : g247 176 0 ≤ 2000 := li248.1
          have e250 : jw32 (x3 + 1) = x3 + 1 := j32e (by omega) (by omega)
          refine st_xi (N := E.2.2.2.2.1) (by decide) (by decide) rfl (show 0 ≤ jw32 (x3 + 1) by omega) (show jw32 (x3 + 1) < ((E.2.2.2.2.1 : Nat) : Int) by omega) (fun v251 ev251 => ?_)
          replace ev251 : v251 = jxv E (-2) (jw32 (x3 + 1)) := ev251
          have e252 : jw32 (x3 + 2) = x3 + 2 := j32e (by omega) (by omega)
          refine st_xi (N := E.2.2.2.2.1) (by decide) (by decide) rfl (show 0 ≤ jw32 (x3 + 2) by omega) (show jw32 (x3 + 2) < ((E.2.2.2.2.1 : Nat) : Int) by omega) (fun v253 ev253 => ?_)
          replace ev253 : v253 = jxv E (-2) (jw32 (x3 + 2)) := ev253
          have e254 : jw32 (x3 + 3) = x3 + 3 := j32e (by omega) (by omega)
          refine st_xi (N := E.2.2.2.2.1) (by decide) (by decide) rfl (show 0 ≤ jw32 (x3 + 3) by omega) (show jw32 (x3 + 3) < ((E.2.2.2.2.1 : Nat) : Int) by omega) (fun v255 ev255 => ?_)
          replace ev255 : v255 = jxv E (-2) (jw32 (x3 + 3)) := ev255
          have e256 : jw32 (x3 + 4) = x3 + 4 := j32e (by omega) (by omega)
          refine st_xi (N := E.2.2.2.2.1) (by decide) (by decide) rfl (show 0 ≤ jw32 (x3 + 4) by omega) (show jw32 (x3 + 4) < ((E.2.2.2.2.1 : Nat) : Int) by omega) (fun v257 ev257 => ?_)
          replace ev257 : v257 = jxv E (-2) (jw32 (x3 + 4)) := ev257
          refine st_cv (na := 4) (st := [.inl v257, .inl v255, .inl v253, .inl v251, .inr (.inr (.inl 176))]) jo_176 rfl rfl rfl (c_X12_needs v251 v253 v255 v257 g247) rfl ?_
          rintro _ _ g259 ⟨rfl, ft258, t258, rfl, ht258, zt258⟩ kt258
          replace kt258 : -2147483648 ≤ t258 ∧ t258 ≤ 2147483647 := kt258
          replace ht258 : -7 ≤ t258 ∧ t258 ≤ 500 := ht258
          replace zt258 : P_X12_needs v251 v253 v255 v257 t258 g247 g259 := zt258
          have li260 : jLI g259 := jLI_fr (ft258 176 0 (by unfold w_X12_needs; omega)) (ft258 0 0 (by unfold w_X12_needs; omega)) (fun t => ft258 87 t (by unfold w_X12_needs; omega)) li248
          have dli260 : g259 176 0 ≤ 2000 := li260.1
          rw [show v251 = v239 by omega, show v253 = v241 by omega, show v255 = v243 by omega, show v257 = v245 by omega] at zt258
          have qe262 := pr_needs ft246 ft258 zt246 zt258 sm
          have eqe262 := qe262.1
          have sm261 : jI g259 := qe262.2
          clear qe262 zt258
          show jGo E l 179 0 229 _ 1410 [.inr (.inr (.inl (-2))), .inr (.inr (.inl 0)), .inr (.inr (.inl 176)), .inl x3] [] 229 jr0 g259
          refine jGo_blk qL_law_1410 ?_
          have e263 : jw32 (x3 + 6) = x3 + 6 := j32e (by omega) (by omega)
          show jGo E l 179 0 229 _ 18 [.inr (.inr (.inl (-2))), .inr (.inr (.inl 0)), .inr (.inr (.inl 176)), .inl (jw32 (x3 + 6))] [] 229 jr0 g259
          exact ih (jw32 (x3 + 6)) g259 (by omega) li260 sm261 (by omega)
        · replace c6 : jand v4 63 = 12 := c6
          show jGo E l 179 0 229 _ 688 [.inr (.inr (.inl (-2))), .inr (.inr (.inl 0)), .inr (.inr (.inl 176)), .inl x3] [] 229 jr0 g
          refine jGo_blk qL_law_688 ?_
          have e264 : jw32 (x3 + 1) = x3 + 1 := j32e (by omega) (by omega)
          refine st_xi (N := E.2.2.2.2.1) (by decide) (by decide) rfl (show 0 ≤ jw32 (x3 + 1) by omega) (show jw32 (x3 + 1) < ((E.2.2.2.2.1 : Nat) : Int) by omega) (fun v265 ev265 => ?_)
          replace ev265 : v265 = jxv E (-2) (jw32 (x3 + 1)) := ev265
          have e266 : jw32 (x3 + 2) = x3 + 2 := j32e (by omega) (by omega)
          refine st_xi (N := E.2.2.2.2.1) (by decide) (by decide) rfl (show 0 ≤ jw32 (x3 + 2) by omega) (show jw32 (x3 + 2) < ((E.2.2.2.2.1 : Nat) : Int) by omega) (fun v267 ev267 => ?_)
          replace ev267 : v267 = jxv E (-2) (jw32 (x3 + 2)) := ev267
          have e268 : jw32 (x3 + 3) = x3 + 3 := j32e (by omega) (by omega)
          refine st_xi (N := E.2.2.2.2.1) (by decide) (by decide) rfl (show 0 ≤ jw32 (x3 + 3) by omega) (show jw32 (x3 + 3) < ((E.2.2.2.2.1 : Nat) : Int) by omega) (fun v269 ev269 => ?_)
          replace ev269 : v269 = jxv E (-2) (jw32 (x3 + 3)) := ev269
          refine st_cv (na := 3) (st := [.inl v269, .inl v267, .inl v265, .inr (.inr (.inl 0))]) jo_0 rfl rfl rfl (c_X11_hull v265 v267 v269 g) rfl ?_
          rintro _ _ g271 ⟨rfl, ft270, t270, rfl, ht270, zt270⟩ kt270
          replace kt270 : -2147483648 ≤ t270 ∧ t270 ≤ 2147483647 := kt270
          replace ht270 : -7 ≤ t270 ∧ t270 ≤ 15 := ht270
          replace zt270 : P_X11_hull v265 v267 v269 t270 g g271 := zt270
          have li272 : jLI g271 := jLI_fr (ft270 176 0 (by unfold w_X11_hull; omega)) (ft270 0 0 (by unfold w_X11_hull; omega)) (fun t => ft270 87 t (by unfold w_X11_hull; omega)) li
          have dli272 : g271 176 0 ≤ 2000 := li272.1
          have e274 : jw32 (x3 + 1) = x3 + 1 := j32e (by omega) (by omega)
          refine st_xi (N := E.2.2.2.2.1) (by decide) (by decide) rfl (show 0 ≤ jw32 (x3 + 1) by omega) (show jw32 (x3 + 1) < ((E.2.2.2.2.1 : Nat) : Int) by omega) (fun v275 ev275 => ?_)
          replace ev275 : v275 = jxv E (-2) (jw32 (x3 + 1)) := ev275
          have e276 : jw32 (x3 + 2) = x3 + 2 := j32e (by omega) (by omega)
          refine st_xi (N := E.2.2.2.2.1) (by decide) (by decide) rfl (show 0 ≤ jw32 (x3 + 2) by omega) (show jw32 (x3 + 2) < ((E.2.2.2.2.1 : Nat) : Int) by omega) (fun v277 ev277 => ?_)
          replace ev277 : v277 = jxv E (-2) (jw32 (x3 + 2)) := ev277
          have e278 : jw32 (x3 + 3) = x3 + 3 := j32e (by omega) (by omega)
          refine st_xi (N := E.2.2.2.2.1) (by decide) (by decide) rfl (show 0 ≤ jw32 (x3 + 3) by omega) (show jw32 (x3 + 3) < ((E.2.2.2.2.1 : Nat) : Int) by omega) (fun v279 ev279 => ?_)
          replace ev279 : v279 = jxv E (-2) (jw32 (x3 + 3)) := ev279
          refine st_cv (na := 3) (st := [.inl v279, .inl v277, .inl v275, .inr (.inr (.inl 176))]) jo_176 rfl rfl rfl (c_X12_hull v275 v277 v279 g271) rfl ?_
          rintro _ _ g281 ⟨rfl, ft280, t280, rfl, ht280, zt280⟩ kt280
          replace kt280 : -2147483648 ≤ t280 ∧ t280 ≤ 2147483647 := kt280
          replace ht280 : -7 ≤ t280 ∧ t280 ≤ 15 := ht280
          replace zt280 : P_X12_hull v275 v277 v279 t280 g271 g281 := zt280
          have li282 : jLI g281 := jLI_fr (ft280 176 0 (by unfold w_X12_hull; omega)) (ft280 0 0 (by unfold w_X12_hull; omega)) (fun t => ft280 87 t (by unfold w_X12_hull; omega)) li272
          have dli282 : g281 176 0 ≤ 2000 := li282.1
          rw [show v275 = v265 by omega, show v277 = v267 by omega, show v279 = v269 by omega] at zt280
          have qe284 := pr_hull ft270 ft280 zt270 zt280 sm
          have eqe284 := qe284.1
          have sm283 : jI g281 := qe284.2
          clear qe284 zt280
          show jGo E l 179 0 229 _ 1410 [.inr (.inr (.inl (-2))), .inr (.inr (.inl 0)), .inr (.inr (.inl 176)), .inl x3] [] 229 jr0 g281
          refine jGo_blk qL_law_1410 ?_
          have e285 : jw32 (x3 + 6) = x3 + 6 := j32e (by omega) (by omega)
          show jGo E l 179 0 229 _ 18 [.inr (.inr (.inl (-2))), .inr (.inr (.inl 0)), .inr (.inr (.inl 176)), .inl (jw32 (x3 + 6))] [] 229 jr0 g281
          exact ih (jw32 (x3 + 6)) g281 (by omega) li282 sm283 (by omega)
        · replace c6 : jand v4 63 = 13 := c6
          show jGo E l 179 0 229 _ 731 [.inr (.inr (.inl (-2))), .inr (.inr (.inl 0)), .inr (.inr (.inl 176)), .inl x3] [] 229 jr0 g
          refine jGo_blk qL_law_731 ?_
          have e286 : jw32 (x3 + 1) = x3 + 1 := j32e (by omega) (by omega)
          refine st_xi (N := E.2.2.2.2.1) (by decide) (by decide) rfl (show 0 ≤ jw32 (x3 + 1) by omega) (show jw32 (x3 + 1) < ((E.2.2.2.2.1 : Nat) : Int) by omega) (fun v287 ev287 => ?_)
          replace ev287 : v287 = jxv E (-2) (jw32 (x3 + 1)) := ev287
          have e288 : jw32 (x3 + 2) = x3 + 2 := j32e (by omega) (by omega)
          refine st_xi (N := E.2.2.2.2.1) (by decide) (by decide) rfl (show 0 ≤ jw32 (x3 + 2) by omega) (show jw32 (x3 + 2) < ((E.2.2.2.2.1 : Nat) : Int) by omega) (fun v289 ev289 => ?_)
          replace ev289 : v289 = jxv E (-2) (jw32 (x3 + 2)) := ev289
          refine st_cv (na := 2) (st := [.inl v289, .inl v287, .inr (.inr (.inl 0))]) jo_0 rfl rfl rfl (c_X11_priority v287 v289 g) rfl ?_
          rintro _ _ g291 ⟨rfl, ft290, t290, rfl, ht290, zt290⟩ kt290
          replace kt290 : -2147483648 ≤ t290 ∧ t290 ≤ 2147483647 := kt290
          replace ht290 : -7 ≤ t290 ∧ t290 ≤ 99 := ht290
          have li292 : jLI g291 := jLI_fr (ft290 176 0 (by unfold w_X11_priority; omega)) (ft290 0 0 (by unfold w_X11_priority; omega)) (fun t => ft290 87 t (by unfold w_X11_priority; omega)) li
          have dli292 : g291 176 0 ≤ 2000 := li292.1
          have e294 : jw32 (x3 + 1) = x3 + 1 := j32e (by omega) (by omega)
          refine st_xi (N := E.2.2.2.2.1) (by decide) (by decide) rfl (show 0 ≤ jw32 (x3 + 1) by omega) (show jw32 (x3 + 1) < ((E.2.2.2.2.1 : Nat) : Int) by omega) (fun v295 ev295 => ?_)
          replace ev295 : v295 = jxv E (-2) (jw32 (x3 + 1)) := ev295
          have e296 : jw32 (x3 + 2) = x3 + 2 := j32e (by omega) (by omega)
          refine st_xi (N := E.2.2.2.2.1) (by decide) (by decide) rfl (show 0 ≤ jw32 (x3 + 2) by omega) (show jw32 (x3 + 2) < ((E.2.2.2.2.1 : Nat) : Int) by omega) (fun v297 ev297 => ?_)
          replace ev297 : v297 = jxv E (-2) (jw32 (x3 + 2)) := ev297
          refine st_cv (na := 2) (st := [.inl v297, .inl v295, .inr (.inr (.inl 176))]) jo_176 rfl rfl rfl (c_X12_priority v295 v297 g291) rfl ?_
          rintro _ _ g299 ⟨rfl, ft298, t298, rfl, ht298, zt298⟩ kt298
          replace kt298 : -2147483648 ≤ t298 ∧ t298 ≤ 2147483647 := kt298
          replace ht298 : -7 ≤ t298 ∧ t298 ≤ 99 := ht298
          have li300 : jLI g299 := jLI_fr (ft298 176 0 (by unfold w_X12_priority; omega)) (ft298 0 0 (by unfold w_X12_priority; omega)) (fun t => ft298 87 t (by unfold w_X12_priority; omega)) li292
          have dli300 : g299 176 0 ≤ 2000 := li300.1
          have sm301 : jI g299 := pf_priority ft290 ft298 sm
          show jGo E l 179 0 229 _ 1410 [.inr (.inr (.inl (-2))), .inr (.inr (.inl 0)), .inr (.inr (.inl 176)), .inl x3] [] 229 jr0 g299
          refine jGo_blk qL_law_1410 ?_
          have e302 : jw32 (x3 + 6) = x3 + 6 := j32e (by omega) (by omega)
          show jGo E l 179 0 229 _ 18 [.inr (.inr (.inl (-2))), .inr (.inr (.inl 0)), .inr (.inr (.inl 176)), .inl (jw32 (x3 + 6))] [] 229 jr0 g299
          exact ih (jw32 (x3 + 6)) g299 (by omega) li300 sm301 (by omega)
        · replace c6 : jand v4 63 = 14 := c6
          show jGo E l 179 0 229 _ 764 [.inr (.inr (.inl (-2))), .inr (.inr (.inl 0)), .inr (.inr (.inl 176)), .inl x3] [] 229 jr0 g
          refine jGo_blk qL_law_764 ?_
          have e303 : jw32 (x3 + 1) = x3 + 1 := j32e (by omega) (by omega)
          refine st_xi (N := E.2.2.2.2.1) (by decide) (by decide) rfl (show 0 ≤ jw32 (x3 + 1) by omega) (show jw32 (x3 + 1) < ((E.2.2.2.2.1 : Nat) : Int) by omega) (fun v304 ev304 => ?_)
          replace ev304 : v304 = jxv E (-2) (jw32 (x3 + 1)) := ev304
          have e305 : jw32 (x3 + 2) = x3 + 2 := j32e (by omega) (by omega)
          refine st_xi (N := E.2.2.2.2.1) (by decide) (by decide) rfl (show 0 ≤ jw32 (x3 + 2) by omega) (show jw32 (x3 + 2) < ((E.2.2.2.2.1 : Nat) : Int) by omega) (fun v306 ev306 => ?_)
          replace ev306 : v306 = jxv E (-2) (jw32 (x3 + 2)) := ev306
          refine st_cv (na := 2) (st := [.inl v306, .inl v304, .inr (.inr (.inl 0))]) jo_0 rfl rfl rfl (c_X11_raft v304 v306 g) rfl ?_
          rintro _ _ g308 ⟨rfl, ft307, t307, rfl, ht307, zt307⟩ kt307
          replace kt307 : -2147483648 ≤ t307 ∧ t307 ≤ 2147483647 := kt307
          replace ht307 : -7 ≤ t307 ∧ t307 ≤ 1 := ht307
          have li309 : jLI g308 := jLI_fr (ft307 176 0 (by unfold w_X11_raft; omega)) (ft307 0 0 (by unfold w_X11_raft; omega)) (fun t => ft307 87 t (by unfold w_X11_raft; omega)) li
          have dli309 : g308 176 0 ≤ 2000 := li309.1
          have e311 : jw32 (x3 + 1) = x3 + 1 := j32e (by omega) (by omega)
          refine st_xi (N := E.2.2.2.2.1) (by decide) (by decide) rfl (show 0 ≤ jw32 (x3 + 1) by omega) (show jw32 (x3 + 1) < ((E.2.2.2.2.1 : Nat) : Int) by omega) (fun v312 ev312 => ?_)
          replace ev312 : v312 = jxv E (-2) (jw32 (x3 + 1)) := ev312
          have e313 : jw32 (x3 + 2) = x3 + 2 := j32e (by omega) (by omega)
          refine st_xi (N := E.2.2.2.2.1) (by decide) (by decide) rfl (show 0 ≤ jw32 (x3 + 2) by omega) (show jw32 (x3 + 2) < ((E.2.2.2.2.1 : Nat) : Int) by omega) (fun v314 ev314 => ?_)
          replace ev314 : v314 = jxv E (-2) (jw32 (x3 + 2)) := ev314
          refine st_cv (na := 2) (st := [.inl v314, .inl v312, .inr (.inr (.inl 176))]) jo_176 rfl rfl rfl (c_X12_raft v312 v314 g308) rfl ?_
          rintro _ _ g316 ⟨rfl, ft315, t315, rfl, ht315, zt315⟩ kt315
          replace kt315 : -2147483648 ≤ t315 ∧ t315 ≤ 2147483647 := kt315
          replace ht315 : -7 ≤ t315 ∧ t315 ≤ 1 := ht315
          have li317 : jLI g316 := jLI_fr (ft315 176 0 (by unfold w_X12_raft; omega)) (ft315 0 0 (by unfold w_X12_raft; omega)) (fun t => ft315 87 t (by unfold w_X12_raft; omega)) li309
          have dli317 : g316 176 0 ≤ 2000 := li317.1
          have sm318 : jI g316 := pf_raft ft307 ft315 sm
          show jGo E l 179 0 229 _ 1410 [.inr (.inr (.inl (-2))), .inr (.inr (.inl 0)), .inr (.inr (.inl 176)), .inl x3] [] 229 jr0 g316
          refine jGo_blk qL_law_1410 ?_
          have e319 : jw32 (x3 + 6) = x3 + 6 := j32e (by omega) (by omega)
          show jGo E l 179 0 229 _ 18 [.inr (.inr (.inl (-2))), .inr (.inr (.inl 0)), .inr (.inr (.inl 176)), .inl (jw32 (x3 + 6))] [] 229 jr0 g316
          exact ih (jw32 (x3 + 6)) g316 (by omega) li317 sm318 (by omega)
        · replace c6 : jand v4 63 = 15 := c6
          show jGo E l 179 0 229 _ 797 [.inr (.inr (.inl (-2))), .inr (.inr (.inl 0)), .inr (.inr (.inl 176)), .inl x3] [] 229 jr0 g
          refine jGo_blk qL_law_797 ?_
          have e320 : jw32 (x3 + 1) = x3 + 1 := j32e (by omega) (by omega)
          refine st_xi (N := E.2.2.2.2.1) (by decide) (by decide) rfl (show 0 ≤ jw32 (x3 + 1) by omega) (show jw32 (x3 + 1) < ((E.2.2.2.2.1 : Nat) : Int) by omega) (fun v321 ev321 => ?_)
          replace ev321 : v321 = jxv E (-2) (jw32 (x3 + 1)) := ev321
          refine st_cv (na := 1) (st := [.inl v321, .inr (.inr (.inl 0))]) jo_0 rfl rfl rfl (c_X11_unraft v321 g) rfl ?_
          rintro _ _ g323 ⟨rfl, ft322, t322, rfl, ht322, zt322⟩ kt322
          replace kt322 : -2147483648 ≤ t322 ∧ t322 ≤ 2147483647 := kt322
          have li324 : jLI g323 := jLI_fr (ft322 176 0 (by unfold w_X11_unraft; omega)) (ft322 0 0 (by unfold w_X11_unraft; omega)) (fun t => ft322 87 t (by unfold w_X11_unraft; omega)) li
          have dli324 : g323 176 0 ≤ 2000 := li324.1
          have e326 : jw32 (x3 + 1) = x3 + 1 := j32e (by omega) (by omega)
          refine st_xi (N := E.2.2.2.2.1) (by decide) (by decide) rfl (show 0 ≤ jw32 (x3 + 1) by omega) (show jw32 (x3 + 1) < ((E.2.2.2.2.1 : Nat) : Int) by omega) (fun v327 ev327 => ?_)
          replace ev327 : v327 = jxv E (-2) (jw32 (x3 + 1)) := ev327
          refine st_cv (na := 1) (st := [.inl v327, .inr (.inr (.inl 176))]) jo_176 rfl rfl rfl (c_X12_unraft v327 g323) rfl ?_
          rintro _ _ g329 ⟨rfl, ft328, t328, rfl, ht328, zt328⟩ kt328
          replace kt328 : -2147483648 ≤ t328 ∧ t328 ≤ 2147483647 := kt328
          have li330 : jLI g329 := jLI_fr (ft328 176 0 (by unfold w_X12_unraft; omega)) (ft328 0 0 (by unfold w_X12_unraft; omega)) (fun t => ft328 87 t (by unfold w_X12_unraft; omega)) li324
          have dli330 : g329 176 0 ≤ 2000 := li330.1
          have sm331 : jI g329 := pf_unraft ft322 ft328 sm
          show jGo E l 179 0 229 _ 1410 [.inr (.inr (.inl (-2))), .inr (.inr (.inl 0)), .inr (.inr (.inl 176)), .inl x3] [] 229 jr0 g329
          refine jGo_blk qL_law_1410 ?_
          have e332 : jw32 (x3 + 6) = x3 + 6 := j32e (by omega) (by omega)
          show jGo E l 179 0 229 _ 18 [.inr (.inr (.inl (-2))), .inr (.inr (.inl 0)), .inr (.inr (.inl 176)), .inl (jw32 (x3 + 6))] [] 229 jr0 g329
          exact ih (jw32 (x3 + 6)) g329 (by omega) li330 sm331 (by omega)
        · replace c6 : jand v4 63 = 16 := c6
          show jGo E l 179 0 229 _ 820 [.inr (.inr (.inl (-2))), .inr (.inr (.inl 0)), .inr (.inr (.inl 176)), .inl x3] [] 229 jr0 g
          refine jGo_blk qL_law_820 ?_
          have e333 : jw32 (x3 + 1) = x3 + 1 := j32e (by omega) (by omega)
          refine st_xi (N := E.2.2.2.2.1) (by decide) (by decide) rfl (show 0 ≤ jw32 (x3 + 1) by omega) (show jw32 (x3 + 1) < ((E.2.2.2.2.1 : Nat) : Int) by omega) (fun v334 ev334 => ?_)
          replace ev334 : v334 = jxv E (-2) (jw32 (x3 + 1)) := ev334
          refine st_cv (na := 1) (st := [.inl v334, .inr (.inr (.inl 0))]) jo_0 rfl rfl rfl (c_X11_days v334 g li.2) rfl ?_
          rintro _ _ g336 ⟨rfl, ft335, t335, rfl, ht335, zt335⟩ kt335
          replace kt335 : -2147483648 ≤ t335 ∧ t335 ≤ 2147483647 := kt335
          replace zt335 : jLG 0 g336 ∧ P_X11_days v334 g g336 := zt335
          have li337 : jLI g336 := ⟨by rw [(ft335 176 0 (by unfold w_X11_days; omega))]; exact li.1, zt335.1⟩
          have dli337 : g336 176 0 ≤ 2000 := li337.1
          have e339 : jw32 (x3 + 1) = x3 + 1 := j32e (by omega) (by omega)
          refine st_xi (N := E.2.2.2.2.1) (by decide) (by decide) rfl (show 0 ≤ jw32 (x3 + 1) by omega) (show jw32 (x3 + 1) < ((E.2.2.2.2.1 : Nat) : Int) by omega) (fun v340 ev340 => ?_)
          replace ev340 : v340 = jxv E (-2) (jw32 (x3 + 1)) := ev340
          have e341 : g336 176 0 = g 176 0 := ft335 176 0 (by unfold w_X11_days; omega)
          refine st_cv (na := 1) (st := [.inl v340, .inr (.inr (.inl 176))]) jo_176 rfl rfl rfl (c_X12_days v340 g336 (by omega)) rfl ?_
          rintro _ _ g343 ⟨rfl, ft342, t342, rfl, ht342, zt342⟩ kt342
          replace kt342 : -2147483648 ≤ t342 ∧ t342 ≤ 2147483647 := kt342
          replace zt342 : g343 176 0 ≤ 2000 ∧ P_X12_days v340 g336 g343 := zt342
          have li344 : jLI g343 := ⟨zt342.1, jLG_fr (ft342 0 0 (by unfold w_X12_days; omega)) (fun t => ft342 87 t (by unfold w_X12_days; omega)) li337.2⟩
          have dli344 : g343 176 0 ≤ 2000 := li344.1
          have zd347 := zt342.2
          rw [show v340 = v334 by omega] at zd347
          have qe346 := pr_days ft335 ft342 zt335.2 zd347 sm
          have sm345 : jI g343 := qe346
          clear qe346 zd347
          show jGo E l 179 0 229 _ 1410 [.inr (.inr (.inl (-2))), .inr (.inr (.inl 0)), .inr (.inr (.inl 176)), .inl x3] [] 229 jr0 g343
          refine jGo_blk qL_law_1410 ?_
          have e348 : jw32 (x3 + 6) = x3 + 6 := j32e (by omega) (by omega)
          show jGo E l 179 0 229 _ 18 [.inr (.inr (.inl (-2))), .inr (.inr (.inl 0)), .inr (.inr (.inl 176)), .inl (jw32 (x3 + 6))] [] 229 jr0 g343
          exact ih (jw32 (x3 + 6)) g343 (by omega) li344 sm345 (by omega)
        · replace c6 : jand v4 63 = 17 := c6
          show jGo E l 179 0 229 _ 843 [.inr (.inr (.inl (-2))), .inr (.inr (.inl 0)), .inr (.inr (.inl 176)), .inl x3] [] 229 jr0 g
          refine jGo_blk qL_law_843 ?_
          have e349 : jw32 (x3 + 1) = x3 + 1 := j32e (by omega) (by omega)
          refine st_xi (N := E.2.2.2.2.1) (by decide) (by decide) rfl (show 0 ≤ jw32 (x3 + 1) by omega) (show jw32 (x3 + 1) < ((E.2.2.2.2.1 : Nat) : Int) by omega) (fun v350 ev350 => ?_)
          replace ev350 : v350 = jxv E (-2) (jw32 (x3 + 1)) := ev350
          refine st_cv (na := 1) (st := [.inl v350, .inr (.inr (.inl 0))]) jo_0 rfl rfl rfl (c_X11_breakUp v350 g) rfl ?_
          rintro _ _ g352 ⟨rfl, ft351, t351, rfl, ht351, zt351⟩ kt351
          replace kt351 : -2147483648 ≤ t351 ∧ t351 ≤ 2147483647 := kt351
          have li353 : jLI g352 := jLI_fr (ft351 176 0 (by unfold w_X11_breakUp; omega)) (ft351 0 0 (by unfold w_X11_breakUp; omega)) (fun t => ft351 87 t (by unfold w_X11_breakUp; omega)) li
          have dli353 : g352 176 0 ≤ 2000 := li353.1
          have e355 : jw32 (x3 + 1) = x3 + 1 := j32e (by omega) (by omega)
          refine st_xi (N := E.2.2.2.2.1) (by decide) (by decide) rfl (show 0 ≤ jw32 (x3 + 1) by omega) (show jw32 (x3 + 1) < ((E.2.2.2.2.1 : Nat) : Int) by omega) (fun v356 ev356 => ?_)
          replace ev356 : v356 = jxv E (-2) (jw32 (x3 + 1)) := ev356
          refine st_cv (na := 1) (st := [.inl v356, .inr (.inr (.inl 176))]) jo_176 rfl rfl rfl (c_X12_breakUp v356 g352) rfl ?_
          rintro _ _ g358 ⟨rfl, ft357, t357, rfl, ht357, zt357⟩ kt357
          replace kt357 : -2147483648 ≤ t357 ∧ t357 ≤ 2147483647 := kt357
          have li359 : jLI g358 := jLI_fr (ft357 176 0 (by unfold w_X12_breakUp; omega)) (ft357 0 0 (by unfold w_X12_breakUp; omega)) (fun t => ft357 87 t (by unfold w_X12_breakUp; omega)) li353
          have dli359 : g358 176 0 ≤ 2000 := li359.1
          have sm360 : jI g358 := pf_breakUp ft351 ft357 sm
          show jGo E l 179 0 229 _ 1410 [.inr (.inr (.inl (-2))), .inr (.inr (.inl 0)), .inr (.inr (.inl 176)), .inl x3] [] 229 jr0 g358
          refine jGo_blk qL_law_1410 ?_
          have e361 : jw32 (x3 + 6) = x3 + 6 := j32e (by omega) (by omega)
          show jGo E l 179 0 229 _ 18 [.inr (.inr (.inl (-2))), .inr (.inr (.inl 0)), .inr (.inr (.inl 176)), .inl (jw32 (x3 + 6))] [] 229 jr0 g358
          exact ih (jw32 (x3 + 6)) g358 (by omega) li359 sm360 (by omega)
        · replace c6 : jand v4 63 = 18 := c6
          show jGo E l 179 0 229 _ 866 [.inr (.inr (.inl (-2))), .inr (.inr (.inl 0)), .inr (.inr (.inl 176)), .inl x3] [] 229 jr0 g
          refine jGo_blk qL_law_866 ?_
          have e362 : jw32 (x3 + 1) = x3 + 1 := j32e (by omega) (by omega)
          refine st_xi (N := E.2.2.2.2.1) (by decide) (by decide) rfl (show 0 ≤ jw32 (x3 + 1) by omega) (show jw32 (x3 + 1) < ((E.2.2.2.2.1 : Nat) : Int) by omega) (fun v363 ev363 => ?_)
          replace ev363 : v363 = jxv E (-2) (jw32 (x3 + 1)) := ev363
          have e364 : jw32 (x3 + 2) = x3 + 2 := j32e (by omega) (by omega)
          refine st_xi (N := E.2.2.2.2.1) (by decide) (by decide) rfl (show 0 ≤ jw32 (x3 + 2) by omega) (show jw32 (x3 + 2) < ((E.2.2.2.2.1 : Nat) : Int) by omega) (fun v365 ev365 => ?_)
          replace ev365 : v365 = jxv E (-2) (jw32 (x3 + 2)) := ev365
          refine st_cv (na := 2) (st := [.inl v365, .inl v363, .inr (.inr (.inl 0))]) jo_0 rfl rfl rfl (c_X11_growth v363 v365 g) rfl ?_
          rintro _ _ g367 ⟨rfl, ft366, t366, rfl, ht366, zt366⟩ kt366
          replace kt366 : -2147483648 ≤ t366 ∧ t366 ≤ 2147483647 := kt366
          replace ht366 : -7 ≤ t366 ∧ t366 ≤ 9 := ht366
          replace zt366 : P_X11_growth v363 v365 t366 g g367 := zt366
          have li368 : jLI g367 := jLI_fr (ft366 176 0 (by unfold w_X11_growth; omega)) (ft366 0 0 (by unfold w_X11_growth; omega)) (fun t => ft366 87 t (by unfold w_X11_growth; omega)) li
          have dli368 : g367 176 0 ≤ 2000 := li368.1
          have e370 : jw32 (x3 + 1) = x3 + 1 := j32e (by omega) (by omega)
          refine st_xi (N := E.2.2.2.2.1) (by decide) (by decide) rfl (show 0 ≤ jw32 (x3 + 1) by omega) (show jw32 (x3 + 1) < ((E.2.2.2.2.1 : Nat) : Int) by omega) (fun v371 ev371 => ?_)
          replace ev371 : v371 = jxv E (-2) (jw32 (x3 + 1)) := ev371
          have e372 : jw32 (x3 + 2) = x3 + 2 := j32e (by omega) (by omega)
          refine st_xi (N := E.2.2.2.2.1) (by decide) (by decide) rfl (show 0 ≤ jw32 (x3 + 2) by omega) (show jw32 (x3 + 2) < ((E.2.2.2.2.1 : Nat) : Int) by omega) (fun v373 ev373 => ?_)
          replace ev373 : v373 = jxv E (-2) (jw32 (x3 + 2)) := ev373
          refine st_cv (na := 2) (st := [.inl v373, .inl v371, .inr (.inr (.inl 176))]) jo_176 rfl rfl rfl (c_X12_growth v371 v373 g367) rfl ?_
          rintro _ _ g375 ⟨rfl, ft374, t374, rfl, ht374, zt374⟩ kt374
          replace kt374 : -2147483648 ≤ t374 ∧ t374 ≤ 2147483647 := kt374
          replace ht374 : -7 ≤ t374 ∧ t374 ≤ 9 := ht374
          replace zt374 : P_X12_growth v371 v373 t374 g367 g375 := zt374
          have li376 : jLI g375 := jLI_fr (ft374 176 0 (by unfold w_X12_growth; omega)) (ft374 0 0 (by unfold w_X12_growth; omega)) (fun t => ft374 87 t (by unfold w_X12_growth; omega)) li368
          have dli376 : g375 176 0 ≤ 2000 := li376.1
          rw [show v371 = v363 by omega, show v373 = v365 by omega] at zt374
          have qe378 := pr_growth ft366 ft374 zt366 zt374 sm
          have eqe378 := qe378.1
          have sm377 : jI g375 := qe378.2
          clear qe378 zt374
          show jGo E l 179 0 229 _ 1410 [.inr (.inr (.inl (-2))), .inr (.inr (.inl 0)), .inr (.inr (.inl 176)), .inl x3] [] 229 jr0 g375
          refine jGo_blk qL_law_1410 ?_
          have e379 : jw32 (x3 + 6) = x3 + 6 := j32e (by omega) (by omega)
          show jGo E l 179 0 229 _ 18 [.inr (.inr (.inl (-2))), .inr (.inr (.inl 0)), .inr (.inr (.inl 176)), .inl (jw32 (x3 + 6))] [] 229 jr0 g375
          exact ih (jw32 (x3 + 6)) g375 (by omega) li376 sm377 (by omega)
        · replace c6 : jand v4 63 = 19 := c6
          show jGo E l 179 0 229 _ 899 [.inr (.inr (.inl (-2))), .inr (.inr (.inl 0)), .inr (.inr (.inl 176)), .inl x3] [] 229 jr0 g
          refine jGo_blk qL_law_899 ?_
          have e380 : jw32 (x3 + 1) = x3 + 1 := j32e (by omega) (by omega)
          refine st_xi (N := E.2.2.2.2.1) (by decide) (by decide) rfl (show 0 ≤ jw32 (x3 + 1) by omega) (show jw32 (x3 + 1) < ((E.2.2.2.2.1 : Nat) : Int) by omega) (fun v381 ev381 => ?_)
          replace ev381 : v381 = jxv E (-2) (jw32 (x3 + 1)) := ev381
          have e382 : jw32 (x3 + 2) = x3 + 2 := j32e (by omega) (by omega)
          refine st_xi (N := E.2.2.2.2.1) (by decide) (by decide) rfl (show 0 ≤ jw32 (x3 + 2) by omega) (show jw32 (x3 + 2) < ((E.2.2.2.2.1 : Nat) : Int) by omega) (fun v383 ev383 => ?_)
          replace ev383 : v383 = jxv E (-2) (jw32 (x3 + 2)) := ev383
          have e384 : jw32 (x3 + 3) = x3 + 3 := j32e (by omega) (by omega)
          refine st_xi (N := E.2.2.2.2.1) (by decide) (by decide) rfl (show 0 ≤ jw32 (x3 + 3) by omega) (show jw32 (x3 + 3) < ((E.2.2.2.2.1 : Nat) : Int) by omega) (fun v385 ev385 => ?_)
          replace ev385 : v385 = jxv E (-2) (jw32 (x3 + 3)) := ev385
          refine st_cv (na := 3) (st := [.inl v385, .inl v383, .inl v381, .inr (.inr (.inl 0))]) jo_0 rfl rfl rfl (c_X11_tree v381 v383 v385 g) rfl ?_
          rintro _ _ g387 ⟨rfl, ft386, t386, rfl, ht386, zt386⟩ kt386
          replace kt386 : -2147483648 ≤ t386 ∧ t386 ≤ 2147483647 := kt386
          replace ht386 : -7 ≤ t386 ∧ t386 ≤ 39 := ht386
          replace zt386 : (∀ t : Int, g387 87 t = g 87 t ∨ (1 ≤ g387 87 t ∧ g387 87 t ≤ 500)) ∧ P_X11_tree v381 v383 v385 t386 g g387 := zt386
          have li388 : jLI g387 := ⟨by rw [(ft386 176 0 (by unfold w_X11_tree; omega))]; exact li.1, jLG_tree (ft386 0 0 (by unfold w_X11_tree; omega)) zt386.1 li.2⟩
          have dli388 : g387 176 0 ≤ 2000 := li388.1
          have e390 : jw32 (x3 + 1) = x3 + 1 := j32e (by omega) (by omega)
          refine st_xi (N := E.2.2.2.2.1) (by decide) (by decide) rfl (show 0 ≤ jw32 (x3 + 1) by omega) (show jw32 (x3 + 1) < ((E.2.2.2.2.1 : Nat) : Int) by omega) (fun v391 ev391 => ?_)
          replace ev391 : v391 = jxv E (-2) (jw32 (x3 + 1)) := ev391
          have e392 : jw32 (x3 + 2) = x3 + 2 := j32e (by omega) (by omega)
          refine st_xi (N := E.2.2.2.2.1) (by decide) (by decide) rfl (show 0 ≤ jw32 (x3 + 2) by omega) (show jw32 (x3 + 2) < ((E.2.2.2.2.1 : Nat) : Int) by omega) (fun v393 ev393 => ?_)
          replace ev393 : v393 = jxv E (-2) (jw32 (x3 + 2)) := ev393
          have e394 : jw32 (x3 + 3) = x3 + 3 := j32e (by omega) (by omega)
          refine st_xi (N := E.2.2.2.2.1) (by decide) (by decide) rfl (show 0 ≤ jw32 (x3 + 3) by omega) (show jw32 (x3 + 3) < ((E.2.2.2.2.1 : Nat) : Int) by omega) (fun v395 ev395 => ?_)
          replace ev395 : v395 = jxv E (-2) (jw32 (x3 + 3)) := ev395
          refine st_cv (na := 3) (st := [.inl v395, .inl v393, .inl v391, .inr (.inr (.inl 176))]) jo_176 rfl rfl rfl (c_X12_tree v391 v393 v395 g387) rfl ?_
          rintro _ _ g397 ⟨rfl, ft396, t396, rfl, ht396, zt396⟩ kt396
          replace kt396 : -2147483648 ≤ t396 ∧ t396 ≤ 2147483647 := kt396
          replace ht396 : -7 ≤ t396 ∧ t396 ≤ 39 := ht396
          replace zt396 : P_X12_tree v391 v393 v395 t396 g387 g397 := zt396
          have li398 : jLI g397 := jLI_fr (ft396 176 0 (by unfold w_X12_tree; omega)) (ft396 0 0 (by unfold w_X12_tree; omega)) (fun t => ft396 87 t (by unfold w_X12_tree; omega)) li388
          have dli398 : g397 176 0 ≤ 2000 := li398.1
          rw [show v391 = v381 by omega, show v393 = v383 by omega, show v395 = v385 by omega] at zt396
          have qe400 := pr_tree ft386 ft396 zt386.2 zt396 sm
          have eqe400 := qe400.1
          have sm399 : jI g397 := qe400.2
          clear qe400 zt396
          show jGo E l 179 0 229 _ 1410 [.inr (.inr (.inl (-2))), .inr (.inr (.inl 0)), .inr (.inr (.inl 176)), .inl x3] [] 229 jr0 g397
          refine jGo_blk qL_law_1410 ?_
          have e401 : jw32 (x3 + 6) = x3 + 6 := j32e (by omega) (by omega)
          show jGo E l 179 0 229 _ 18 [.inr (.inr (.inl (-2))), .inr (.inr (.inl 0)), .inr (.inr (.inl 176)), .inl (jw32 (x3 + 6))] [] 229 jr0 g397
          exact ih (jw32 (x3 + 6)) g397 (by omega) li398 sm399 (by omega)
        · replace c6 : jand v4 63 = 20 := c6
          show jGo E l 179 0 229 _ 942 [.inr (.inr (.inl (-2))), .inr (.inr (.inl 0)), .inr (.inr (.inl 176)), .inl x3] [] 229 jr0 g
          refine jGo_blk qL_law_942 ?_
          have e402 : jw32 (x3 + 1) = x3 + 1 := j32e (by omega) (by omega)
          refine st_xi (N := E.2.2.2.2.1) (by decide) (by decide) rfl (show 0 ≤ jw32 (x3 + 1) by omega) (show jw32 (x3 + 1) < ((E.2.2.2.2.1 : Nat) : Int) by omega) (fun v403 ev403 => ?_)
          replace ev403 : v403 = jxv E (-2) (jw32 (x3 + 1)) := ev403
          have e404 : jw32 (x3 + 2) = x3 + 2 := j32e (by omega) (by omega)
          refine st_xi (N := E.2.2.2.2.1) (by decide) (by decide) rfl (show 0 ≤ jw32 (x3 + 2) by omega) (show jw32 (x3 + 2) < ((E.2.2.2.2.1 : Nat) : Int) by omega) (fun v405 ev405 => ?_)
          replace ev405 : v405 = jxv E (-2) (jw32 (x3 + 2)) := ev405
          have e406 : jw32 (x3 + 3) = x3 + 3 := j32e (by omega) (by omega)
          refine st_xi (N := E.2.2.2.2.1) (by decide) (by decide) rfl (show 0 ≤ jw32 (x3 + 3) by omega) (show jw32 (x3 + 3) < ((E.2.2.2.2.1 : Nat) : Int) by omega) (fun v407 ev407 => ?_)
          replace ev407 : v407 = jxv E (-2) (jw32 (x3 + 3)) := ev407
          have e408 : jw32 (x3 + 4) = x3 + 4 := j32e (by omega) (by omega)
          refine st_xi (N := E.2.2.2.2.1) (by decide) (by decide) rfl (show 0 ≤ jw32 (x3 + 4) by omega) (show jw32 (x3 + 4) < ((E.2.2.2.2.1 : Nat) : Int) by omega) (fun v409 ev409 => ?_)
          replace ev409 : v409 = jxv E (-2) (jw32 (x3 + 4)) := ev409
          have e410 : jw32 (x3 + 5) = x3 + 5 := j32e (by omega) (by omega)
          refine st_xi (N := E.2.2.2.2.1) (by decide) (by decide) rfl (show 0 ≤ jw32 (x3 + 5) by omega) (show jw32 (x3 + 5) < ((E.2.2.2.2.1 : Nat) : Int) by omega) (fun v411 ev411 => ?_)
          replace ev411 : v411 = jxv E (-2) (jw32 (x3 + 5)) := ev411
          refine st_cv (na := 5) (st := [.inl v411, .inl v409, .inl v407, .inl v405, .inl v403, .inr (.inr (.inl 0))]) jo_0 rfl rfl rfl (c_X11_part v403 v405 v407 v409 v411 g) rfl ?_
          rintro _ _ g413 ⟨rfl, ft412, t412, rfl, ht412, zt412⟩ kt412
          replace kt412 : -2147483648 ≤ t412 ∧ t412 ≤ 2147483647 := kt412
          replace ht412 : -7 ≤ t412 ∧ t412 ≤ 5 := ht412
          replace zt412 : P_X11_part v403 v405 v407 v409 v411 t412 g g413 := zt412
          have li414 : jLI g413 := jLI_fr (ft412 176 0 (by unfold w_X11_part; omega)) (ft412 0 0 (by unfold w_X11_part; omega)) (fun t => ft412 87 t (by unfold w_X11_part; omega)) li
          have dli414 : g413 176 0 ≤ 2000 := li414.1
          have e416 : jw32 (x3 + 1) = x3 + 1 := j32e (by omega) (by omega)
          refine st_xi (N := E.2.2.2.2.1) (by decide) (by decide) rfl (show 0 ≤ jw32 (x3 + 1) by omega) (show jw32 (x3 + 1) < ((E.2.2.2.2.1 : Nat) : Int) by omega) (fun v417 ev417 => ?_)
          replace ev417 : v417 = jxv E (-2) (jw32 (x3 + 1)) := ev417
          have e418 : jw32 (x3 + 2) = x3 + 2 := j32e (by omega) (by omega)
          refine st_xi (N := E.2.2.2.2.1) (by decide) (by decide) rfl (show 0 ≤ jw32 (x3 + 2) by omega) (show jw32 (x3 + 2) < ((E.2.2.2.2.1 : Nat) : Int) by omega) (fun v419 ev419 => ?_)
          replace ev419 : v419 = jxv E (-2) (jw32 (x3 + 2)) := ev419
          have e420 : jw32 (x3 + 3) = x3 + 3 := j32e (by omega) (by omega)
          refine st_xi (N := E.2.2.2.2.1) (by decide) (by decide) rfl (show 0 ≤ jw32 (x3 + 3) by omega) (show jw32 (x3 + 3) < ((E.2.2.2.2.1 : Nat) : Int) by omega) (fun v421 ev421 => ?_)
          replace ev421 : v421 = jxv E (-2) (jw32 (x3 + 3)) := ev421
          have e422 : jw32 (x3 + 4) = x3 + 4 := j32e (by omega) (by omega)
          refine st_xi (N := E.2.2.2.2.1) (by decide) (by decide) rfl (show 0 ≤ jw32 (x3 + 4) by omega) (show jw32 (x3 + 4) < ((E.2.2.2.2.1 : Nat) : Int) by omega) (fun v423 ev423 => ?_)
          replace ev423 : v423 = jxv E (-2) (jw32 (x3 + 4)) := ev423
          have e424 : jw32 (x3 + 5) = x3 + 5 := j32e (by omega) (by omega)
          refine st_xi (N := E.2.2.2.2.1) (by decide) (by decide) rfl (show 0 ≤ jw32 (x3 + 5) by omega) (show jw32 (x3 + 5) < ((E.2.2.2.2.1 : Nat) : Int) by omega) (fun v425 ev425 => ?_)
          replace ev425 : v425 = jxv E (-2) (jw32 (x3 + 5)) := ev425
          refine st_cv (na := 5) (st := [.inl v425, .inl v423, .inl v421, .inl v419, .inl v417, .inr (.inr (.inl 176))]) jo_176 rfl rfl rfl (c_X12_part v417 v419 v421 v423 v425 g413) rfl ?_
          rintro _ _ g427 ⟨rfl, ft426, t426, rfl, ht426, zt426⟩ kt426
          replace kt426 : -2147483648 ≤ t426 ∧ t426 ≤ 2147483647 := kt426
          replace ht426 : -7 ≤ t426 ∧ t426 ≤ 5 := ht426
          replace zt426 : P_X12_part v417 v419 v421 v423 v425 t426 g413 g427 := zt426
          have li428 : jLI g427 := jLI_fr (ft426 176 0 (by unfold w_X12_part; omega)) (ft426 0 0 (by unfold w_X12_part; omega)) (fun t => ft426 87 t (by unfold w_X12_part; omega)) li414
          have dli428 : g427 176 0 ≤ 2000 := li428.1
          rw [show v417 = v403 by omega, show v419 = v405 by omega, show v421 = v407 by omega, show v423 = v409 by omega, show v425 = v411 by omega] at zt426
          have qe430 := pr_part ft412 ft426 zt412 zt426 sm
          have eqe430 := qe430.1
          have sm429 : jI g427 := qe430.2
          clear qe430 zt426
          show jGo E l 179 0 229 _ 1410 [.inr (.inr (.inl (-2))), .inr (.inr (.inl 0)), .inr (.inr (.inl 176)), .inl x3] [] 229 jr0 g427
          refine jGo_blk qL_law_1410 ?_
          have e431 : jw32 (x3 + 6) = x3 + 6 := j32e (by omega) (by omega)
          show jGo E l 179 0 229 _ 18 [.inr (.inr (.inl (-2))), .inr (.inr (.inl 0)), .inr (.inr (.inl 176)), .inl (jw32 (x3 + 6))] [] 229 jr0 g427
          exact ih (jw32 (x3 + 6)) g427 (by omega) li428 sm429 (by omega)
        · replace c6 : jand v4 63 = 21 := c6
          show jGo E l 179 0 229 _ 1005 [.inr (.inr (.inl (-2))), .inr (.inr (.inl 0)), .inr (.inr (.inl 176)), .inl x3] [] 229 jr0 g
          refine jGo_blk qL_law_1005 ?_
          have e432 : jw32 (x3 + 1) = x3 + 1 := j32e (by omega) (by omega)
          refine st_xi (N := E.2.2.2.2.1) (by decide) (by decide) rfl (show 0 ≤ jw32 (x3 + 1) by omega) (show jw32 (x3 + 1) < ((E.2.2.2.2.1 : Nat) : Int) by omega) (fun v433 ev433 => ?_)
          replace ev433 : v433 = jxv E (-2) (jw32 (x3 + 1)) := ev433
          have e434 : jw32 (x3 + 2) = x3 + 2 := j32e (by omega) (by omega)
          refine st_xi (N := E.2.2.2.2.1) (by decide) (by decide) rfl (show 0 ≤ jw32 (x3 + 2) by omega) (show jw32 (x3 + 2) < ((E.2.2.2.2.1 : Nat) : Int) by omega) (fun v435 ev435 => ?_)
          replace ev435 : v435 = jxv E (-2) (jw32 (x3 + 2)) := ev435
          refine st_cv (na := 2) (st := [.inl v435, .inl v433, .inr (.inr (.inl 0))]) jo_0 rfl rfl rfl (c_X11_match v433 v435 g (jLG_ok li.2)) rfl ?_
          rintro _ _ g437 ⟨rfl, ft436, t436, rfl, ht436, zt436⟩ kt436
          replace kt436 : -2147483648 ≤ t436 ∧ t436 ≤ 2147483647 := kt436
          have li438 : jLI g437 := jLI_fr (ft436 176 0 (by unfold w_X11_match; omega)) (ft436 0 0 (by unfold w_X11_match; omega)) (fun t => ft436 87 t (by unfold w_X11_match; omega)) li
          have dli438 : g437 176 0 ≤ 2000 := li438.1
          have e440 : jw32 (x3 + 1) = x3 + 1 := j32e (by omega) (by omega)
          refine st_xi (N := E.2.2.2.2.1) (by decide) (by decide) rfl (show 0 ≤ jw32 (x3 + 1) by omega) (show jw32 (x3 + 1) < ((E.2.2.2.2.1 : Nat) : Int) by omega) (fun v441 ev441 => ?_)
          replace ev441 : v441 = jxv E (-2) (jw32 (x3 + 1)) := ev441
          have e442 : jw32 (x3 + 2) = x3 + 2 := j32e (by omega) (by omega)
          refine st_xi (N := E.2.2.2.2.1) (by decide) (by decide) rfl (show 0 ≤ jw32 (x3 + 2) by omega) (show jw32 (x3 + 2) < ((E.2.2.2.2.1 : Nat) : Int) by omega) (fun v443 ev443 => ?_)
          replace ev443 : v443 = jxv E (-2) (jw32 (x3 + 2)) := ev443
          refine st_cv (na := 2) (st := [.inl v443, .inl v441, .inr (.inr (.inl 176))]) jo_176 rfl rfl rfl (c_X12_match v441 v443 g437) rfl ?_
          rintro _ _ g445 ⟨rfl, ft444, t444, rfl, ht444, zt444⟩ kt444
          replace kt444 : -2147483648 ≤ t444 ∧ t444 ≤ 2147483647 := kt444
          have li446 : jLI g445 := jLI_fr (ft444 176 0 (by unfold w_X12_match; omega)) (ft444 0 0 (by unfold w_X12_match; omega)) (fun t => ft444 87 t (by unfold w_X12_match; omega)) li438
          have dli446 : g445 176 0 ≤ 2000 := li446.1
          have sm447 : jI g445 := pf_match ft436 ft444 sm
          show jGo E l 179 0 229 _ 1410 [.inr (.inr (.inl (-2))), .inr (.inr (.inl 0)), .inr (.inr (.inl 176)), .inl x3] [] 229 jr0 g445
          refine jGo_blk qL_law_1410 ?_
          have e448 : jw32 (x3 + 6) = x3 + 6 := j32e (by omega) (by omega)
          show jGo E l 179 0 229 _ 18 [.inr (.inr (.inl (-2))), .inr (.inr (.inl 0)), .inr (.inr (.inl 176)), .inl (jw32 (x3 + 6))] [] 229 jr0 g445
          exact ih (jw32 (x3 + 6)) g445 (by omega) li446 sm447 (by omega)
        · replace c6 : jand v4 63 = 22 := c6
          show jGo E l 179 0 229 _ 1038 [.inr (.inr (.inl (-2))), .inr (.inr (.inl 0)), .inr (.inr (.inl 176)), .inl x3] [] 229 jr0 g
          refine jGo_blk qL_law_1038 ?_
          have e449 : jw32 (x3 + 1) = x3 + 1 := j32e (by omega) (by omega)
          refine st_xi (N := E.2.2.2.2.1) (by decide) (by decide) rfl (show 0 ≤ jw32 (x3 + 1) by omega) (show jw32 (x3 + 1) < ((E.2.2.2.2.1 : Nat) : Int) by omega) (fun v450 ev450 => ?_)
          replace ev450 : v450 = jxv E (-2) (jw32 (x3 + 1)) := ev450
          refine st_cv (na := 1) (st := [.inl v450, .inr (.inr (.inl 0))]) jo_0 rfl rfl rfl (c_X11_fell v450 g (jLG_ok li.2)) rfl ?_
          rintro _ _ g452 ⟨rfl, ft451, t451, rfl, ht451, zt451⟩ kt451
          replace kt451 : -2147483648 ≤ t451 ∧ t451 ≤ 2147483647 := kt451
          have li453 : jLI g452 := jLI_fr (ft451 176 0 (by unfold w_X11_fell; omega)) (ft451 0 0 (by unfold w_X11_fell; omega)) (fun t => ft451 87 t (by unfold w_X11_fell; omega)) li
          have dli453 : g452 176 0 ≤ 2000 := li453.1
          have e455 : jw32 (x3 + 1) = x3 + 1 := j32e (by omega) (by omega)
          refine st_xi (N := E.2.2.2.2.1) (by decide) (by decide) rfl (show 0 ≤ jw32 (x3 + 1) by omega) (show jw32 (x3 + 1) < ((E.2.2.2.2.1 : Nat) : Int) by omega) (fun v456 ev456 => ?_)
          replace ev456 : v456 = jxv E (-2) (jw32 (x3 + 1)) := ev456
          refine st_cv (na := 1) (st := [.inl v456, .inr (.inr (.inl 176))]) jo_176 rfl rfl rfl (c_X12_fell v456 g452) rfl ?_
          rintro _ _ g458 ⟨rfl, ft457, t457, rfl, ht457, zt457⟩ kt457
          replace kt457 : -2147483648 ≤ t457 ∧ t457 ≤ 2147483647 := kt457
          have li459 : jLI g458 := jLI_fr (ft457 176 0 (by unfold w_X12_fell; omega)) (ft457 0 0 (by unfold w_X12_fell; omega)) (fun t => ft457 87 t (by unfold w_X12_fell; omega)) li453
          have dli459 : g458 176 0 ≤ 2000 := li459.1
          have sm460 : jI g458 := pf_fell ft451 ft457 sm
          show jGo E l 179 0 229 _ 1410 [.inr (.inr (.inl (-2))), .inr (.inr (.inl 0)), .inr (.inr (.inl 176)), .inl x3] [] 229 jr0 g458
          refine jGo_blk qL_law_1410 ?_
          have e461 : jw32 (x3 + 6) = x3 + 6 := j32e (by omega) (by omega)
          show jGo E l 179 0 229 _ 18 [.inr (.inr (.inl (-2))), .inr (.inr (.inl 0)), .inr (.inr (.inl 176)), .inl (jw32 (x3 + 6))] [] 229 jr0 g458
          exact ih (jw32 (x3 + 6)) g458 (by omega) li459 sm460 (by omega)
        · replace c6 : jand v4 63 = 23 := c6
          show jGo E l 179 0 229 _ 1061 [.inr (.inr (.inl (-2))), .inr (.inr (.inl 0)), .inr (.inr (.inl 176)), .inl x3] [] 229 jr0 g
          refine jGo_blk qL_law_1061 ?_
          have e462 : jw32 (x3 + 1) = x3 + 1 := j32e (by omega) (by omega)
          refine st_xi (N := E.2.2.2.2.1) (by decide) (by decide) rfl (show 0 ≤ jw32 (x3 + 1) by omega) (show jw32 (x3 + 1) < ((E.2.2.2.2.1 : Nat) : Int) by omega) (fun v463 ev463 => ?_)
          replace ev463 : v463 = jxv E (-2) (jw32 (x3 + 1)) := ev463
          have e464 : jw32 (x3 + 2) = x3 + 2 := j32e (by omega) (by omega)
          refine st_xi (N := E.2.2.2.2.1) (by decide) (by decide) rfl (show 0 ≤ jw32 (x3 + 2) by omega) (show jw32 (x3 + 2) < ((E.2.2.2.2.1 : Nat) : Int) by omega) (fun v465 ev465 => ?_)
          replace ev465 : v465 = jxv E (-2) (jw32 (x3 + 2)) := ev465
          refine st_cv (na := 2) (st := [.inl v465, .inl v463, .inr (.inr (.inl 0))]) jo_0 rfl rfl rfl (c_X11_treeFor v463 v465 g) rfl ?_
          rintro _ _ g467 ⟨rfl, ft466, t466, rfl, ht466, zt466⟩ kt466
          replace kt466 : -2147483648 ≤ t466 ∧ t466 ≤ 2147483647 := kt466
          replace ht466 : -9 ≤ t466 ∧ t466 ≤ 39 := ht466
          have li468 : jLI g467 := jLI_fr (ft466 176 0 (by unfold w_X11_treeFor; omega)) (ft466 0 0 (by unfold w_X11_treeFor; omega)) (fun t => ft466 87 t (by unfold w_X11_treeFor; omega)) li
          have dli468 : g467 176 0 ≤ 2000 := li468.1
          have e470 : jw32 (x3 + 1) = x3 + 1 := j32e (by omega) (by omega)
          refine st_xi (N := E.2.2.2.2.1) (by decide) (by decide) rfl (show 0 ≤ jw32 (x3 + 1) by omega) (show jw32 (x3 + 1) < ((E.2.2.2.2.1 : Nat) : Int) by omega) (fun v471 ev471 => ?_)
          replace ev471 : v471 = jxv E (-2) (jw32 (x3 + 1)) := ev471
          have e472 : jw32 (x3 + 2) = x3 + 2 := j32e (by omega) (by omega)
          refine st_xi (N := E.2.2.2.2.1) (by decide) (by decide) rfl (show 0 ≤ jw32 (x3 + 2) by omega) (show jw32 (x3 + 2) < ((E.2.2.2.2.1 : Nat) : Int) by omega) (fun v473 ev473 => ?_)
          replace ev473 : v473 = jxv E (-2) (jw32 (x3 + 2)) := ev473
          refine st_cv (na := 2) (st := [.inl v473, .inl v471, .inr (.inr (.inl 176))]) jo_176 rfl rfl rfl (c_X12_treeFor v471 v473 g467) rfl ?_
          rintro _ _ g475 ⟨rfl, ft474, t474, rfl, ht474, zt474⟩ kt474
          replace kt474 : -2147483648 ≤ t474 ∧ t474 ≤ 2147483647 := kt474
          replace ht474 : -9 ≤ t474 ∧ t474 ≤ 39 := ht474
          have li476 : jLI g475 := jLI_fr (ft474 176 0 (by unfold w_X12_treeFor; omega)) (ft474 0 0 (by unfold w_X12_treeFor; omega)) (fun t => ft474 87 t (by unfold w_X12_treeFor; omega)) li468
          have dli476 : g475 176 0 ≤ 2000 := li476.1
          have sm477 : jI g475 := pf_treeFor ft466 ft474 sm
          show jGo E l 179 0 229 _ 1410 [.inr (.inr (.inl (-2))), .inr (.inr (.inl 0)), .inr (.inr (.inl 176)), .inl x3] [] 229 jr0 g475
          refine jGo_blk qL_law_1410 ?_
          have e478 : jw32 (x3 + 6) = x3 + 6 := j32e (by omega) (by omega)
          show jGo E l 179 0 229 _ 18 [.inr (.inr (.inl (-2))), .inr (.inr (.inl 0)), .inr (.inr (.inl 176)), .inl (jw32 (x3 + 6))] [] 229 jr0 g475
          exact ih (jw32 (x3 + 6)) g475 (by omega) li476 sm477 (by omega)
        · replace c6 : jand v4 63 = 24 := c6
          show jGo E l 179 0 229 _ 1094 [.inr (.inr (.inl (-2))), .inr (.inr (.inl 0)), .inr (.inr (.inl 176)), .inl x3] [] 229 jr0 g
          refine jGo_blk qL_law_1094 ?_
          have e479 : jw32 (x3 + 1) = x3 + 1 := j32e (by omega) (by omega)
          refine st_xi (N := E.2.2.2.2.1) (by decide) (by decide) rfl (show 0 ≤ jw32 (x3 + 1) by omega) (show jw32 (x3 + 1) < ((E.2.2.2.2.1 : Nat) : Int) by omega) (fun v480 ev480 => ?_)
          replace ev480 : v480 = jxv E (-2) (jw32 (x3 + 1)) := ev480
          have e481 : jw32 (x3 + 2) = x3 + 2 := j32e (by omega) (by omega)
          refine st_xi (N := E.2.2.2.2.1) (by decide) (by decide) rfl (show 0 ≤ jw32 (x3 + 2) by omega) (show jw32 (x3 + 2) < ((E.2.2.2.2.1 : Nat) : Int) by omega) (fun v482 ev482 => ?_)
          replace ev482 : v482 = jxv E (-2) (jw32 (x3 + 2)) := ev482
          refine st_cv (na := 2) (st := [.inl v482, .inl v480, .inr (.inr (.inl 0))]) jo_0 rfl rfl rfl (c_X11_treeOf v480 v482 g) rfl ?_
          rintro _ _ g484 ⟨rfl, ft483, t483, rfl, ht483, zt483⟩ kt483
          replace kt483 : -2147483648 ≤ t483 ∧ t483 ≤ 2147483647 := kt483
          have li485 : jLI g484 := jLI_fr (ft483 176 0 (by unfold w_X11_treeOf; omega)) (ft483 0 0 (by unfold w_X11_treeOf; omega)) (fun t => ft483 87 t (by unfold w_X11_treeOf; omega)) li
          have dli485 : g484 176 0 ≤ 2000 := li485.1
          have e487 : jw32 (x3 + 1) = x3 + 1 := j32e (by omega) (by omega)
          refine st_xi (N := E.2.2.2.2.1) (by decide) (by decide) rfl (show 0 ≤ jw32 (x3 + 1) by omega) (show jw32 (x3 + 1) < ((E.2.2.2.2.1 : Nat) : Int) by omega) (fun v488 ev488 => ?_)
          replace ev488 : v488 = jxv E (-2) (jw32 (x3 + 1)) := ev488
          have e489 : jw32 (x3 + 2) = x3 + 2 := j32e (by omega) (by omega)
          refine st_xi (N := E.2.2.2.2.1) (by decide) (by decide) rfl (show 0 ≤ jw32 (x3 + 2) by omega) (show jw32 (x3 + 2) < ((E.2.2.2.2.1 : Nat) : Int) by omega) (fun v490 ev490 => ?_)
          replace ev490 : v490 = jxv E (-2) (jw32 (x3 + 2)) := ev490
          refine st_cv (na := 2) (st := [.inl v490, .inl v488, .inr (.inr (.inl 176))]) jo_176 rfl rfl rfl (c_X12_treeOf v488 v490 g484) rfl ?_
          rintro _ _ g492 ⟨rfl, ft491, t491, rfl, ht491, zt491⟩ kt491
          replace kt491 : -2147483648 ≤ t491 ∧ t491 ≤ 2147483647 := kt491
          have li493 : jLI g492 := jLI_fr (ft491 176 0 (by unfold w_X12_treeOf; omega)) (ft491 0 0 (by unfold w_X12_treeOf; omega)) (fun t => ft491 87 t (by unfold w_X12_treeOf; omega)) li485
          have dli493 : g492 176 0 ≤ 2000 := li493.1
          have sm494 : jI g492 := pf_treeOf ft483 ft491 sm
          show jGo E l 179 0 229 _ 1410 [.inr (.inr (.inl (-2))), .inr (.inr (.inl 0)), .inr (.inr (.inl 176)), .inl x3] [] 229 jr0 g492
          refine jGo_blk qL_law_1410 ?_
          have e495 : jw32 (x3 + 6) = x3 + 6 := j32e (by omega) (by omega)
          show jGo E l 179 0 229 _ 18 [.inr (.inr (.inl (-2))), .inr (.inr (.inl 0)), .inr (.inr (.inl 176)), .inl (jw32 (x3 + 6))] [] 229 jr0 g492
          exact ih (jw32 (x3 + 6)) g492 (by omega) li493 sm494 (by omega)
        · replace c6 : jand v4 63 = 25 := c6
          show jGo E l 179 0 229 _ 1127 [.inr (.inr (.inl (-2))), .inr (.inr (.inl 0)), .inr (.inr (.inl 176)), .inl x3] [] 229 jr0 g
          refine jGo_blk qL_law_1127 ?_
          have e496 : jw32 (x3 + 1) = x3 + 1 := j32e (by omega) (by omega)
          refine st_xi (N := E.2.2.2.2.1) (by decide) (by decide) rfl (show 0 ≤ jw32 (x3 + 1) by omega) (show jw32 (x3 + 1) < ((E.2.2.2.2.1 : Nat) : Int) by omega) (fun v497 ev497 => ?_)
          replace ev497 : v497 = jxv E (-2) (jw32 (x3 + 1)) := ev497
          have e498 : jw32 (x3 + 2) = x3 + 2 := j32e (by omega) (by omega)
          refine st_xi (N := E.2.2.2.2.1) (by decide) (by decide) rfl (show 0 ≤ jw32 (x3 + 2) by omega) (show jw32 (x3 + 2) < ((E.2.2.2.2.1 : Nat) : Int) by omega) (fun v499 ev499 => ?_)
          replace ev499 : v499 = jxv E (-2) (jw32 (x3 + 2)) := ev499
          refine st_cv (na := 2) (st := [.inl v499, .inl v497, .inr (.inr (.inl 0))]) jo_0 rfl rfl rfl (c_X11_count v497 v499 g) rfl ?_
          rintro _ _ g501 ⟨rfl, ft500, t500, rfl, ht500, zt500⟩ kt500
          replace kt500 : -2147483648 ≤ t500 ∧ t500 ≤ 2147483647 := kt500
          have li502 : jLI g501 := jLI_fr (ft500 176 0 (by unfold w_X11_count; omega)) (ft500 0 0 (by unfold w_X11_count; omega)) (fun t => ft500 87 t (by unfold w_X11_count; omega)) li
          have dli502 : g501 176 0 ≤ 2000 := li502.1
          have e504 : jw32 (x3 + 1) = x3 + 1 := j32e (by omega) (by omega)
          refine st_xi (N := E.2.2.2.2.1) (by decide) (by decide) rfl (show 0 ≤ jw32 (x3 + 1) by omega) (show jw32 (x3 + 1) < ((E.2.2.2.2.1 : Nat) : Int) by omega) (fun v505 ev505 => ?_)
          replace ev505 : v505 = jxv E (-2) (jw32 (x3 + 1)) := ev505
          have e506 : jw32 (x3 + 2) = x3 + 2 := j32e (by omega) (by omega)
          refine st_xi (N := E.2.2.2.2.1) (by decide) (by decide) rfl (show 0 ≤ jw32 (x3 + 2) by omega) (show jw32 (x3 + 2) < ((E.2.2.2.2.1 : Nat) : Int) by omega) (fun v507 ev507 => ?_)
          replace ev507 : v507 = jxv E (-2) (jw32 (x3 + 2)) := ev507
          have e508 : g501 176 0 = g 176 0 := ft500 176 0 (by unfold w_X11_count; omega)
          refine st_cv (na := 2) (st := [.inl v507, .inl v505, .inr (.inr (.inl 176))]) jo_176 rfl rfl rfl (c_X12_count v505 v507 g501 (by omega)) rfl ?_
          rintro _ _ g510 ⟨rfl, ft509, t509, rfl, ht509, zt509⟩ kt509
          replace kt509 : -2147483648 ≤ t509 ∧ t509 ≤ 2147483647 := kt509
          have li511 : jLI g510 := jLI_fr (ft509 176 0 (by unfold w_X12_count; omega)) (ft509 0 0 (by unfold w_X12_count; omega)) (fun t => ft509 87 t (by unfold w_X12_count; omega)) li502
          have dli511 : g510 176 0 ≤ 2000 := li511.1
          have sm512 : jI g510 := pf_count ft500 ft509 sm
          show jGo E l 179 0 229 _ 1410 [.inr (.inr (.inl (-2))), .inr (.inr (.inl 0)), .inr (.inr (.inl 176)), .inl x3] [] 229 jr0 g510
          refine jGo_blk qL_law_1410 ?_
          have e513 : jw32 (x3 + 6) = x3 + 6 := j32e (by omega) (by omega)
          show jGo E l 179 0 229 _ 18 [.inr (.inr (.inl (-2))), .inr (.inr (.inl 0)), .inr (.inr (.inl 176)), .inl (jw32 (x3 + 6))] [] 229 jr0 g510
          exact ih (jw32 (x3 + 6)) g510 (by omega) li511 sm512 (by omega)
        · replace c6 : jand v4 63 = 26 := c6
          show jGo E l 179 0 229 _ 1160 [.inr (.inr (.inl (-2))), .inr (.inr (.inl 0)), .inr (.inr (.inl 176)), .inl x3] [] 229 jr0 g
          refine jGo_blk qL_law_1160 ?_
          have e514 : jw32 (x3 + 1) = x3 + 1 := j32e (by omega) (by omega)
          refine st_xi (N := E.2.2.2.2.1) (by decide) (by decide) rfl (show 0 ≤ jw32 (x3 + 1) by omega) (show jw32 (x3 + 1) < ((E.2.2.2.2.1 : Nat) : Int) by omega) (fun v515 ev515 => ?_)
          replace ev515 : v515 = jxv E (-2) (jw32 (x3 + 1)) := ev515
          have e516 : jw32 (x3 + 2) = x3 + 2 := j32e (by omega) (by omega)
          refine st_xi (N := E.2.2.2.2.1) (by decide) (by decide) rfl (show 0 ≤ jw32 (x3 + 2) by omega) (show jw32 (x3 + 2) < ((E.2.2.2.2.1 : Nat) : Int) by omega) (fun v517 ev517 => ?_)
          replace ev517 : v517 = jxv E (-2) (jw32 (x3 + 2)) := ev517
          refine st_cv (na := 2) (st := [.inl v517, .inl v515, .inr (.inr (.inl 0))]) jo_0 rfl rfl rfl (c_X11_gap v515 v517 g) rfl ?_
          rintro _ _ g519 ⟨rfl, ft518, t518, rfl, ht518, zt518⟩ kt518
          replace kt518 : -2147483648 ≤ t518 ∧ t518 ≤ 2147483647 := kt518
          have li520 : jLI g519 := jLI_fr (ft518 176 0 (by unfold w_X11_gap; omega)) (ft518 0 0 (by unfold w_X11_gap; omega)) (fun t => ft518 87 t (by unfold w_X11_gap; omega)) li
          have dli520 : g519 176 0 ≤ 2000 := li520.1
          have e522 : jw32 (x3 + 1) = x3 + 1 := j32e (by omega) (by omega)
          refine st_xi (N := E.2.2.2.2.1) (by decide) (by decide) rfl (show 0 ≤ jw32 (x3 + 1) by omega) (show jw32 (x3 + 1) < ((E.2.2.2.2.1 : Nat) : Int) by omega) (fun v523 ev523 => ?_)
          replace ev523 : v523 = jxv E (-2) (jw32 (x3 + 1)) := ev523
          have e524 : jw32 (x3 + 2) = x3 + 2 := j32e (by omega) (by omega)
          refine st_xi (N := E.2.2.2.2.1) (by decide) (by decide) rfl (show 0 ≤ jw32 (x3 + 2) by omega) (show jw32 (x3 + 2) < ((E.2.2.2.2.1 : Nat) : Int) by omega) (fun v525 ev525 => ?_)
          replace ev525 : v525 = jxv E (-2) (jw32 (x3 + 2)) := ev525
          refine st_cv (na := 2) (st := [.inl v525, .inl v523, .inr (.inr (.inl 176))]) jo_176 rfl rfl rfl (c_X12_gap v523 v525 g519) rfl ?_
          rintro _ _ g527 ⟨rfl, ft526, t526, rfl, ht526, zt526⟩ kt526
          replace kt526 : -2147483648 ≤ t526 ∧ t526 ≤ 2147483647 := kt526
          have li528 : jLI g527 := jLI_fr (ft526 176 0 (by unfold w_X12_gap; omega)) (ft526 0 0 (by unfold w_X12_gap; omega)) (fun t => ft526 87 t (by unfold w_X12_gap; omega)) li520
          have dli528 : g527 176 0 ≤ 2000 := li528.1
          have sm529 : jI g527 := pf_gap ft518 ft526 sm
          show jGo E l 179 0 229 _ 1410 [.inr (.inr (.inl (-2))), .inr (.inr (.inl 0)), .inr (.inr (.inl 176)), .inl x3] [] 229 jr0 g527
          refine jGo_blk qL_law_1410 ?_
          have e530 : jw32 (x3 + 6) = x3 + 6 := j32e (by omega) (by omega)
          show jGo E l 179 0 229 _ 18 [.inr (.inr (.inl (-2))), .inr (.inr (.inl 0)), .inr (.inr (.inl 176)), .inl (jw32 (x3 + 6))] [] 229 jr0 g527
          exact ih (jw32 (x3 + 6)) g527 (by omega) li528 sm529 (by omega)
        · replace c6 : jand v4 63 = 27 := c6
          show jGo E l 179 0 229 _ 1193 [.inr (.inr (.inl (-2))), .inr (.inr (.inl 0)), .inr (.inr (.inl 176)), .inl x3] [] 229 jr0 g
          refine jGo_blk qL_law_1193 ?_
          have e531 : jw32 (x3 + 1) = x3 + 1 := j32e (by omega) (by omega)
          refine st_xi (N := E.2.2.2.2.1) (by decide) (by decide) rfl (show 0 ≤ jw32 (x3 + 1) by omega) (show jw32 (x3 + 1) < ((E.2.2.2.2.1 : Nat) : Int) by omega) (fun v532 ev532 => ?_)
          replace ev532 : v532 = jxv E (-2) (jw32 (x3 + 1)) := ev532
          refine st_cv (na := 1) (st := [.inl v532, .inr (.inr (.inl 0))]) jo_0 rfl rfl rfl (c_X11_worst v532 g) rfl ?_
          rintro _ _ g534 ⟨rfl, ft533, t533, rfl, ht533, zt533⟩ kt533
          replace kt533 : -2147483648 ≤ t533 ∧ t533 ≤ 2147483647 := kt533
          replace ht533 : -9 ≤ t533 ∧ t533 ≤ 39 := ht533
          have li535 : jLI g534 := jLI_fr (ft533 176 0 (by unfold w_X11_worst; omega)) (ft533 0 0 (by unfold w_X11_worst; omega)) (fun t => ft533 87 t (by unfold w_X11_worst; omega)) li
          have dli535 : g534 176 0 ≤ 2000 := li535.1
          have e537 : jw32 (x3 + 1) = x3 + 1 := j32e (by omega) (by omega)
          refine st_xi (N := E.2.2.2.2.1) (by decide) (by decide) rfl (show 0 ≤ jw32 (x3 + 1) by omega) (show jw32 (x3 + 1) < ((E.2.2.2.2.1 : Nat) : Int) by omega) (fun v538 ev538 => ?_)
          replace ev538 : v538 = jxv E (-2) (jw32 (x3 + 1)) := ev538
          refine st_cv (na := 1) (st := [.inl v538, .inr (.inr (.inl 176))]) jo_176 rfl rfl rfl (c_X12_worst v538 g534) rfl ?_
          rintro _ _ g540 ⟨rfl, ft539, t539, rfl, ht539, zt539⟩ kt539
          replace kt539 : -2147483648 ≤ t539 ∧ t539 ≤ 2147483647 := kt539
          replace ht539 : -9 ≤ t539 ∧ t539 ≤ 39 := ht539
          have li541 : jLI g540 := jLI_fr (ft539 176 0 (by unfold w_X12_worst; omega)) (ft539 0 0 (by unfold w_X12_worst; omega)) (fun t => ft539 87 t (by unfold w_X12_worst; omega)) li535
          have dli541 : g540 176 0 ≤ 2000 := li541.1
          have sm542 : jI g540 := pf_worst ft533 ft539 sm
          show jGo E l 179 0 229 _ 1410 [.inr (.inr (.inl (-2))), .inr (.inr (.inl 0)), .inr (.inr (.inl 176)), .inl x3] [] 229 jr0 g540
          refine jGo_blk qL_law_1410 ?_
          have e543 : jw32 (x3 + 6) = x3 + 6 := j32e (by omega) (by omega)
          show jGo E l 179 0 229 _ 18 [.inr (.inr (.inl (-2))), .inr (.inr (.inl 0)), .inr (.inr (.inl 176)), .inl (jw32 (x3 + 6))] [] 229 jr0 g540
          exact ih (jw32 (x3 + 6)) g540 (by omega) li541 sm542 (by omega)
        · replace c6 : jand v4 63 = 28 := c6
          show jGo E l 179 0 229 _ 1216 [.inr (.inr (.inl (-2))), .inr (.inr (.inl 0)), .inr (.inr (.inl 176)), .inl x3] [] 229 jr0 g
          refine jGo_blk qL_law_1216 ?_
          have e544 : jw32 (x3 + 1) = x3 + 1 := j32e (by omega) (by omega)
          refine st_xi (N := E.2.2.2.2.1) (by decide) (by decide) rfl (show 0 ≤ jw32 (x3 + 1) by omega) (show jw32 (x3 + 1) < ((E.2.2.2.2.1 : Nat) : Int) by omega) (fun v545 ev545 => ?_)
          replace ev545 : v545 = jxv E (-2) (jw32 (x3 + 1)) := ev545
          refine st_cv (na := 1) (st := [.inl v545, .inr (.inr (.inl 0))]) jo_0 rfl rfl rfl (c_X11_ready v545 g) rfl ?_
          rintro _ _ g547 ⟨rfl, ft546, t546, rfl, ht546, zt546⟩ kt546
          replace kt546 : -2147483648 ≤ t546 ∧ t546 ≤ 2147483647 := kt546
          have li548 : jLI g547 := jLI_fr (ft546 176 0 (by unfold w_X11_ready; omega)) (ft546 0 0 (by unfold w_X11_ready; omega)) (fun t => ft546 87 t (by unfold w_X11_ready; omega)) li
          have dli548 : g547 176 0 ≤ 2000 := li548.1
          have e550 : jw32 (x3 + 1) = x3 + 1 := j32e (by omega) (by omega)
          refine st_xi (N := E.2.2.2.2.1) (by decide) (by decide) rfl (show 0 ≤ jw32 (x3 + 1) by omega) (show jw32 (x3 + 1) < ((E.2.2.2.2.1 : Nat) : Int) by omega) (fun v551 ev551 => ?_)
          replace ev551 : v551 = jxv E (-2) (jw32 (x3 + 1)) := ev551
          have e552 : g547 176 0 = g 176 0 := ft546 176 0 (by unfold w_X11_ready; omega)
          refine st_cv (na := 1) (st := [.inl v551, .inr (.inr (.inl 176))]) jo_176 rfl rfl rfl (c_X12_ready v551 g547 (by omega)) rfl ?_
          rintro _ _ g554 ⟨rfl, ft553, t553, rfl, ht553, zt553⟩ kt553
          replace kt553 : -2147483648 ≤ t553 ∧ t553 ≤ 2147483647 := kt553
          replace zt553 : g554 176 0 = g547 176 0 := zt553
          have li555 : jLI g554 := ⟨by rw [show g554 176 0 = g547 176 0 from zt553]; exact li548.1, jLG_fr (ft553 0 0 (by unfold w_X12_ready; omega)) (fun t => ft553 87 t (by unfold w_X12_ready; omega)) li548.2⟩
          have dli555 : g554 176 0 ≤ 2000 := li555.1
          have sm556 : jI g554 := pf_ready ft546 ft553 zt553 sm
          show jGo E l 179 0 229 _ 1410 [.inr (.inr (.inl (-2))), .inr (.inr (.inl 0)), .inr (.inr (.inl 176)), .inl x3] [] 229 jr0 g554
          refine jGo_blk qL_law_1410 ?_
          have e557 : jw32 (x3 + 6) = x3 + 6 := j32e (by omega) (by omega)
          show jGo E l 179 0 229 _ 18 [.inr (.inr (.inl (-2))), .inr (.inr (.inl 0)), .inr (.inr (.inl 176)), .inl (jw32 (x3 + 6))] [] 229 jr0 g554
          exact ih (jw32 (x3 + 6)) g554 (by omega) li555 sm556 (by omega)
        · replace c6 : jand v4 63 = 29 := c6
          show jGo E l 179 0 229 _ 1239 [.inr (.inr (.inl (-2))), .inr (.inr (.inl 0)), .inr (.inr (.inl 176)), .inl x3] [] 229 jr0 g
          refine jGo_blk qL_law_1239 ?_
          have e558 : jw32 (x3 + 1) = x3 + 1 := j32e (by omega) (by omega)
          refine st_xi (N := E.2.2.2.2.1) (by decide) (by decide) rfl (show 0 ≤ jw32 (x3 + 1) by omega) (show jw32 (x3 + 1) < ((E.2.2.2.2.1 : Nat) : Int) by omega) (fun v559 ev559 => ?_)
          replace ev559 : v559 = jxv E (-2) (jw32 (x3 + 1)) := ev559
          refine st_cv (na := 1) (st := [.inl v559, .inr (.inr (.inl 0))]) jo_0 rfl rfl rfl (c_X11_late v559 g) rfl ?_
          rintro _ _ g561 ⟨rfl, ft560, t560, rfl, ht560, zt560⟩ kt560
          replace kt560 : -2147483648 ≤ t560 ∧ t560 ≤ 2147483647 := kt560
          have li562 : jLI g561 := jLI_fr (ft560 176 0 (by unfold w_X11_late; omega)) (ft560 0 0 (by unfold w_X11_late; omega)) (fun t => ft560 87 t (by unfold w_X11_late; omega)) li
          have dli562 : g561 176 0 ≤ 2000 := li562.1
          have e564 : jw32 (x3 + 1) = x3 + 1 := j32e (by omega) (by omega)
          refine st_xi (N := E.2.2.2.2.1) (by decide) (by decide) rfl (show 0 ≤ jw32 (x3 + 1) by omega) (show jw32 (x3 + 1) < ((E.2.2.2.2.1 : Nat) : Int) by omega) (fun v565 ev565 => ?_)
          replace ev565 : v565 = jxv E (-2) (jw32 (x3 + 1)) := ev565
          have e566 : g561 176 0 = g 176 0 := ft560 176 0 (by unfold w_X11_late; omega)
          refine st_cv (na := 1) (st := [.inl v565, .inr (.inr (.inl 176))]) jo_176 rfl rfl rfl (c_X12_late v565 g561 (by omega)) rfl ?_
          rintro _ _ g568 ⟨rfl, ft567, t567, rfl, ht567, zt567⟩ kt567
          replace kt567 : -2147483648 ≤ t567 ∧ t567 ≤ 2147483647 := kt567
          replace zt567 : g568 176 0 = g561 176 0 := zt567
          have li569 : jLI g568 := ⟨by rw [show g568 176 0 = g561 176 0 from zt567]; exact li562.1, jLG_fr (ft567 0 0 (by unfold w_X12_late; omega)) (fun t => ft567 87 t (by unfold w_X12_late; omega)) li562.2⟩
          have dli569 : g568 176 0 ≤ 2000 := li569.1
          have sm570 : jI g568 := pf_late ft560 ft567 zt567 sm
          show jGo E l 179 0 229 _ 1410 [.inr (.inr (.inl (-2))), .inr (.inr (.inl 0)), .inr (.inr (.inl 176)), .inl x3] [] 229 jr0 g568
          refine jGo_blk qL_law_1410 ?_
          have e571 : jw32 (x3 + 6) = x3 + 6 := j32e (by omega) (by omega)
          show jGo E l 179 0 229 _ 18 [.inr (.inr (.inl (-2))), .inr (.inr (.inl 0)), .inr (.inr (.inl 176)), .inl (jw32 (x3 + 6))] [] 229 jr0 g568
          exact ih (jw32 (x3 + 6)) g568 (by omega) li569 sm570 (by omega)
        · replace c6 : jand v4 63 = 30 := c6
          show jGo E l 179 0 229 _ 1262 [.inr (.inr (.inl (-2))), .inr (.inr (.inl 0)), .inr (.inr (.inl 176)), .inl x3] [] 229 jr0 g
          refine jGo_blk qL_law_1262 ?_
          refine st_cv (na := 0) (st := [.inr (.inr (.inl 0))]) jo_0 rfl rfl rfl (c_X11_least g) rfl ?_
          rintro _ _ g573 ⟨rfl, ft572, t572, rfl, ht572, zt572⟩ kt572
          replace kt572 : -2147483648 ≤ t572 ∧ t572 ≤ 2147483647 := kt572
          have li574 : jLI g573 := jLI_fr (ft572 176 0 (by unfold w_X11_least; omega)) (ft572 0 0 (by unfold w_X11_least; omega)) (fun t => ft572 87 t (by unfold w_X11_least; omega)) li
          have dli574 : g573 176 0 ≤ 2000 := li574.1
          have e576 : g573 176 0 = g 176 0 := ft572 176 0 (by unfold w_X11_least; omega)
          refine st_cv (na := 0) (st := [.inr (.inr (.inl 176))]) jo_176 rfl rfl rfl (c_X12_least g573 (by omega)) rfl ?_
          rintro _ _ g578 ⟨rfl, ft577, t577, rfl, ht577, zt577⟩ kt577
          replace kt577 : -2147483648 ≤ t577 ∧ t577 ≤ 2147483647 := kt577
          replace zt577 : g578 176 0 = g573 176 0 := zt577
          have li579 : jLI g578 := ⟨by rw [show g578 176 0 = g573 176 0 from zt577]; exact li574.1, jLG_fr (ft577 0 0 (by unfold w_X12_least; omega)) (fun t => ft577 87 t (by unfold w_X12_least; omega)) li574.2⟩
          have dli579 : g578 176 0 ≤ 2000 := li579.1
          have sm580 : jI g578 := pf_least ft572 ft577 zt577 sm
          show jGo E l 179 0 229 _ 1410 [.inr (.inr (.inl (-2))), .inr (.inr (.inl 0)), .inr (.inr (.inl 176)), .inl x3] [] 229 jr0 g578
          refine jGo_blk qL_law_1410 ?_
          have e581 : jw32 (x3 + 6) = x3 + 6 := j32e (by omega) (by omega)
          show jGo E l 179 0 229 _ 18 [.inr (.inr (.inl (-2))), .inr (.inr (.inl 0)), .inr (.inr (.inl 176)), .inl (jw32 (x3 + 6))] [] 229 jr0 g578
          exact ih (jw32 (x3 + 6)) g578 (by omega) li579 sm580 (by omega)
        · replace c6 : jand v4 63 = 31 := c6
          show jGo E l 179 0 229 _ 1275 [.inr (.inr (.inl (-2))), .inr (.inr (.inl 0)), .inr (.inr (.inl 176)), .inl x3] [] 229 jr0 g
          refine jGo_blk qL_law_1275 ?_
          have e582 : jw32 (x3 + 1) = x3 + 1 := j32e (by omega) (by omega)
          refine st_xi (N := E.2.2.2.2.1) (by decide) (by decide) rfl (show 0 ≤ jw32 (x3 + 1) by omega) (show jw32 (x3 + 1) < ((E.2.2.2.2.1 : Nat) : Int) by omega) (fun v583 ev583 => ?_)
          replace ev583 : v583 = jxv E (-2) (jw32 (x3 + 1)) := ev583
          refine st_cv (na := 1) (st := [.inl v583, .inr (.inr (.inl 0))]) jo_0 rfl rfl rfl (c_X11_order v583 g) rfl ?_
          rintro _ _ g585 ⟨rfl, ft584, t584, rfl, ht584, zt584⟩ kt584
          replace kt584 : -2147483648 ≤ t584 ∧ t584 ≤ 2147483647 := kt584
          replace ht584 : -9 ≤ t584 ∧ t584 ≤ 15 := ht584
          have li586 : jLI g585 := jLI_fr (ft584 176 0 (by unfold w_X11_order; omega)) (ft584 0 0 (by unfold w_X11_order; omega)) (fun t => ft584 87 t (by unfold w_X11_order; omega)) li
          have dli586 : g585 176 0 ≤ 2000 := li586.1
          have e588 : jw32 (x3 + 1) = x3 + 1 := j32e (by omega) (by omega)
          refine st_xi (N := E.2.2.2.2.1) (by decide) (by decide) rfl (show 0 ≤ jw32 (x3 + 1) by omega) (show jw32 (x3 + 1) < ((E.2.2.2.2.1 : Nat) : Int) by omega) (fun v589 ev589 => ?_)
          replace ev589 : v589 = jxv E (-2) (jw32 (x3 + 1)) := ev589
          have e590 : g585 176 0 = g 176 0 := ft584 176 0 (by unfold w_X11_order; omega)
          refine st_cv (na := 1) (st := [.inl v589, .inr (.inr (.inl 176))]) jo_176 rfl rfl rfl (c_X12_order v589 g585 (by omega)) rfl ?_
          rintro _ _ g592 ⟨rfl, ft591, t591, rfl, ht591, zt591⟩ kt591
          replace kt591 : -2147483648 ≤ t591 ∧ t591 ≤ 2147483647 := kt591
          replace ht591 : -9 ≤ t591 ∧ t591 ≤ 15 := ht591
          replace zt591 : g592 176 0 = g585 176 0 := zt591
          have li593 : jLI g592 := ⟨by rw [show g592 176 0 = g585 176 0 from zt591]; exact li586.1, jLG_fr (ft591 0 0 (by unfold w_X12_order; omega)) (fun t => ft591 87 t (by unfold w_X12_order; omega)) li586.2⟩
          have dli593 : g592 176 0 ≤ 2000 := li593.1
          have sm594 : jI g592 := pf_order ft584 ft591 zt591 sm
          show jGo E l 179 0 229 _ 1410 [.inr (.inr (.inl (-2))), .inr (.inr (.inl 0)), .inr (.inr (.inl 176)), .inl x3] [] 229 jr0 g592
          refine jGo_blk qL_law_1410 ?_
          have e595 : jw32 (x3 + 6) = x3 + 6 := j32e (by omega) (by omega)
          show jGo E l 179 0 229 _ 18 [.inr (.inr (.inl (-2))), .inr (.inr (.inl 0)), .inr (.inr (.inl 176)), .inl (jw32 (x3 + 6))] [] 229 jr0 g592
          exact ih (jw32 (x3 + 6)) g592 (by omega) li593 sm594 (by omega)
        · replace c6 : jand v4 63 = 32 := c6
          show jGo E l 179 0 229 _ 1298 [.inr (.inr (.inl (-2))), .inr (.inr (.inl 0)), .inr (.inr (.inl 176)), .inl x3] [] 229 jr0 g
          refine jGo_blk qL_law_1298 ?_
          have e596 : jw32 (x3 + 1) = x3 + 1 := j32e (by omega) (by omega)
          refine st_xi (N := E.2.2.2.2.1) (by decide) (by decide) rfl (show 0 ≤ jw32 (x3 + 1) by omega) (show jw32 (x3 + 1) < ((E.2.2.2.2.1 : Nat) : Int) by omega) (fun v597 ev597 => ?_)
          replace ev597 : v597 = jxv E (-2) (jw32 (x3 + 1)) := ev597
          have e598 : jw32 (x3 + 2) = x3 + 2 := j32e (by omega) (by omega)
          refine st_xi (N := E.2.2.2.2.1) (by decide) (by decide) rfl (show 0 ≤ jw32 (x3 + 2) by omega) (show jw32 (x3 + 2) < ((E.2.2.2.2.1 : Nat) : Int) by omega) (fun v599 ev599 => ?_)
          replace ev599 : v599 = jxv E (-2) (jw32 (x3 + 2)) := ev599
          refine st_cv (na := 2) (st := [.inl v599, .inl v597, .inr (.inr (.inl 0))]) jo_0 rfl rfl rfl (c_X11_hullOf v597 v599 g) rfl ?_
          rintro _ _ g601 ⟨rfl, ft600, t600, rfl, ht600, zt600⟩ kt600
          replace kt600 : -2147483648 ≤ t600 ∧ t600 ≤ 2147483647 := kt600
          have li602 : jLI g601 := jLI_fr (ft600 176 0 (by unfold w_X11_hullOf; omega)) (ft600 0 0 (by unfold w_X11_hullOf; omega)) (fun t => ft600 87 t (by unfold w_X11_hullOf; omega)) li
          have dli602 : g601 176 0 ≤ 2000 := li602.1
          have e604 : jw32 (x3 + 1) = x3 + 1 := j32e (by omega) (by omega)
          refine st_xi (N := E.2.2.2.2.1) (by decide) (by decide) rfl (show 0 ≤ jw32 (x3 + 1) by omega) (show jw32 (x3 + 1) < ((E.2.2.2.2.1 : Nat) : Int) by omega) (fun v605 ev605 => ?_)
          replace ev605 : v605 = jxv E (-2) (jw32 (x3 + 1)) := ev605
          have e606 : jw32 (x3 + 2) = x3 + 2 := j32e (by omega) (by omega)
          refine st_xi (N := E.2.2.2.2.1) (by decide) (by decide) rfl (show 0 ≤ jw32 (x3 + 2) by omega) (show jw32 (x3 + 2) < ((E.2.2.2.2.1 : Nat) : Int) by omega) (fun v607 ev607 => ?_)
          replace ev607 : v607 = jxv E (-2) (jw32 (x3 + 2)) := ev607
          refine st_cv (na := 2) (st := [.inl v607, .inl v605, .inr (.inr (.inl 176))]) jo_176 rfl rfl rfl (c_X12_hullOf v605 v607 g601) rfl ?_
          rintro _ _ g609 ⟨rfl, ft608, t608, rfl, ht608, zt608⟩ kt608
          replace kt608 : -2147483648 ≤ t608 ∧ t608 ≤ 2147483647 := kt608
          have li610 : jLI g609 := jLI_fr (ft608 176 0 (by unfold w_X12_hullOf; omega)) (ft608 0 0 (by unfold w_X12_hullOf; omega)) (fun t => ft608 87 t (by unfold w_X12_hullOf; omega)) li602
          have dli610 : g609 176 0 ≤ 2000 := li610.1
          have sm611 : jI g609 := pf_hullOf ft600 ft608 sm
          show jGo E l 179 0 229 _ 1410 [.inr (.inr (.inl (-2))), .inr (.inr (.inl 0)), .inr (.inr (.inl 176)), .inl x3] [] 229 jr0 g609
          refine jGo_blk qL_law_1410 ?_
          have e612 : jw32 (x3 + 6) = x3 + 6 := j32e (by omega) (by omega)
          show jGo E l 179 0 229 _ 18 [.inr (.inr (.inl (-2))), .inr (.inr (.inl 0)), .inr (.inr (.inl 176)), .inl (jw32 (x3 + 6))] [] 229 jr0 g609
          exact ih (jw32 (x3 + 6)) g609 (by omega) li610 sm611 (by omega)
        · replace c6 : jand v4 63 = 33 := c6
          show jGo E l 179 0 229 _ 1331 [.inr (.inr (.inl (-2))), .inr (.inr (.inl 0)), .inr (.inr (.inl 176)), .inl x3] [] 229 jr0 g
          refine jGo_blk qL_law_1331 ?_
          have e613 : jw32 (x3 + 1) = x3 + 1 := j32e (by omega) (by omega)
          refine st_xi (N := E.2.2.2.2.1) (by decide) (by decide) rfl (show 0 ≤ jw32 (x3 + 1) by omega) (show jw32 (x3 + 1) < ((E.2.2.2.2.1 : Nat) : Int) by omega) (fun v614 ev614 => ?_)
          replace ev614 : v614 = jxv E (-2) (jw32 (x3 + 1)) := ev614
          have e615 : jw32 (x3 + 2) = x3 + 2 := j32e (by omega) (by omega)
          refine st_xi (N := E.2.2.2.2.1) (by decide) (by decide) rfl (show 0 ≤ jw32 (x3 + 2) by omega) (show jw32 (x3 + 2) < ((E.2.2.2.2.1 : Nat) : Int) by omega) (fun v616 ev616 => ?_)
          replace ev616 : v616 = jxv E (-2) (jw32 (x3 + 2)) := ev616
          refine st_cv (na := 2) (st := [.inl v616, .inl v614, .inr (.inr (.inl 0))]) jo_0 rfl rfl rfl (c_X11_basinOf v614 v616 g) rfl ?_
          rintro _ _ g618 ⟨rfl, ft617, t617, rfl, ht617, zt617⟩ kt617
          replace kt617 : -2147483648 ≤ t617 ∧ t617 ≤ 2147483647 := kt617
          have li619 : jLI g618 := jLI_fr (ft617 176 0 (by unfold w_X11_basinOf; omega)) (ft617 0 0 (by unfold w_X11_basinOf; omega)) (fun t => ft617 87 t (by unfold w_X11_basinOf; omega)) li
          have dli619 : g618 176 0 ≤ 2000 := li619.1
          have e621 : jw32 (x3 + 1) = x3 + 1 := j32e (by omega) (by omega)
          refine st_xi (N := E.2.2.2.2.1) (by decide) (by decide) rfl (show 0 ≤ jw32 (x3 + 1) by omega) (show jw32 (x3 + 1) < ((E.2.2.2.2.1 : Nat) : Int) by omega) (fun v622 ev622 => ?_)
          replace ev622 : v622 = jxv E (-2) (jw32 (x3 + 1)) := ev622
          have e623 : jw32 (x3 + 2) = x3 + 2 := j32e (by omega) (by omega)
          refine st_xi (N := E.2.2.2.2.1) (by decide) (by decide) rfl (show 0 ≤ jw32 (x3 + 2) by omega) (show jw32 (x3 + 2) < ((E.2.2.2.2.1 : Nat) : Int) by omega) (fun v624 ev624 => ?_)
          replace ev624 : v624 = jxv E (-2) (jw32 (x3 + 2)) := ev624
          refine st_cv (na := 2) (st := [.inl v624, .inl v622, .inr (.inr (.inl 176))]) jo_176 rfl rfl rfl (c_X12_basinOf v622 v624 g618) rfl ?_
          rintro _ _ g626 ⟨rfl, ft625, t625, rfl, ht625, zt625⟩ kt625
          replace kt625 : -2147483648 ≤ t625 ∧ t625 ≤ 2147483647 := kt625
          have li627 : jLI g626 := jLI_fr (ft625 176 0 (by unfold w_X12_basinOf; omega)) (ft625 0 0 (by unfold w_X12_basinOf; omega)) (fun t => ft625 87 t (by unfold w_X12_basinOf; omega)) li619
          have dli627 : g626 176 0 ≤ 2000 := li627.1
          have sm628 : jI g626 := pf_basinOf ft617 ft625 sm
          show jGo E l 179 0 229 _ 1410 [.inr (.inr (.inl (-2))), .inr (.inr (.inl 0)), .inr (.inr (.inl 176)), .inl x3] [] 229 jr0 g626
          refine jGo_blk qL_law_1410 ?_
          have e629 : jw32 (x3 + 6) = x3 + 6 := j32e (by omega) (by omega)
          show jGo E l 179 0 229 _ 18 [.inr (.inr (.inl (-2))), .inr (.inr (.inl 0)), .inr (.inr (.inl 176)), .inl (jw32 (x3 + 6))] [] 229 jr0 g626
          exact ih (jw32 (x3 + 6)) g626 (by omega) li627 sm628 (by omega)
        · replace c6 : jand v4 63 = 34 := c6
          show jGo E l 179 0 229 _ 1364 [.inr (.inr (.inl (-2))), .inr (.inr (.inl 0)), .inr (.inr (.inl 176)), .inl x3] [] 229 jr0 g
          refine jGo_blk qL_law_1364 ?_
          have e630 : jw32 (x3 + 1) = x3 + 1 := j32e (by omega) (by omega)
          refine st_xi (N := E.2.2.2.2.1) (by decide) (by decide) rfl (show 0 ≤ jw32 (x3 + 1) by omega) (show jw32 (x3 + 1) < ((E.2.2.2.2.1 : Nat) : Int) by omega) (fun v631 ev631 => ?_)
          replace ev631 : v631 = jxv E (-2) (jw32 (x3 + 1)) := ev631
          refine st_cv (na := 1) (st := [.inl v631, .inr (.inr (.inl 0))]) jo_0 rfl rfl rfl (c_X11_stock v631 g) rfl ?_
          rintro _ _ g633 ⟨rfl, ft632, t632, rfl, ht632, zt632⟩ kt632
          replace kt632 : -2147483648 ≤ t632 ∧ t632 ≤ 2147483647 := kt632
          have li634 : jLI g633 := jLI_fr (ft632 176 0 (by unfold w_X11_stock; omega)) (ft632 0 0 (by unfold w_X11_stock; omega)) (fun t => ft632 87 t (by unfold w_X11_stock; omega)) li
          have dli634 : g633 176 0 ≤ 2000 := li634.1
          have e636 : jw32 (x3 + 1) = x3 + 1 := j32e (by omega) (by omega)
          refine st_xi (N := E.2.2.2.2.1) (by decide) (by decide) rfl (show 0 ≤ jw32 (x3 + 1) by omega) (show jw32 (x3 + 1) < ((E.2.2.2.2.1 : Nat) : Int) by omega) (fun v637 ev637 => ?_)
          replace ev637 : v637 = jxv E (-2) (jw32 (x3 + 1)) := ev637
          refine st_cv (na := 1) (st := [.inl v637, .inr (.inr (.inl 176))]) jo_176 rfl rfl rfl (c_X12_stock v637 g633) rfl ?_
          rintro _ _ g639 ⟨rfl, ft638, t638, rfl, ht638, zt638⟩ kt638
          replace kt638 : -2147483648 ≤ t638 ∧ t638 ≤ 2147483647 := kt638
          have li640 : jLI g639 := jLI_fr (ft638 176 0 (by unfold w_X12_stock; omega)) (ft638 0 0 (by unfold w_X12_stock; omega)) (fun t => ft638 87 t (by unfold w_X12_stock; omega)) li634
          have dli640 : g639 176 0 ≤ 2000 := li640.1
          have sm641 : jI g639 := pf_stock ft632 ft638 sm
          show jGo E l 179 0 229 _ 1410 [.inr (.inr (.inl (-2))), .inr (.inr (.inl 0)), .inr (.inr (.inl 176)), .inl x3] [] 229 jr0 g639
          refine jGo_blk qL_law_1410 ?_
          have e642 : jw32 (x3 + 6) = x3 + 6 := j32e (by omega) (by omega)
          show jGo E l 179 0 229 _ 18 [.inr (.inr (.inl (-2))), .inr (.inr (.inl 0)), .inr (.inr (.inl 176)), .inl (jw32 (x3 + 6))] [] 229 jr0 g639
          exact ih (jw32 (x3 + 6)) g639 (by omega) li640 sm641 (by omega)
        · replace c6 : jand v4 63 = 35 := c6
          show jGo E l 179 0 229 _ 1387 [.inr (.inr (.inl (-2))), .inr (.inr (.inl 0)), .inr (.inr (.inl 176)), .inl x3] [] 229 jr0 g
          refine jGo_blk qL_law_1387 ?_
          have e643 : jw32 (x3 + 1) = x3 + 1 := j32e (by omega) (by omega)
          refine st_xi (N := E.2.2.2.2.1) (by decide) (by decide) rfl (show 0 ≤ jw32 (x3 + 1) by omega) (show jw32 (x3 + 1) < ((E.2.2.2.2.1 : Nat) : Int) by omega) (fun v644 ev644 => ?_)
          replace ev644 : v644 = jxv E (-2) (jw32 (x3 + 1)) := ev644
          refine st_cv (na := 1) (st := [.inl v644, .inr (.inr (.inl 0))]) jo_0 rfl rfl rfl (c_X11_told v644 g) rfl ?_
          rintro _ _ _ ⟨rfl, rfl, t645, rfl, ht645, zt645⟩ kt645
          replace kt645 : -2147483648 ≤ t645 ∧ t645 ≤ 2147483647 := kt645
          have e647 : jw32 (x3 + 1) = x3 + 1 := j32e (by omega) (by omega)
          refine st_xi (N := E.2.2.2.2.1) (by decide) (by decide) rfl (show 0 ≤ jw32 (x3 + 1) by omega) (show jw32 (x3 + 1) < ((E.2.2.2.2.1 : Nat) : Int) by omega) (fun v648 ev648 => ?_)
          replace ev648 : v648 = jxv E (-2) (jw32 (x3 + 1)) := ev648
          refine st_cv (na := 1) (st := [.inl v648, .inr (.inr (.inl 176))]) jo_176 rfl rfl rfl (c_X12_told v648 g) rfl ?_
          rintro _ _ _ ⟨rfl, rfl, t649, rfl, ht649, zt649⟩ kt649
          replace kt649 : -2147483648 ≤ t649 ∧ t649 ≤ 2147483647 := kt649
          show jGo E l 179 0 229 _ 1410 [.inr (.inr (.inl (-2))), .inr (.inr (.inl 0)), .inr (.inr (.inl 176)), .inl x3] [] 229 jr0 g
          refine jGo_blk qL_law_1410 ?_
          have e651 : jw32 (x3 + 6) = x3 + 6 := j32e (by omega) (by omega)
          show jGo E l 179 0 229 _ 18 [.inr (.inr (.inl (-2))), .inr (.inr (.inl 0)), .inr (.inr (.inl 176)), .inl (jw32 (x3 + 6))] [] 229 jr0 g
          exact ih (jw32 (x3 + 6)) g (by omega) li sm (by omega)
