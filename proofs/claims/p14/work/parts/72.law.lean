/-! ===== THE LAW'S LOOP (by program) ===== -/
def jLI (h : JH) : Prop := h 176 0 ≤ 2000 ∧ jLG 0 h
theorem jLI_fr {h g : JH} (e : g 176 0 = h 176 0) (e0 : g 0 0 = h 0 0) (e87 : ∀ t : Int, g 87 t = h 87 t) (q : jLI h) : jLI g := ⟨by rw [e]; exact q.1, jLG_fr e0 e87 q.2⟩
def jlRT : JR := fun v _ _ _ => v = some (.inl 1)
theorem st_alx {E : JE} {K : JK} {ls s : List JV} {n : Nat} {r h : JH} (kk : ∀ v, v = ((E.2.2.2.2.1 : Nat) : Int) → K ls (.inl v :: s) n r h) : jaln E K ls (.inr (.inr (.inl (-2))) :: s) n r h := ⟨fun q => absurd q (by decide), fun _ => ⟨rfl, kk _ rfl⟩⟩
set_option maxHeartbeats 40000000 in
set_option maxRecDepth 20000 in
theorem law_loop {E : JE} {l : Launch} (hE : E.2.2.2.2.1 ≤ 3072) : ∀ N : Nat, ∀ (x3 : Int) (g : JH), (0 ≤ x3 ∧ x3 ≤ 3072) → jLI g → jI g → 3072 - x3 < (N : Int) → jGo E l 179 0 229 jlRT 18 [.inr (.inr (.inl (-2))), .inr (.inr (.inl 0)), .inr (.inr (.inl 176)), .inl x3] [] 229 jr0 g := by
  intro N
  induction N with
  | zero => exact fun x3 g hi _ _ hN => absurd hN (by omega)
  | succ N ih =>
      intro x3 g hi li sm hN
      have dli : g 176 0 ≤ 2000 := li.1
      refine jGo_blk qL_law_18 ?_
      refine st_alx (fun v1 ev1 => ?_)
      replace ev1 : v1 = ((E.2.2.2.2.1 : Nat) : Int) := ev1
      have bv1 : 0 ≤ v1 ∧ v1 ≤ 3072 := by omega
      have e2 : jw32 (v1 - 6) = v1 - 6 := j32e (by omega) (by omega)
      refine And.intro (fun c3 => ?_) (fun c3 => ?_)
      · replace c3 : jw32 (v1 - 6) < x3 := c3
        show jGo E l 179 0 229 _ 1416 [.inr (.inr (.inl (-2))), .inr (.inr (.inl 0)), .inr (.inr (.inl 176)), .inl x3] [] 229 jr0 g
        refine jGo_blk qL_law_1416 ?_
        exact st_r1 (ls := []) (Or.inr rfl) rfl
      · replace c3 : x3 ≤ jw32 (v1 - 6) := by first | exact c3 | exact Int.not_le.mp c3 | exact Int.not_lt.mp c3 | exact Decidable.not_not.mp c3
        refine st_xi (N := E.2.2.2.2.1) (by decide) (by decide) rfl (show 0 ≤ x3 by omega) (show x3 < ((E.2.2.2.2.1 : Nat) : Int) by omega) (fun v4 ev4 => ?_)
        replace ev4 : v4 = jxv E (-2) x3 := ev4
        have e5 := jand_le2 v4 63 (by omega) (by omega)
        refine And.intro (fun c6 => ?_) (And.intro (fun c6 => ?_) (And.intro (fun c6 => ?_) (And.intro (fun c6 => ?_) (And.intro (fun c6 => ?_) (And.intro (fun c6 => ?_) (And.intro (fun c6 => ?_) (And.intro (fun c6 => ?_) (And.intro (fun c6 => ?_) (And.intro (fun c6 => ?_) (And.intro (fun c6 => ?_) (And.intro (fun c6 => ?_) (And.intro (fun c6 => ?_) (And.intro (fun c6 => ?_) (And.intro (fun c6 => ?_) (And.intro (fun c6 => ?_) (And.intro (fun c6 => ?_) (And.intro (fun c6 => ?_) (And.intro (fun c6 => ?_) (And.intro (fun c6 => ?_) (And.intro (fun c6 => ?_) (And.intro (fun c6 => ?_) (And.intro (fun c6 => ?_) (And.intro (fun c6 => ?_) (And.intro (fun c6 => ?_) (And.intro (fun c6 => ?_) (And.intro (fun c6 => ?_) (And.intro (fun c6 => ?_) (And.intro (fun c6 => ?_) (And.intro (fun c6 => ?_) (And.intro (fun c6 => ?_) (And.intro (fun c6 => ?_) (And.intro (fun c6 => ?_) (And.intro (fun c6 => ?_) (And.intro (fun c6 => ?_) (And.intro (fun c6 => ?_) (And.intro (fun c6 => ?_) (trivial)))))))))))))))))))))))))))))))))))))
        · replace c6 : jand v4 63 < 0 ∨ 35 < jand v4 63 := c6
          show jGo E l 179 0 229 _ 1410 [.inr (.inr (.inl (-2))), .inr (.inr (.inl 0)), .inr (.inr (.inl 176)), .inl x3] [] 229 jr0 g
          refine jGo_blk qL_law_1410 ?_
          have e7 : jw32 (x3 + 6) = x3 + 6 := j32e (by omega) (by omega)
          show jGo E l 179 0 229 _ 18 [.inr (.inr (.inl (-2))), .inr (.inr (.inl 0)), .inr (.inr (.inl 176)), .inl (jw32 (x3 + 6))] [] 229 jr0 g
          exact ih (jw32 (x3 + 6)) g (by omega) li sm (by omega)
        · replace c6 : jand v4 63 = 0 := c6
          show jGo E l 179 0 229 _ 192 [.inr (.inr (.inl (-2))), .inr (.inr (.inl 0)), .inr (.inr (.inl 176)), .inl x3] [] 229 jr0 g
          refine jGo_blk qL_law_192 ?_
          have e8 : jw32 (x3 + 1) = x3 + 1 := j32e (by omega) (by omega)
          refine st_xi (N := E.2.2.2.2.1) (by decide) (by decide) rfl (show 0 ≤ jw32 (x3 + 1) by omega) (show jw32 (x3 + 1) < ((E.2.2.2.2.1 : Nat) : Int) by omega) (fun v9 ev9 => ?_)
          replace ev9 : v9 = jxv E (-2) (jw32 (x3 + 1)) := ev9
          have e10 : jw32 (x3 + 2) = x3 + 2 := j32e (by omega) (by omega)
          refine st_xi (N := E.2.2.2.2.1) (by decide) (by decide) rfl (show 0 ≤ jw32 (x3 + 2) by omega) (show jw32 (x3 + 2) < ((E.2.2.2.2.1 : Nat) : Int) by omega) (fun v11 ev11 => ?_)
          replace ev11 : v11 = jxv E (-2) (jw32 (x3 + 2)) := ev11
          refine st_cv (na := 2) (st := [.inl v11, .inl v9, .inr (.inr (.inl 0))]) jo_0 rfl rfl rfl (c_X11_hands v9 v11 g) rfl ?_
          rintro _ _ g13 ⟨rfl, ft12, t12, rfl, ht12, zt12⟩ kt12
          replace kt12 : -2147483648 ≤ t12 ∧ t12 ≤ 2147483647 := kt12
          replace ht12 : -7 ≤ t12 ∧ t12 ≤ 400 := ht12
          replace zt12 : P_X11_hands v9 v11 t12 g g13 := zt12
          have li14 : jLI g13 := jLI_fr (ft12 176 0 (by unfold w_X11_hands; omega)) (ft12 0 0 (by unfold w_X11_hands; omega)) (fun t => ft12 87 t (by unfold w_X11_hands; omega)) li
          have dli14 : g13 176 0 ≤ 2000 := li14.1
          have e16 : jw32 (x3 + 1) = x3 + 1 := j32e (by omega) (by omega)
          refine st_xi (N := E.2.2.2.2.1) (by decide) (by decide) rfl (show 0 ≤ jw32 (x3 + 1) by omega) (show jw32 (x3 + 1) < ((E.2.2.2.2.1 : Nat) : Int) by omega) (fun v17 ev17 => ?_)
          replace ev17 : v17 = jxv E (-2) (jw32 (x3 + 1)) := ev17
          have e18 : jw32 (x3 + 2) = x3 + 2 := j32e (by omega) (by omega)
          refine st_xi (N := E.2.2.2.2.1) (by decide) (by decide) rfl (show 0 ≤ jw32 (x3 + 2) by omega) (show jw32 (x3 + 2) < ((E.2.2.2.2.1 : Nat) : Int) by omega) (fun v19 ev19 => ?_)
          replace ev19 : v19 = jxv E (-2) (jw32 (x3 + 2)) := ev19
          refine st_cv (na := 2) (st := [.inl v19, .inl v17, .inr (.inr (.inl 176))]) jo_176 rfl rfl rfl (c_X12_hands v17 v19 g13) rfl ?_
          rintro _ _ g21 ⟨rfl, ft20, t20, rfl, ht20, zt20⟩ kt20
          replace kt20 : -2147483648 ≤ t20 ∧ t20 ≤ 2147483647 := kt20
          replace ht20 : -7 ≤ t20 ∧ t20 ≤ 400 := ht20
          replace zt20 : P_X12_hands v17 v19 t20 g13 g21 := zt20
          have li22 : jLI g21 := jLI_fr (ft20 176 0 (by unfold w_X12_hands; omega)) (ft20 0 0 (by unfold w_X12_hands; omega)) (fun t => ft20 87 t (by unfold w_X12_hands; omega)) li14
          have dli22 : g21 176 0 ≤ 2000 := li22.1
          rw [show v17 = v9 by omega, show v19 = v11 by omega] at zt20
          have qe24 := pr_hands ft12 ft20 zt12 zt20 sm
          have eqe24 := qe24.1
          have sm23 : jI g21 := qe24.2
          clear qe24 zt20
          show jGo E l 179 0 229 _ 1410 [.inr (.inr (.inl (-2))), .inr (.inr (.inl 0)), .inr (.inr (.inl 176)), .inl x3] [] 229 jr0 g21
          refine jGo_blk qL_law_1410 ?_
          have e25 : jw32 (x3 + 6) = x3 + 6 := j32e (by omega) (by omega)
          show jGo E l 179 0 229 _ 18 [.inr (.inr (.inl (-2))), .inr (.inr (.inl 0)), .inr (.inr (.inl 176)), .inl (jw32 (x3 + 6))] [] 229 jr0 g21
          exact ih (jw32 (x3 + 6)) g21 (by omega) li22 sm23 (by omega)
        · replace c6 : jand v4 63 = 1 := c6
          show jGo E l 179 0 229 _ 225 [.inr (.inr (.inl (-2))), .inr (.inr (.inl 0)), .inr (.inr (.inl 176)), .inl x3] [] 229 jr0 g
          refine jGo_blk qL_law_225 ?_
          have e26 : jw32 (x3 + 1) = x3 + 1 := j32e (by omega) (by omega)
          refine st_xi (N := E.2.2.2.2.1) (by decide) (by decide) rfl (show 0 ≤ jw32 (x3 + 1) by omega) (show jw32 (x3 + 1) < ((E.2.2.2.2.1 : Nat) : Int) by omega) (fun v27 ev27 => ?_)
          replace ev27 : v27 = jxv E (-2) (jw32 (x3 + 1)) := ev27
          have e28 : jw32 (x3 + 2) = x3 + 2 := j32e (by omega) (by omega)
          refine st_xi (N := E.2.2.2.2.1) (by decide) (by decide) rfl (show 0 ≤ jw32 (x3 + 2) by omega) (show jw32 (x3 + 2) < ((E.2.2.2.2.1 : Nat) : Int) by omega) (fun v29 ev29 => ?_)
          replace ev29 : v29 = jxv E (-2) (jw32 (x3 + 2)) := ev29
          refine st_cv (na := 2) (st := [.inl v29, .inl v27, .inr (.inr (.inl 0))]) jo_0 rfl rfl rfl (c_X11_bring v27 v29 g) rfl ?_
          rintro _ _ g31 ⟨rfl, ft30, t30, rfl, ht30, zt30⟩ kt30
          replace kt30 : -2147483648 ≤ t30 ∧ t30 ≤ 2147483647 := kt30
          have li32 : jLI g31 := jLI_fr (ft30 176 0 (by unfold w_X11_bring; omega)) (ft30 0 0 (by unfold w_X11_bring; omega)) (fun t => ft30 87 t (by unfold w_X11_bring; omega)) li
          have dli32 : g31 176 0 ≤ 2000 := li32.1
          have e34 : jw32 (x3 + 1) = x3 + 1 := j32e (by omega) (by omega)
          refine st_xi (N := E.2.2.2.2.1) (by decide) (by decide) rfl (show 0 ≤ jw32 (x3 + 1) by omega) (show jw32 (x3 + 1) < ((E.2.2.2.2.1 : Nat) : Int) by omega) (fun v35 ev35 => ?_)
          replace ev35 : v35 = jxv E (-2) (jw32 (x3 + 1)) := ev35
          have e36 : jw32 (x3 + 2) = x3 + 2 := j32e (by omega) (by omega)
          refine st_xi (N := E.2.2.2.2.1) (by decide) (by decide) rfl (show 0 ≤ jw32 (x3 + 2) by omega) (show jw32 (x3 + 2) < ((E.2.2.2.2.1 : Nat) : Int) by omega) (fun v37 ev37 => ?_)
          replace ev37 : v37 = jxv E (-2) (jw32 (x3 + 2)) := ev37
          refine st_cv (na := 2) (st := [.inl v37, .inl v35, .inr (.inr (.inl 176))]) jo_176 rfl rfl rfl (c_X12_bring v35 v37 g31) rfl ?_
          rintro _ _ g39 ⟨rfl, ft38, t38, rfl, ht38, zt38⟩ kt38
          replace kt38 : -2147483648 ≤ t38 ∧ t38 ≤ 2147483647 := kt38
          have li40 : jLI g39 := jLI_fr (ft38 176 0 (by unfold w_X12_bring; omega)) (ft38 0 0 (by unfold w_X12_bring; omega)) (fun t => ft38 87 t (by unfold w_X12_bring; omega)) li32
          have dli40 : g39 176 0 ≤ 2000 := li40.1
          have sm41 : jI g39 := pf_bring ft30 ft38 sm
          show jGo E l 179 0 229 _ 1410 [.inr (.inr (.inl (-2))), .inr (.inr (.inl 0)), .inr (.inr (.inl 176)), .inl x3] [] 229 jr0 g39
          refine jGo_blk qL_law_1410 ?_
          have e42 : jw32 (x3 + 6) = x3 + 6 := j32e (by omega) (by omega)
          show jGo E l 179 0 229 _ 18 [.inr (.inr (.inl (-2))), .inr (.inr (.inl 0)), .inr (.inr (.inl 176)), .inl (jw32 (x3 + 6))] [] 229 jr0 g39
          exact ih (jw32 (x3 + 6)) g39 (by omega) li40 sm41 (by omega)
        · replace c6 : jand v4 63 = 2 := c6
          show jGo E l 179 0 229 _ 258 [.inr (.inr (.inl (-2))), .inr (.inr (.inl 0)), .inr (.inr (.inl 176)), .inl x3] [] 229 jr0 g
          refine jGo_blk qL_law_258 ?_
          have e43 : jw32 (x3 + 1) = x3 + 1 := j32e (by omega) (by omega)
          refine st_xi (N := E.2.2.2.2.1) (by decide) (by decide) rfl (show 0 ≤ jw32 (x3 + 1) by omega) (show jw32 (x3 + 1) < ((E.2.2.2.2.1 : Nat) : Int) by omega) (fun v44 ev44 => ?_)
          replace ev44 : v44 = jxv E (-2) (jw32 (x3 + 1)) := ev44
          have e45 : jw32 (x3 + 2) = x3 + 2 := j32e (by omega) (by omega)
          refine st_xi (N := E.2.2.2.2.1) (by decide) (by decide) rfl (show 0 ≤ jw32 (x3 + 2) by omega) (show jw32 (x3 + 2) < ((E.2.2.2.2.1 : Nat) : Int) by omega) (fun v46 ev46 => ?_)
          replace ev46 : v46 = jxv E (-2) (jw32 (x3 + 2)) := ev46
          refine st_cv (na := 2) (st := [.inl v46, .inl v44, .inr (.inr (.inl 0))]) jo_0 rfl rfl rfl (c_X11_row v44 v46 g) rfl ?_
          rintro _ _ g48 ⟨rfl, ft47, t47, rfl, ht47, zt47⟩ kt47
          replace kt47 : -2147483648 ≤ t47 ∧ t47 ≤ 2147483647 := kt47
          replace ht47 : -7 ≤ t47 ∧ t47 ≤ 30 := ht47
          replace zt47 : P_X11_row v44 v46 t47 g g48 := zt47
          have li49 : jLI g48 := jLI_fr (ft47 176 0 (by unfold w_X11_row; omega)) (ft47 0 0 (by unfold w_X11_row; omega)) (fun t => ft47 87 t (by unfold w_X11_row; omega)) li
          have dli49 : g48 176 0 ≤ 2000 := li49.1
          have e51 : jw32 (x3 + 1) = x3 + 1 := j32e (by omega) (by omega)
          refine st_xi (N := E.2.2.2.2.1) (by decide) (by decide) rfl (show 0 ≤ jw32 (x3 + 1) by omega) (show jw32 (x3 + 1) < ((E.2.2.2.2.1 : Nat) : Int) by omega) (fun v52 ev52 => ?_)
          replace ev52 : v52 = jxv E (-2) (jw32 (x3 + 1)) := ev52
          have e53 : jw32 (x3 + 2) = x3 + 2 := j32e (by omega) (by omega)
          refine st_xi (N := E.2.2.2.2.1) (by decide) (by decide) rfl (show 0 ≤ jw32 (x3 + 2) by omega) (show jw32 (x3 + 2) < ((E.2.2.2.2.1 : Nat) : Int) by omega) (fun v54 ev54 => ?_)
          replace ev54 : v54 = jxv E (-2) (jw32 (x3 + 2)) := ev54
          refine st_cv (na := 2) (st := [.inl v54, .inl v52, .inr (.inr (.inl 176))]) jo_176 rfl rfl rfl (c_X12_row v52 v54 g48) rfl ?_
          rintro _ _ g56 ⟨rfl, ft55, t55, rfl, ht55, zt55⟩ kt55
          replace kt55 : -2147483648 ≤ t55 ∧ t55 ≤ 2147483647 := kt55
          replace ht55 : -7 ≤ t55 ∧ t55 ≤ 30 := ht55
          replace zt55 : P_X12_row v52 v54 t55 g48 g56 := zt55
          have li57 : jLI g56 := jLI_fr (ft55 176 0 (by unfold w_X12_row; omega)) (ft55 0 0 (by unfold w_X12_row; omega)) (fun t => ft55 87 t (by unfold w_X12_row; omega)) li49
          have dli57 : g56 176 0 ≤ 2000 := li57.1
          rw [show v52 = v44 by omega, show v54 = v46 by omega] at zt55
          have qe59 := pr_row ft47 ft55 zt47 zt55 sm
          have eqe59 := qe59.1
          have sm58 : jI g56 := qe59.2
          clear qe59 zt55
          show jGo E l 179 0 229 _ 1410 [.inr (.inr (.inl (-2))), .inr (.inr (.inl 0)), .inr (.inr (.inl 176)), .inl x3] [] 229 jr0 g56
          refine jGo_blk qL_law_1410 ?_
          have e60 : jw32 (x3 + 6) = x3 + 6 := j32e (by omega) (by omega)
          show jGo E l 179 0 229 _ 18 [.inr (.inr (.inl (-2))), .inr (.inr (.inl 0)), .inr (.inr (.inl 176)), .inl (jw32 (x3 + 6))] [] 229 jr0 g56
          exact ih (jw32 (x3 + 6)) g56 (by omega) li57 sm58 (by omega)
        · replace c6 : jand v4 63 = 3 := c6
          show jGo E l 179 0 229 _ 291 [.inr (.inr (.inl (-2))), .inr (.inr (.inl 0)), .inr (.inr (.inl 176)), .inl x3] [] 229 jr0 g
          refine jGo_blk qL_law_291 ?_
          have e61 : jw32 (x3 + 1) = x3 + 1 := j32e (by omega) (by omega)
          refine st_xi (N := E.2.2.2.2.1) (by decide) (by decide) rfl (show 0 ≤ jw32 (x3 + 1) by omega) (show jw32 (x3 + 1) < ((E.2.2.2.2.1 : Nat) : Int) by omega) (fun v62 ev62 => ?_)
          replace ev62 : v62 = jxv E (-2) (jw32 (x3 + 1)) := ev62
          refine st_cv (na := 1) (st := [.inl v62, .inr (.inr (.inl 0))]) jo_0 rfl rfl rfl (c_X11_lose v62 g) rfl ?_
          rintro _ _ g64 ⟨rfl, ft63, t63, rfl, ht63, zt63⟩ kt63
          replace kt63 : -2147483648 ≤ t63 ∧ t63 ≤ 2147483647 := kt63
          replace ht63 : -7 ≤ t63 ∧ t63 ≤ 1 := ht63
          replace zt63 : P_X11_lose v62 t63 g g64 := zt63
          have li65 : jLI g64 := jLI_fr (ft63 176 0 (by unfold w_X11_lose; omega)) (ft63 0 0 (by unfold w_X11_lose; omega)) (fun t => ft63 87 t (by unfold w_X11_lose; omega)) li
          have dli65 : g64 176 0 ≤ 2000 := li65.1
          have e67 : jw32 (x3 + 1) = x3 + 1 := j32e (by omega) (by omega)
          refine st_xi (N := E.2.2.2.2.1) (by decide) (by decide) rfl (show 0 ≤ jw32 (x3 + 1) by omega) (show jw32 (x3 + 1) < ((E.2.2.2.2.1 : Nat) : Int) by omega) (fun v68 ev68 => ?_)
          replace ev68 : v68 = jxv E (-2) (jw32 (x3 + 1)) := ev68
          refine st_cv (na := 1) (st := [.inl v68, .inr (.inr (.inl 176))]) jo_176 rfl rfl rfl (c_X12_lose v68 g64) rfl ?_
          rintro _ _ g70 ⟨rfl, ft69, t69, rfl, ht69, zt69⟩ kt69
          replace kt69 : -2147483648 ≤ t69 ∧ t69 ≤ 2147483647 := kt69
          replace ht69 : -7 ≤ t69 ∧ t69 ≤ 1 := ht69
          replace zt69 : P_X12_lose v68 t69 g64 g70 := zt69
          have li71 : jLI g70 := jLI_fr (ft69 176 0 (by unfold w_X12_lose; omega)) (ft69 0 0 (by unfold w_X12_lose; omega)) (fun t => ft69 87 t (by unfold w_X12_lose; omega)) li65
          have dli71 : g70 176 0 ≤ 2000 := li71.1
          rw [show v68 = v62 by omega] at zt69
          have qe73 := pr_lose ft63 ft69 zt63 zt69 sm
          have eqe73 := qe73.1
          have sm72 : jI g70 := qe73.2
          clear qe73 zt69
          show jGo E l 179 0 229 _ 1410 [.inr (.inr (.inl (-2))), .inr (.inr (.inl 0)), .inr (.inr (.inl 176)), .inl x3] [] 229 jr0 g70
          refine jGo_blk qL_law_1410 ?_
          have e74 : jw32 (x3 + 6) = x3 + 6 := j32e (by omega) (by omega)
          show jGo E l 179 0 229 _ 18 [.inr (.inr (.inl (-2))), .inr (.inr (.inl 0)), .inr (.inr (.inl 176)), .inl (jw32 (x3 + 6))] [] 229 jr0 g70
          exact ih (jw32 (x3 + 6)) g70 (by omega) li71 sm72 (by omega)
        · replace c6 : jand v4 63 = 4 := c6
          show jGo E l 179 0 229 _ 314 [.inr (.inr (.inl (-2))), .inr (.inr (.inl 0)), .inr (.inr (.inl 176)), .inl x3] [] 229 jr0 g
          refine jGo_blk qL_law_314 ?_
          have e75 : jw32 (x3 + 1) = x3 + 1 := j32e (by omega) (by omega)
          refine st_xi (N := E.2.2.2.2.1) (by decide) (by decide) rfl (show 0 ≤ jw32 (x3 + 1) by omega) (show jw32 (x3 + 1) < ((E.2.2.2.2.1 : Nat) : Int) by omega) (fun v76 ev76 => ?_)
          replace ev76 : v76 = jxv E (-2) (jw32 (x3 + 1)) := ev76
          have e77 : jw32 (x3 + 2) = x3 + 2 := j32e (by omega) (by omega)
          refine st_xi (N := E.2.2.2.2.1) (by decide) (by decide) rfl (show 0 ≤ jw32 (x3 + 2) by omega) (show jw32 (x3 + 2) < ((E.2.2.2.2.1 : Nat) : Int) by omega) (fun v78 ev78 => ?_)
          replace ev78 : v78 = jxv E (-2) (jw32 (x3 + 2)) := ev78
          have e79 : jw32 (x3 + 3) = x3 + 3 := j32e (by omega) (by omega)
          refine st_xi (N := E.2.2.2.2.1) (by decide) (by decide) rfl (show 0 ≤ jw32 (x3 + 3) by omega) (show jw32 (x3 + 3) < ((E.2.2.2.2.1 : Nat) : Int) by omega) (fun v80 ev80 => ?_)
          replace ev80 : v80 = jxv E (-2) (jw32 (x3 + 3)) := ev80
          refine st_cv (na := 3) (st := [.inl v80, .inl v78, .inl v76, .inr (.inr (.inl 0))]) jo_0 rfl rfl rfl (c_X11_put v76 v78 v80 g) rfl ?_
          rintro _ _ g82 ⟨rfl, ft81, t81, rfl, ht81, zt81⟩ kt81
          replace kt81 : -2147483648 ≤ t81 ∧ t81 ≤ 2147483647 := kt81
          replace ht81 : -7 ≤ t81 ∧ t81 ≤ 400 := ht81
          have li83 : jLI g82 := jLI_fr (ft81 176 0 (by unfold w_X11_put; omega)) (ft81 0 0 (by unfold w_X11_put; omega)) (fun t => ft81 87 t (by unfold w_X11_put; omega)) li
          have dli83 : g82 176 0 ≤ 2000 := li83.1
          have e85 : jw32 (x3 + 1) = x3 + 1 := j32e (by omega) (by omega)
          refine st_xi (N := E.2.2.2.2.1) (by decide) (by decide) rfl (show 0 ≤ jw32 (x3 + 1) by omega) (show jw32 (x3 + 1) < ((E.2.2.2.2.1 : Nat) : Int) by omega) (fun v86 ev86 => ?_)
          replace ev86 : v86 = jxv E (-2) (jw32 (x3 + 1)) := ev86
          have e87 : jw32 (x3 + 2) = x3 + 2 := j32e (by omega) (by omega)
          refine st_xi (N := E.2.2.2.2.1) (by decide) (by decide) rfl (show 0 ≤ jw32 (x3 + 2) by omega) (show jw32 (x3 + 2) < ((E.2.2.2.2.1 : Nat) : Int) by omega) (fun v88 ev88 => ?_)
          replace ev88 : v88 = jxv E (-2) (jw32 (x3 + 2)) := ev88
          have e89 : jw32 (x3 + 3) = x3 + 3 := j32e (by omega) (by omega)
          refine st_xi (N := E.2.2.2.2.1) (by decide) (by decide) rfl (show 0 ≤ jw32 (x3 + 3) by omega) (show jw32 (x3 + 3) < ((E.2.2.2.2.1 : Nat) : Int) by omega) (fun v90 ev90 => ?_)
          replace ev90 : v90 = jxv E (-2) (jw32 (x3 + 3)) := ev90
          refine st_cv (na := 3) (st := [.inl v90, .inl v88, .inl v86, .inr (.inr (.inl 176))]) jo_176 rfl rfl rfl (c_X12_put v86 v88 v90 g82) rfl ?_
          rintro _ _ g92 ⟨rfl, ft91, t91, rfl, ht91, zt91⟩ kt91
          replace kt91 : -2147483648 ≤ t91 ∧ t91 ≤ 2147483647 := kt91
          replace ht91 : -7 ≤ t91 ∧ t91 ≤ 400 := ht91
          have li93 : jLI g92 := jLI_fr (ft91 176 0 (by unfold w_X12_put; omega)) (ft91 0 0 (by unfold w_X12_put; omega)) (fun t => ft91 87 t (by unfold w_X12_put; omega)) li83
          have dli93 : g92 176 0 ≤ 2000 := li93.1
          have sm94 : jI g92 := pf_put ft81 ft91 sm
          show jGo E l 179 0 229 _ 1410 [.inr (.inr (.inl (-2))), .inr (.inr (.inl 0)), .inr (.inr (.inl 176)), .inl x3] [] 229 jr0 g92
          refine jGo_blk qL_law_1410 ?_
          have e95 : jw32 (x3 + 6) = x3 + 6 := j32e (by omega) (by omega)
          show jGo E l 179 0 229 _ 18 [.inr (.inr (.inl (-2))), .inr (.inr (.inl 0)), .inr (.inr (.inl 176)), .inl (jw32 (x3 + 6))] [] 229 jr0 g92
          exact ih (jw32 (x3 + 6)) g92 (by omega) li93 sm94 (by omega)
        · replace c6 : jand v4 63 = 5 := c6
          show jGo E l 179 0 229 _ 357 [.inr (.inr (.inl (-2))), .inr (.inr (.inl 0)), .inr (.inr (.inl 176)), .inl x3] [] 229 jr0 g
          refine jGo_blk qL_law_357 ?_
          have e96 : jw32 (x3 + 1) = x3 + 1 := j32e (by omega) (by omega)
          refine st_xi (N := E.2.2.2.2.1) (by decide) (by decide) rfl (show 0 ≤ jw32 (x3 + 1) by omega) (show jw32 (x3 + 1) < ((E.2.2.2.2.1 : Nat) : Int) by omega) (fun v97 ev97 => ?_)
          replace ev97 : v97 = jxv E (-2) (jw32 (x3 + 1)) := ev97
          have e98 : jw32 (x3 + 2) = x3 + 2 := j32e (by omega) (by omega)
          refine st_xi (N := E.2.2.2.2.1) (by decide) (by decide) rfl (show 0 ≤ jw32 (x3 + 2) by omega) (show jw32 (x3 + 2) < ((E.2.2.2.2.1 : Nat) : Int) by omega) (fun v99 ev99 => ?_)
          replace ev99 : v99 = jxv E (-2) (jw32 (x3 + 2)) := ev99
          have e100 : jw32 (x3 + 3) = x3 + 3 := j32e (by omega) (by omega)
          refine st_xi (N := E.2.2.2.2.1) (by decide) (by decide) rfl (show 0 ≤ jw32 (x3 + 3) by omega) (show jw32 (x3 + 3) < ((E.2.2.2.2.1 : Nat) : Int) by omega) (fun v101 ev101 => ?_)
          replace ev101 : v101 = jxv E (-2) (jw32 (x3 + 3)) := ev101
          have e102 : jw32 (x3 + 4) = x3 + 4 := j32e (by omega) (by omega)
          refine st_xi (N := E.2.2.2.2.1) (by decide) (by decide) rfl (show 0 ≤ jw32 (x3 + 4) by omega) (show jw32 (x3 + 4) < ((E.2.2.2.2.1 : Nat) : Int) by omega) (fun v103 ev103 => ?_)
          replace ev103 : v103 = jxv E (-2) (jw32 (x3 + 4)) := ev103
          have e104 : jw32 (x3 + 5) = x3 + 5 := j32e (by omega) (by omega)
          refine st_xi (N := E.2.2.2.2.1) (by decide) (by decide) rfl (show 0 ≤ jw32 (x3 + 5) by omega) (show jw32 (x3 + 5) < ((E.2.2.2.2.1 : Nat) : Int) by omega) (fun v105 ev105 => ?_)
          replace ev105 : v105 = jxv E (-2) (jw32 (x3 + 5)) := ev105
          refine st_cv (na := 5) (st := [.inl v105, .inl v103, .inl v101, .inl v99, .inl v97, .inr (.inr (.inl 0))]) jo_0 rfl rfl rfl (c_X11_copy v97 v99 v101 v103 v105 g) rfl ?_
          rintro _ _ g107 ⟨rfl, ft106, t106, rfl, ht106, zt106⟩ kt106
          replace kt106 : -2147483648 ≤ t106 ∧ t106 ≤ 2147483647 := kt106
          have li108 : jLI g107 := jLI_fr (ft106 176 0 (by unfold w_X11_copy; omega)) (ft106 0 0 (by unfold w_X11_copy; omega)) (fun t => ft106 87 t (by unfold w_X11_copy; omega)) li
          have dli108 : g107 176 0 ≤ 2000 := li108.1
          have e110 : jw32 (x3 + 1) = x3 + 1 := j32e (by omega) (by omega)
          refine st_xi (N := E.2.2.2.2.1) (by decide) (by decide) rfl (show 0 ≤ jw32 (x3 + 1) by omega) (show jw32 (x3 + 1) < ((E.2.2.2.2.1 : Nat) : Int) by omega) (fun v111 ev111 => ?_)
          replace ev111 : v111 = jxv E (-2) (jw32 (x3 + 1)) := ev111
          have e112 : jw32 (x3 + 2) = x3 + 2 := j32e (by omega) (by omega)
          refine st_xi (N := E.2.2.2.2.1) (by decide) (by decide) rfl (show 0 ≤ jw32 (x3 + 2) by omega) (show jw32 (x3 + 2) < ((E.2.2.2.2.1 : Nat) : Int) by omega) (fun v113 ev113 => ?_)
          replace ev113 : v113 = jxv E (-2) (jw32 (x3 + 2)) := ev113
          have e114 : jw32 (x3 + 3) = x3 + 3 := j32e (by omega) (by omega)
          refine st_xi (N := E.2.2.2.2.1) (by decide) (by decide) rfl (show 0 ≤ jw32 (x3 + 3) by omega) (show jw32 (x3 + 3) < ((E.2.2.2.2.1 : Nat) : Int) by omega) (fun v115 ev115 => ?_)
          replace ev115 : v115 = jxv E (-2) (jw32 (x3 + 3)) := ev115
          have e116 : jw32 (x3 + 4) = x3 + 4 := j32e (by omega) (by omega)
          refine st_xi (N := E.2.2.2.2.1) (by decide) (by decide) rfl (show 0 ≤ jw32 (x3 + 4) by omega) (show jw32 (x3 + 4) < ((E.2.2.2.2.1 : Nat) : Int) by omega) (fun v117 ev117 => ?_)
          replace ev117 : v117 = jxv E (-2) (jw32 (x3 + 4)) := ev117
          have e118 : jw32 (x3 + 5) = x3 + 5 := j32e (by omega) (by omega)
          refine st_xi (N := E.2.2.2.2.1) (by decide) (by decide) rfl (show 0 ≤ jw32 (x3 + 5) by omega) (show jw32 (x3 + 5) < ((E.2.2.2.2.1 : Nat) : Int) by omega) (fun v119 ev119 => ?_)
          replace ev119 : v119 = jxv E (-2) (jw32 (x3 + 5)) := ev119
          refine st_cv (na := 5) (st := [.inl v119, .inl v117, .inl v115, .inl v113, .inl v111, .inr (.inr (.inl 176))]) jo_176 rfl rfl rfl (c_X12_copy v111 v113 v115 v117 v119 g107) rfl ?_
          rintro _ _ g121 ⟨rfl, ft120, t120, rfl, ht120, zt120⟩ kt120
          replace kt120 : -2147483648 ≤ t120 ∧ t120 ≤ 2147483647 := kt120
          replace ht120 : -7 ≤ t120 ∧ t120 ≤ 30 := ht120
          have li122 : jLI g121 := jLI_fr (ft120 176 0 (by unfold w_X12_copy; omega)) (ft120 0 0 (by unfold w_X12_copy; omega)) (fun t => ft120 87 t (by unfold w_X12_copy; omega)) li108
          have dli122 : g121 176 0 ≤ 2000 := li122.1
          have sm123 : jI g121 := pf_copy ft106 ft120 sm
          show jGo E l 179 0 229 _ 1410 [.inr (.inr (.inl (-2))), .inr (.inr (.inl 0)), .inr (.inr (.inl 176)), .inl x3] [] 229 jr0 g121
          refine jGo_blk qL_law_1410 ?_
          have e124 : jw32 (x3 + 6) = x3 + 6 := j32e (by omega) (by omega)
          show jGo E l 179 0 229 _ 18 [.inr (.inr (.inl (-2))), .inr (.inr (.inl 0)), .inr (.inr (.inl 176)), .inl (jw32 (x3 + 6))] [] 229 jr0 g121
          exact ih (jw32 (x3 + 6)) g121 (by omega) li122 sm123 (by omega)
        · replace c6 : jand v4 63 = 6 := c6
          show jGo E l 179 0 229 _ 420 [.inr (.inr (.inl (-2))), .inr (.inr (.inl 0)), .inr (.inr (.inl 176)), .inl x3] [] 229 jr0 g
          refine jGo_blk qL_law_420 ?_
          have e125 : jw32 (x3 + 1) = x3 + 1 := j32e (by omega) (by omega)
          refine st_xi (N := E.2.2.2.2.1) (by decide) (by decide) rfl (show 0 ≤ jw32 (x3 + 1) by omega) (show jw32 (x3 + 1) < ((E.2.2.2.2.1 : Nat) : Int) by omega) (fun v126 ev126 => ?_)
          replace ev126 : v126 = jxv E (-2) (jw32 (x3 + 1)) := ev126
          have e127 : jw32 (x3 + 2) = x3 + 2 := j32e (by omega) (by omega)
          refine st_xi (N := E.2.2.2.2.1) (by decide) (by decide) rfl (show 0 ≤ jw32 (x3 + 2) by omega) (show jw32 (x3 + 2) < ((E.2.2.2.2.1 : Nat) : Int) by omega) (fun v128 ev128 => ?_)
          replace ev128 : v128 = jxv E (-2) (jw32 (x3 + 2)) := ev128
          refine st_cv (na := 2) (st := [.inl v128, .inl v126, .inr (.inr (.inl 0))]) jo_0 rfl rfl rfl (c_X11_lead v126 v128 g) rfl ?_
          rintro _ _ g130 ⟨rfl, ft129, t129, rfl, ht129, zt129⟩ kt129
          replace kt129 : -2147483648 ≤ t129 ∧ t129 ≤ 2147483647 := kt129
          replace ht129 : -1 ≤ t129 ∧ t129 ≤ 2000000007 := ht129
          replace zt129 : P_X11_lead v126 v128 t129 g g130 := zt129
          have li131 : jLI g130 := jLI_fr (ft129 176 0 (by unfold w_X11_lead; omega)) (ft129 0 0 (by unfold w_X11_lead; omega)) (fun t => ft129 87 t (by unfold w_X11_lead; omega)) li
          have dli131 : g130 176 0 ≤ 2000 := li131.1
          have e133 : jw32 (x3 + 1) = x3 + 1 := j32e (by omega) (by omega)
          refine st_xi (N := E.2.2.2.2.1) (by decide) (by decide) rfl (show 0 ≤ jw32 (x3 + 1) by omega) (show jw32 (x3 + 1) < ((E.2.2.2.2.1 : Nat) : Int) by omega) (fun v134 ev134 => ?_)
          replace ev134 : v134 = jxv E (-2) (jw32 (x3 + 1)) := ev134
          have e135 : jw32 (x3 + 2) = x3 + 2 := j32e (by omega) (by omega)
          refine st_xi (N := E.2.2.2.2.1) (by decide) (by decide) rfl (show 0 ≤ jw32 (x3 + 2) by omega) (show jw32 (x3 + 2) < ((E.2.2.2.2.1 : Nat) : Int) by omega) (fun v136 ev136 => ?_)
          replace ev136 : v136 = jxv E (-2) (jw32 (x3 + 2)) := ev136
          refine st_cv (na := 2) (st := [.inl v136, .inl v134, .inr (.inr (.inl 176))]) jo_176 rfl rfl rfl (c_X12_lead v134 v136 g130) rfl ?_
          rintro _ _ g138 ⟨rfl, ft137, t137, rfl, ht137, zt137⟩ kt137
          replace kt137 : -2147483648 ≤ t137 ∧ t137 ≤ 2147483647 := kt137
          replace ht137 : -1 ≤ t137 ∧ t137 ≤ 2000000007 := ht137
          replace zt137 : P_X12_lead v134 v136 t137 g130 g138 := zt137
          have li139 : jLI g138 := jLI_fr (ft137 176 0 (by unfold w_X12_lead; omega)) (ft137 0 0 (by unfold w_X12_lead; omega)) (fun t => ft137 87 t (by unfold w_X12_lead; omega)) li131
          have dli139 : g138 176 0 ≤ 2000 := li139.1
          rw [show v134 = v126 by omega, show v136 = v128 by omega] at zt137
          have qe141 := pr_lead ft129 ft137 zt129 zt137 sm
          have eqe141 := qe141.1
          have sm140 : jI g138 := qe141.2
          clear qe141 zt137
          show jGo E l 179 0 229 _ 1410 [.inr (.inr (.inl (-2))), .inr (.inr (.inl 0)), .inr (.inr (.inl 176)), .inl x3] [] 229 jr0 g138
          refine jGo_blk qL_law_1410 ?_
          have e142 : jw32 (x3 + 6) = x3 + 6 := j32e (by omega) (by omega)
          show jGo E l 179 0 229 _ 18 [.inr (.inr (.inl (-2))), .inr (.inr (.inl 0)), .inr (.inr (.inl 176)), .inl (jw32 (x3 + 6))] [] 229 jr0 g138
          exact ih (jw32 (x3 + 6)) g138 (by omega) li139 sm140 (by omega)
        · replace c6 : jand v4 63 = 7 := c6
          show jGo E l 179 0 229 _ 453 [.inr (.inr (.inl (-2))), .inr (.inr (.inl 0)), .inr (.inr (.inl 176)), .inl x3] [] 229 jr0 g
          refine jGo_blk qL_law_453 ?_
          have e143 : jw32 (x3 + 1) = x3 + 1 := j32e (by omega) (by omega)
          refine st_xi (N := E.2.2.2.2.1) (by decide) (by decide) rfl (show 0 ≤ jw32 (x3 + 1) by omega) (show jw32 (x3 + 1) < ((E.2.2.2.2.1 : Nat) : Int) by omega) (fun v144 ev144 => ?_)
          replace ev144 : v144 = jxv E (-2) (jw32 (x3 + 1)) := ev144
          have e145 : jw32 (x3 + 2) = x3 + 2 := j32e (by omega) (by omega)
          refine st_xi (N := E.2.2.2.2.1) (by decide) (by decide) rfl (show 0 ≤ jw32 (x3 + 2) by omega) (show jw32 (x3 + 2) < ((E.2.2.2.2.1 : Nat) : Int) by omega) (fun v146 ev146 => ?_)
          replace ev146 : v146 = jxv E (-2) (jw32 (x3 + 2)) := ev146
          refine st_cv (na := 2) (st := [.inl v146, .inl v144, .inr (.inr (.inl 0))]) jo_0 rfl rfl rfl (c_X11_handsOn v144 v146 g) rfl ?_
          rintro _ _ g148 ⟨rfl, ft147, t147, rfl, ht147, zt147⟩ kt147
          replace kt147 : -2147483648 ≤ t147 ∧ t147 ≤ 2147483647 := kt147
          replace ht147 : -7 ≤ t147 ∧ t147 ≤ 400 := ht147
          have li149 : jLI g148 := jLI_fr (ft147 176 0 (by unfold w_X11_handsOn; omega)) (ft147 0 0 (by unfold w_X11_handsOn; omega)) (fun t => ft147 87 t (by unfold w_X11_handsOn; omega)) li
          have dli149 : g148 176 0 ≤ 2000 := li149.1
          have e151 : jw32 (x3 + 1) = x3 + 1 := j32e (by omega) (by omega)
          refine st_xi (N := E.2.2.2.2.1) (by decide) (by decide) rfl (show 0 ≤ jw32 (x3 + 1) by omega) (show jw32 (x3 + 1) < ((E.2.2.2.2.1 : Nat) : Int) by omega) (fun v152 ev152 => ?_)
          replace ev152 : v152 = jxv E (-2) (jw32 (x3 + 1)) := ev152
          have e153 : jw32 (x3 + 2) = x3 + 2 := j32e (by omega) (by omega)
          refine st_xi (N := E.2.2.2.2.1) (by decide) (by decide) rfl (show 0 ≤ jw32 (x3 + 2) by omega) (show jw32 (x3 + 2) < ((E.2.2.2.2.1 : Nat) : Int) by omega) (fun v154 ev154 => ?_)
          replace ev154 : v154 = jxv E (-2) (jw32 (x3 + 2)) := ev154
          refine st_cv (na := 2) (st := [.inl v154, .inl v152, .inr (.inr (.inl 176))]) jo_176 rfl rfl rfl (c_X12_handsOn v152 v154 g148) rfl ?_
          rintro _ _ g156 ⟨rfl, ft155, t155, rfl, ht155, zt155⟩ kt155
          replace kt155 : -2147483648 ≤ t155 ∧ t155 ≤ 2147483647 := kt155
          replace ht155 : -7 ≤ t155 ∧ t155 ≤ 400 := ht155
          have li157 : jLI g156 := jLI_fr (ft155 176 0 (by unfold w_X12_handsOn; omega)) (ft155 0 0 (by unfold w_X12_handsOn; omega)) (fun t => ft155 87 t (by unfold w_X12_handsOn; omega)) li149
          have dli157 : g156 176 0 ≤ 2000 := li157.1
          have sm158 : jI g156 := pf_handsOn ft147 ft155 sm
          show jGo E l 179 0 229 _ 1410 [.inr (.inr (.inl (-2))), .inr (.inr (.inl 0)), .inr (.inr (.inl 176)), .inl x3] [] 229 jr0 g156
          refine jGo_blk qL_law_1410 ?_
          have e159 : jw32 (x3 + 6) = x3 + 6 := j32e (by omega) (by omega)
          show jGo E l 179 0 229 _ 18 [.inr (.inr (.inl (-2))), .inr (.inr (.inl 0)), .inr (.inr (.inl 176)), .inl (jw32 (x3 + 6))] [] 229 jr0 g156
          exact ih (jw32 (x3 + 6)) g156 (by omega) li157 sm158 (by omega)
        · replace c6 : jand v4 63 = 8 := c6
          show jGo E l 179 0 229 _ 486 [.inr (.inr (.inl (-2))), .inr (.inr (.inl 0)), .inr (.inr (.inl 176)), .inl x3] [] 229 jr0 g
          refine jGo_blk qL_law_486 ?_
          have e160 : jw32 (x3 + 1) = x3 + 1 := j32e (by omega) (by omega)
          refine st_xi (N := E.2.2.2.2.1) (by decide) (by decide) rfl (show 0 ≤ jw32 (x3 + 1) by omega) (show jw32 (x3 + 1) < ((E.2.2.2.2.1 : Nat) : Int) by omega) (fun v161 ev161 => ?_)
          replace ev161 : v161 = jxv E (-2) (jw32 (x3 + 1)) := ev161
          have e162 : jw32 (x3 + 2) = x3 + 2 := j32e (by omega) (by omega)
          refine st_xi (N := E.2.2.2.2.1) (by decide) (by decide) rfl (show 0 ≤ jw32 (x3 + 2) by omega) (show jw32 (x3 + 2) < ((E.2.2.2.2.1 : Nat) : Int) by omega) (fun v163 ev163 => ?_)
          replace ev163 : v163 = jxv E (-2) (jw32 (x3 + 2)) := ev163
          have e164 : jw32 (x3 + 3) = x3 + 3 := j32e (by omega) (by omega)
          refine st_xi (N := E.2.2.2.2.1) (by decide) (by decide) rfl (show 0 ≤ jw32 (x3 + 3) by omega) (show jw32 (x3 + 3) < ((E.2.2.2.2.1 : Nat) : Int) by omega) (fun v165 ev165 => ?_)
          replace ev165 : v165 = jxv E (-2) (jw32 (x3 + 3)) := ev165
          have e166 : jw32 (x3 + 4) = x3 + 4 := j32e (by omega) (by omega)
          refine st_xi (N := E.2.2.2.2.1) (by decide) (by decide) rfl (show 0 ≤ jw32 (x3 + 4) by omega) (show jw32 (x3 + 4) < ((E.2.2.2.2.1 : Nat) : Int) by omega) (fun v167 ev167 => ?_)
          replace ev167 : v167 = jxv E (-2) (jw32 (x3 + 4)) := ev167
          refine st_cv (na := 4) (st := [.inl v167, .inl v165, .inl v163, .inl v161, .inr (.inr (.inl 0))]) jo_0 rfl rfl rfl (c_X11_decree v161 v163 v165 v167 g) rfl ?_
          rintro _ _ g169 ⟨rfl, ft168, t168, rfl, ht168, zt168⟩ kt168
          replace kt168 : -2147483648 ≤ t168 ∧ t168 ≤ 2147483647 := kt168
          replace ht168 : -7 ≤ t168 ∧ t168 ≤ 39 := ht168
          replace zt168 : P_X11_decree v161 v163 v165 v167 t168 g g169 := zt168
          have li170 : jLI g169 := jLI_fr (ft168 176 0 (by unfold w_X11_decree; omega)) (ft168 0 0 (by unfold w_X11_decree; omega)) (fun t => ft168 87 t (by unfold w_X11_decree; omega)) li
          have dli170 : g169 176 0 ≤ 2000 := li170.1
          have e172 : jw32 (x3 + 1) = x3 + 1 := j32e (by omega) (by omega)
          refine st_xi (N := E.2.2.2.2.1) (by decide) (by decide) rfl (show 0 ≤ jw32 (x3 + 1) by omega) (show jw32 (x3 + 1) < ((E.2.2.2.2.1 : Nat) : Int) by omega) (fun v173 ev173 => ?_)
          replace ev173 : v173 = jxv E (-2) (jw32 (x3 + 1)) := ev173
          have e174 : jw32 (x3 + 2) = x3 + 2 := j32e (by omega) (by omega)
          refine st_xi (N := E.2.2.2.2.1) (by decide) (by decide) rfl (show 0 ≤ jw32 (x3 + 2) by omega) (show jw32 (x3 + 2) < ((E.2.2.2.2.1 : Nat) : Int) by omega) (fun v175 ev175 => ?_)
          replace ev175 : v175 = jxv E (-2) (jw32 (x3 + 2)) := ev175
          have e176 : jw32 (x3 + 3) = x3 + 3 := j32e (by omega) (by omega)
          refine st_xi (N := E.2.2.2.2.1) (by decide) (by decide) rfl (show 0 ≤ jw32 (x3 + 3) by omega) (show jw32 (x3 + 3) < ((E.2.2.2.2.1 : Nat) : Int) by omega) (fun v177 ev177 => ?_)
          replace ev177 : v177 = jxv E (-2) (jw32 (x3 + 3)) := ev177
          have e178 : jw32 (x3 + 4) = x3 + 4 := j32e (by omega) (by omega)
          refine st_xi (N := E.2.2.2.2.1) (by decide) (by decide) rfl (show 0 ≤ jw32 (x3 + 4) by omega) (show jw32 (x3 + 4) < ((E.2.2.2.2.1 : Nat) : Int) by omega) (fun v179 ev179 => ?_)
          replace ev179 : v179 = jxv E (-2) (jw32 (x3 + 4)) := ev179
          refine st_cv (na := 4) (st := [.inl v179, .inl v177, .inl v175, .inl v173, .inr (.inr (.inl 176))]) jo_176 rfl rfl rfl (c_X12_decree v173 v175 v177 v179 g169) rfl ?_
          rintro _ _ g181 ⟨rfl, ft180, t180, rfl, ht180, zt180⟩ kt180
          replace kt180 : -2147483648 ≤ t180 ∧ t180 ≤ 2147483647 := kt180
          replace ht180 : -7 ≤ t180 ∧ t180 ≤ 39 := ht180
          replace zt180 : P_X12_decree v173 v175 v177 v179 t180 g169 g181 := zt180
          have li182 : jLI g181 := jLI_fr (ft180 176 0 (by unfold w_X12_decree; omega)) (ft180 0 0 (by unfold w_X12_decree; omega)) (fun t => ft180 87 t (by unfold w_X12_decree; omega)) li170
          have dli182 : g181 176 0 ≤ 2000 := li182.1
          rw [show v173 = v161 by omega, show v175 = v163 by omega, show v177 = v165 by omega, show v179 = v167 by omega] at zt180
          have qe184 := pr_decree ft168 ft180 zt168 zt180 sm
          have eqe184 := qe184.1
          have sm183 : jI g181 := qe184.2
          clear qe184 zt180
          show jGo E l 179 0 229 _ 1410 [.inr (.inr (.inl (-2))), .inr (.inr (.inl 0)), .inr (.inr (.inl 176)), .inl x3] [] 229 jr0 g181
          refine jGo_blk qL_law_1410 ?_
          have e185 : jw32 (x3 + 6) = x3 + 6 := j32e (by omega) (by omega)
          show jGo E l 179 0 229 _ 18 [.inr (.inr (.inl (-2))), .inr (.inr (.inl 0)), .inr (.inr (.inl 176)), .inl (jw32 (x3 + 6))] [] 229 jr0 g181
          exact ih (jw32 (x3 + 6)) g181 (by omega) li182 sm183 (by omega)
        · replace c6 : jand v4 63 = 9 := c6
          show jGo E l 179 0 229 _ 539 [.inr (.inr (.inl (-2))), .inr (.inr (.inl 0)), .inr (.inr (.inl 176)), .inl x3] [] 229 jr0 g
          refine jGo_blk qL_law_539 ?_
          have e186 : jw32 (x3 + 1) = x3 + 1 := j32e (by omega) (by omega)
          refine st_xi (N := E.2.2.2.2.1) (by decide) (by decide) rfl (show 0 ≤ jw32 (x3 + 1) by omega) (show jw32 (x3 + 1) < ((E.2.2.2.2.1 : Nat) : Int) by omega) (fun v187 ev187 => ?_)
          replace ev187 : v187 = jxv E (-2) (jw32 (x3 + 1)) := ev187
          have e188 : jw32 (x3 + 2) = x3 + 2 := j32e (by omega) (by omega)
          refine st_xi (N := E.2.2.2.2.1) (by decide) (by decide) rfl (show 0 ≤ jw32 (x3 + 2) by omega) (show jw32 (x3 + 2) < ((E.2.2.2.2.1 : Nat) : Int) by omega) (fun v189 ev189 => ?_)
          replace ev189 : v189 = jxv E (-2) (jw32 (x3 + 2)) := ev189
          have e190 : jw32 (x3 + 3) = x3 + 3 := j32e (by omega) (by omega)
          refine st_xi (N := E.2.2.2.2.1) (by decide) (by decide) rfl (show 0 ≤ jw32 (x3 + 3) by omega) (show jw32 (x3 + 3) < ((E.2.2.2.2.1 : Nat) : Int) by omega) (fun v191 ev191 => ?_)
          replace ev191 : v191 = jxv E (-2) (jw32 (x3 + 3)) := ev191
          refine st_cv (na := 3) (st := [.inl v191, .inl v189, .inl v187, .inr (.inr (.inl 0))]) jo_0 rfl rfl rfl (c_X11_force v187 v189 v191 g) rfl ?_
          rintro _ _ g193 ⟨rfl, ft192, t192, rfl, ht192, zt192⟩ kt192
          replace kt192 : -2147483648 ≤ t192 ∧ t192 ≤ 2147483647 := kt192
          replace ht192 : -7 ≤ t192 ∧ t192 ≤ 200 := ht192
          have li194 : jLI g193 := jLI_fr (ft192 176 0 (by unfold w_X11_force; omega)) (ft192 0 0 (by unfold w_X11_force; omega)) (fun t => ft192 87 t (by unfold w_X11_force; omega)) li
          have dli194 : g193 176 0 ≤ 2000 := li194.1
          have e196 : jw32 (x3 + 1) = x3 + 1 := j32e (by omega) (by omega)
          refine st_xi (N := E.2.2.2.2.1) (by decide) (by decide) rfl (show 0 ≤ jw32 (x3 + 1) by omega) (show jw32 (x3 + 1) < ((E.2.2.2.2.1 : Nat) : Int) by omega) (fun v197 ev197 => ?_)
          replace ev197 : v197 = jxv E (-2) (jw32 (x3 + 1)) := ev197
          have e198 : jw32 (x3 + 2) = x3 + 2 := j32e (by omega) (by omega)
          refine st_xi (N := E.2.2.2.2.1) (by decide) (by decide) rfl (show 0 ≤ jw32 (x3 + 2) by omega) (show jw32 (x3 + 2) < ((E.2.2.2.2.1 : Nat) : Int) by omega) (fun v199 ev199 => ?_)
          replace ev199 : v199 = jxv E (-2) (jw32 (x3 + 2)) := ev199
          have e200 : jw32 (x3 + 3) = x3 + 3 := j32e (by omega) (by omega)
          refine st_xi (N := E.2.2.2.2.1) (by decide) (by decide) rfl (show 0 ≤ jw32 (x3 + 3) by omega) (show jw32 (x3 + 3) < ((E.2.2.2.2.1 : Nat) : Int) by omega) (fun v201 ev201 => ?_)
          replace ev201 : v201 = jxv E (-2) (jw32 (x3 + 3)) := ev201
          refine st_cv (na := 3) (st := [.inl v201, .inl v199, .inl v197, .inr (.inr (.inl 176))]) jo_176 rfl rfl rfl (c_X12_force v197 v199 v201 g193) rfl ?_
          rintro _ _ g203 ⟨rfl, ft202, t202, rfl, ht202, zt202⟩ kt202
          replace kt202 : -2147483648 ≤ t202 ∧ t202 ≤ 2147483647 := kt202
          replace ht202 : -7 ≤ t202 ∧ t202 ≤ 200 := ht202
          have li204 : jLI g203 := jLI_fr (ft202 176 0 (by unfold w_X12_force; omega)) (ft202 0 0 (by unfold w_X12_force; omega)) (fun t => ft202 87 t (by unfold w_X12_force; omega)) li194
          have dli204 : g203 176 0 ≤ 2000 := li204.1
          have sm205 : jI g203 := pf_force ft192 ft202 sm
          show jGo E l 179 0 229 _ 1410 [.inr (.inr (.inl (-2))), .inr (.inr (.inl 0)), .inr (.inr (.inl 176)), .inl x3] [] 229 jr0 g203
          refine jGo_blk qL_law_1410 ?_
          have e206 : jw32 (x3 + 6) = x3 + 6 := j32e (by omega) (by omega)
          show jGo E l 179 0 229 _ 18 [.inr (.inr (.inl (-2))), .inr (.inr (.inl 0)), .inr (.inr (.inl 176)), .inl (jw32 (x3 + 6))] [] 229 jr0 g203
          exact ih (jw32 (x3 + 6)) g203 (by omega) li204 sm205 (by omega)
        · replace c6 : jand v4 63 = 10 := c6
          show jGo E l 179 0 229 _ 582 [.inr (.inr (.inl (-2))), .inr (.inr (.inl 0)), .inr (.inr (.inl 176)), .inl x3] [] 229 jr0 g
          refine jGo_blk qL_law_582 ?_
          have e207 : jw32 (x3 + 1) = x3 + 1 := j32e (by omega) (by omega)
          refine st_xi (N := E.2.2.2.2.1) (by decide) (by decide) rfl (show 0 ≤ jw32 (x3 + 1) by omega) (show jw32 (x3 + 1) < ((E.2.2.2.2.1 : Nat) : Int) by omega) (fun v208 ev208 => ?_)
          replace ev208 : v208 = jxv E (-2) (jw32 (x3 + 1)) := ev208
          have e209 : jw32 (x3 + 2) = x3 + 2 := j32e (by omega) (by omega)
          refine st_xi (N := E.2.2.2.2.1) (by decide) (by decide) rfl (show 0 ≤ jw32 (x3 + 2) by omega) (show jw32 (x3 + 2) < ((E.2.2.2.2.1 : Nat) : Int) by omega) (fun v210 ev210 => ?_)
          replace ev210 : v210 = jxv E (-2) (jw32 (x3 + 2)) := ev210
          have e211 : jw32 (x3 + 3) = x3 + 3 := j32e (by omega) (by omega)
          refine st_xi (N := E.2.2.2.2.1) (by decide) (by decide) rfl (show 0 ≤ jw32 (x3 + 3) by omega) (show jw32 (x3 + 3) < ((E.2.2.2.2.1 : Nat) : Int) by omega) (fun v212 ev212 => ?_)
          replace ev212 : v212 = jxv E (-2) (jw32 (x3 + 3)) := ev212
          have e213 : jw32 (x3 + 4) = x3 + 4 := j32e (by omega) (by omega)
          refine st_xi (N := E.2.2.2.2.1) (by decide) (by decide) rfl (show 0 ≤ jw32 (x3 + 4) by omega) (show jw32 (x3 + 4) < ((E.2.2.2.2.1 : Nat) : Int) by omega) (fun v214 ev214 => ?_)
          replace ev214 : v214 = jxv E (-2) (jw32 (x3 + 4)) := ev214
          refine st_cv (na := 4) (st := [.inl v214, .inl v212, .inl v210, .inl v208, .inr (.inr (.inl 0))]) jo_0 rfl rfl rfl (c_X11_task v208 v210 v212 v214 g) rfl ?_
          rintro _ _ g216 ⟨rfl, ft215, t215, rfl, ht215, zt215⟩ kt215
          replace kt215 : -2147483648 ≤ t215 ∧ t215 ≤ 2147483647 := kt215
          replace ht215 : -7 ≤ t215 ∧ t215 ≤ 2000 := ht215
          replace zt215 : P_X11_task v208 v210 v212 v214 t215 g g216 := zt215
          have li217 : jLI g216 := jLI_fr (ft215 176 0 (by unfold w_X11_task; omega)) (ft215 0 0 (by unfold w_X11_task; omega)) (fun t => ft215 87 t (by unfold w_X11_task; omega)) li
          have dli217 : g216 176 0 ≤ 2000 := li217.1
          have e219 : jw32 (x3 + 1) = x3 + 1 := j32e (by omega) (by omega)
          refine st_xi (N := E.2.2.2.2.1) (by decide) (by decide) rfl (show 0 ≤ jw32 (x3 + 1) by omega) (show jw32 (x3 + 1) < ((E.2.2.2.2.1 : Nat) : Int) by omega) (fun v220 ev220 => ?_)
          replace ev220 : v220 = jxv E (-2) (jw32 (x3 + 1)) := ev220
          have e221 : jw32 (x3 + 2) = x3 + 2 := j32e (by omega) (by omega)
          refine st_xi (N := E.2.2.2.2.1) (by decide) (by decide) rfl (show 0 ≤ jw32 (x3 + 2) by omega) (show jw32 (x3 + 2) < ((E.2.2.2.2.1 : Nat) : Int) by omega) (fun v222 ev222 => ?_)
          replace ev222 : v222 = jxv E (-2) (jw32 (x3 + 2)) := ev222
          have e223 : jw32 (x3 + 3) = x3 + 3 := j32e (by omega) (by omega)
          refine st_xi (N := E.2.2.2.2.1) (by decide) (by decide) rfl (show 0 ≤ jw32 (x3 + 3) by omega) (show jw32 (x3 + 3) < ((E.2.2.2.2.1 : Nat) : Int) by omega) (fun v224 ev224 => ?_)
          replace ev224 : v224 = jxv E (-2) (jw32 (x3 + 3)) := ev224
          have e225 : jw32 (x3 + 4) = x3 + 4 := j32e (by omega) (by omega)
          refine st_xi (N := E.2.2.2.2.1) (by decide) (by decide) rfl (show 0 ≤ jw32 (x3 + 4) by omega) (show jw32 (x3 + 4) < ((E.2.2.2.2.1 : Nat) : Int) by omega) (fun v226 ev226 => ?_)
          replace ev226 : v226 = jxv E (-2) (jw32 (x3 + 4)) := ev226
          refine st_cv (na := 4) (st := [.inl v226, .inl v224, .inl v222, .inl v220, .inr (.inr (.inl 176))]) jo_176 rfl rfl rfl (c_X12_task v220 v222 v224 v226 g216) rfl ?_
          rintro _ _ g228 ⟨rfl, ft227, t227, rfl, ht227, zt227⟩ kt227
          replace kt227 : -2147483648 ≤ t227 ∧ t227 ≤ 2147483647 := kt227
          replace ht227 : -7 ≤ t227 ∧ t227 ≤ 2000 := ht227
          replace zt227 : P_X12_task v220 v222 v224 v226 t227 g216 g228 := zt227
          have li229 : jLI g228 := jLI_fr (ft227 176 0 (by unfold w_X12_task; omega)) (ft227 0 0 (by unfold w_X12_task; omega)) (fun t => ft227 87 t (by unfold w_X12_task; omega)) li217
          have dli229 : g228 176 0 ≤ 2000 := li229.1
          rw [show v220 = v208 by omega, show v222 = v210 by omega, show v224 = v212 by omega, show v226 = v214 by omega] at zt227
          have qe231 := pr_task ft215 ft227 zt215 zt227 sm
          have eqe231 := qe231.1
          have sm230 : jI g228 := qe231.2
          clear qe231 zt227
          show jGo E l 179 0 229 _ 1410 [.inr (.inr (.inl (-2))), .inr (.inr (.inl 0)), .inr (.inr (.inl 176)), .inl x3] [] 229 jr0 g228
          refine jGo_blk qL_law_1410 ?_
          have e232 : jw32 (x3 + 6) = x3 + 6 := j32e (by omega) (by omega)
          show jGo E l 179 0 229 _ 18 [.inr (.inr (.inl (-2))), .inr (.inr (.inl 0)), .inr (.inr (.inl 176)), .inl (jw32 (x3 + 6))] [] 229 jr0 g228
          exact ih (jw32 (x3 + 6)) g228 (by omega) li229 sm230 (by omega)
        · replace c6 : jand v4 63 = 11 := c6
          show jGo E l 179 0 229 _ 635 [.inr (.inr (.inl (-2))), .inr (.inr (.inl 0)), .inr (.inr (.inl 176)), .inl x3] [] 229 jr0 g
          refine jGo_blk qL_law_635 ?_
          have e233 : jw32 (x3 + 1) = x3 + 1 := j32e (by omega) (by omega)
          refine st_xi (N := E.2.2.2.2.1) (by decide) (by decide) rfl (show 0 ≤ jw32 (x3 + 1) by omega) (show jw32 (x3 + 1) < ((E.2.2.2.2.1 : Nat) : Int) by omega) (fun v234 ev234 => ?_)
          replace ev234 : v234 = jxv E (-2) (jw32 (x3 + 1)) := ev234
          have e235 : jw32 (x3 + 2) = x3 + 2 := j32e (by omega) (by omega)
          refine st_xi (N := E.2.2.2.2.1) (by decide) (by decide) rfl (show 0 ≤ jw32 (x3 + 2) by omega) (show jw32 (x3 + 2) < ((E.2.2.2.2.1 : Nat) : Int) by omega) (fun v236 ev236 => ?_)
          replace ev236 : v236 = jxv E (-2) (jw32 (x3 + 2)) := ev236
          have e237 : jw32 (x3 + 3) = x3 + 3 := j32e (by omega) (by omega)
          refine st_xi (N := E.2.2.2.2.1) (by decide) (by decide) rfl (show 0 ≤ jw32 (x3 + 3) by omega) (show jw32 (x3 + 3) < ((E.2.2.2.2.1 : Nat) : Int) by omega) (fun v238 ev238 => ?_)
          replace ev238 : v238 = jxv E (-2) (jw32 (x3 + 3)) := ev238
          have e239 : jw32 (x3 + 4) = x3 + 4 := j32e (by omega) (by omega)
          refine st_xi (N := E.2.2.2.2.1) (by decide) (by decide) rfl (show 0 ≤ jw32 (x3 + 4) by omega) (show jw32 (x3 + 4) < ((E.2.2.2.2.1 : Nat) : Int) by omega) (fun v240 ev240 => ?_)
          replace ev240 : v240 = jxv E (-2) (jw32 (x3 + 4)) := ev240
          refine st_cv (na := 4) (st := [.inl v240, .inl v238, .inl v236, .inl v234, .inr (.inr (.inl 0))]) jo_0 rfl rfl rfl (c_X11_needs v234 v236 v238 v240 g) rfl ?_
          rintro _ _ g242 ⟨rfl, ft241, t241, rfl, ht241, zt241⟩ kt241
          replace kt241 : -2147483648 ≤ t241 ∧ t241 ≤ 2147483647 := kt241
          replace ht241 : -7 ≤ t241 ∧ t241 ≤ 500 := ht241
          replace zt241 : P_X11_needs v234 v236 v238 v240 t241 g g242 := zt241
          have li243 : jLI g242 := jLI_fr (ft241 176 0 (by unfold w_X11_needs; omega)) (ft241 0 0 (by unfold w_X11_needs; omega)) (fun t => ft241 87 t (by unfold w_X11_needs; omega)) li
          have dli243 : g242 176 0 ≤ 2000 := li243.1
          have e245 : jw32 (x3 + 1) = x3 + 1 := j32e (by omega) (by omega)
          refine st_xi (N := E.2.2.2.2.1) (by decide) (by decide) rfl (show 0 ≤ jw32 (x3 + 1) by omega) (show jw32 (x3 + 1) < ((E.2.2.2.2.1 : Nat) : Int) by omega) (fun v246 ev246 => ?_)
          replace ev246 : v246 = jxv E (-2) (jw32 (x3 + 1)) := ev246
          have e247 : jw32 (x3 + 2) = x3 + 2 := j32e (by omega) (by omega)
          refine st_xi (N := E.2.2.2.2.1) (by decide) (by decide) rfl (show 0 ≤ jw32 (x3 + 2) by omega) (show jw32 (x3 + 2) < ((E.2.2.2.2.1 : Nat) : Int) by omega) (fun v248 ev248 => ?_)
          replace ev248 : v248 = jxv E (-2) (jw32 (x3 + 2)) := ev248
          have e249 : jw32 (x3 + 3) = x3 + 3 := j32e (by omega) (by omega)
          refine st_xi (N := E.2.2.2.2.1) (by decide) (by decide) rfl (show 0 ≤ jw32 (x3 + 3) by omega) (show jw32 (x3 + 3) < ((E.2.2.2.2.1 : Nat) : Int) by omega) (fun v250 ev250 => ?_)
          replace ev250 : v250 = jxv E (-2) (jw32 (x3 + 3)) := ev250
          have e251 : jw32 (x3 + 4) = x3 + 4 := j32e (by omega) (by omega)
          refine st_xi (N := E.2.2.2.2.1) (by decide) (by decide) rfl (show 0 ≤ jw32 (x3 + 4) by omega) (show jw32 (x3 + 4) < ((E.2.2.2.2.1 : Nat) : Int) by omega) (fun v252 ev252 => ?_)
          replace ev252 : v252 = jxv E (-2) (jw32 (x3 + 4)) := ev252
          refine st_cv (na := 4) (st := [.inl v252, .inl v250, .inl v248, .inl v246, .inr (.inr (.inl 176))]) jo_176 rfl rfl rfl (c_X12_needs v246 v248 v250 v252 g242) rfl ?_
          rintro _ _ g254 ⟨rfl, ft253, t253, rfl, ht253, zt253⟩ kt253
          replace kt253 : -2147483648 ≤ t253 ∧ t253 ≤ 2147483647 := kt253
          replace ht253 : -7 ≤ t253 ∧ t253 ≤ 500 := ht253
          replace zt253 : P_X12_needs v246 v248 v250 v252 t253 g242 g254 := zt253
          have li255 : jLI g254 := jLI_fr (ft253 176 0 (by unfold w_X12_needs; omega)) (ft253 0 0 (by unfold w_X12_needs; omega)) (fun t => ft253 87 t (by unfold w_X12_needs; omega)) li243
          have dli255 : g254 176 0 ≤ 2000 := li255.1
          rw [show v246 = v234 by omega, show v248 = v236 by omega, show v250 = v238 by omega, show v252 = v240 by omega] at zt253
          have qe257 := pr_needs ft241 ft253 zt241 zt253 sm
          have eqe257 := qe257.1
          have sm256 : jI g254 := qe257.2
          clear qe257 zt253
          show jGo E l 179 0 229 _ 1410 [.inr (.inr (.inl (-2))), .inr (.inr (.inl 0)), .inr (.inr (.inl 176)), .inl x3] [] 229 jr0 g254
          refine jGo_blk qL_law_1410 ?_
          have e258 : jw32 (x3 + 6) = x3 + 6 := j32e (by omega) (by omega)
          show jGo E l 179 0 229 _ 18 [.inr (.inr (.inl (-2))), .inr (.inr (.inl 0)), .inr (.inr (.inl 176)), .inl (jw32 (x3 + 6))] [] 229 jr0 g254
          exact ih (jw32 (x3 + 6)) g254 (by omega) li255 sm256 (by omega)
        · replace c6 : jand v4 63 = 12 := c6
          show jGo E l 179 0 229 _ 688 [.inr (.inr (.inl (-2))), .inr (.inr (.inl 0)), .inr (.inr (.inl 176)), .inl x3] [] 229 jr0 g
          refine jGo_blk qL_law_688 ?_
          have e259 : jw32 (x3 + 1) = x3 + 1 := j32e (by omega) (by omega)
          refine st_xi (N := E.2.2.2.2.1) (by decide) (by decide) rfl (show 0 ≤ jw32 (x3 + 1) by omega) (show jw32 (x3 + 1) < ((E.2.2.2.2.1 : Nat) : Int) by omega) (fun v260 ev260 => ?_)
          replace ev260 : v260 = jxv E (-2) (jw32 (x3 + 1)) := ev260
          have e261 : jw32 (x3 + 2) = x3 + 2 := j32e (by omega) (by omega)
          refine st_xi (N := E.2.2.2.2.1) (by decide) (by decide) rfl (show 0 ≤ jw32 (x3 + 2) by omega) (show jw32 (x3 + 2) < ((E.2.2.2.2.1 : Nat) : Int) by omega) (fun v262 ev262 => ?_)
          replace ev262 : v262 = jxv E (-2) (jw32 (x3 + 2)) := ev262
          have e263 : jw32 (x3 + 3) = x3 + 3 := j32e (by omega) (by omega)
          refine st_xi (N := E.2.2.2.2.1) (by decide) (by decide) rfl (show 0 ≤ jw32 (x3 + 3) by omega) (show jw32 (x3 + 3) < ((E.2.2.2.2.1 : Nat) : Int) by omega) (fun v264 ev264 => ?_)
          replace ev264 : v264 = jxv E (-2) (jw32 (x3 + 3)) := ev264
          refine st_cv (na := 3) (st := [.inl v264, .inl v262, .inl v260, .inr (.inr (.inl 0))]) jo_0 rfl rfl rfl (c_X11_hull v260 v262 v264 g) rfl ?_
          rintro _ _ g266 ⟨rfl, ft265, t265, rfl, ht265, zt265⟩ kt265
          replace kt265 : -2147483648 ≤ t265 ∧ t265 ≤ 2147483647 := kt265
          replace ht265 : -7 ≤ t265 ∧ t265 ≤ 15 := ht265
          replace zt265 : P_X11_hull v260 v262 v264 t265 g g266 := zt265
          have li267 : jLI g266 := jLI_fr (ft265 176 0 (by unfold w_X11_hull; omega)) (ft265 0 0 (by unfold w_X11_hull; omega)) (fun t => ft265 87 t (by unfold w_X11_hull; omega)) li
          have dli267 : g266 176 0 ≤ 2000 := li267.1
          have e269 : jw32 (x3 + 1) = x3 + 1 := j32e (by omega) (by omega)
          refine st_xi (N := E.2.2.2.2.1) (by decide) (by decide) rfl (show 0 ≤ jw32 (x3 + 1) by omega) (show jw32 (x3 + 1) < ((E.2.2.2.2.1 : Nat) : Int) by omega) (fun v270 ev270 => ?_)
          replace ev270 : v270 = jxv E (-2) (jw32 (x3 + 1)) := ev270
          have e271 : jw32 (x3 + 2) = x3 + 2 := j32e (by omega) (by omega)
          refine st_xi (N := E.2.2.2.2.1) (by decide) (by decide) rfl (show 0 ≤ jw32 (x3 + 2) by omega) (show jw32 (x3 + 2) < ((E.2.2.2.2.1 : Nat) : Int) by omega) (fun v272 ev272 => ?_)
          replace ev272 : v272 = jxv E (-2) (jw32 (x3 + 2)) := ev272
          have e273 : jw32 (x3 + 3) = x3 + 3 := j32e (by omega) (by omega)
          refine st_xi (N := E.2.2.2.2.1) (by decide) (by decide) rfl (show 0 ≤ jw32 (x3 + 3) by omega) (show jw32 (x3 + 3) < ((E.2.2.2.2.1 : Nat) : Int) by omega) (fun v274 ev274 => ?_)
          replace ev274 : v274 = jxv E (-2) (jw32 (x3 + 3)) := ev274
          refine st_cv (na := 3) (st := [.inl v274, .inl v272, .inl v270, .inr (.inr (.inl 176)), .inl t265]) jo_176 rfl rfl rfl (c_X12_hull v270 v272 v274 g266) rfl ?_
          rintro _ _ g276 ⟨rfl, ft275, t275, rfl, ht275, zt275⟩ kt275
          replace kt275 : -2147483648 ≤ t275 ∧ t275 ≤ 2147483647 := kt275
          replace ht275 : -7 ≤ t275 ∧ t275 ≤ 15 := ht275
          replace zt275 : P_X12_hull v270 v272 v274 t275 g266 g276 := zt275
          have li277 : jLI g276 := jLI_fr (ft275 176 0 (by unfold w_X12_hull; omega)) (ft275 0 0 (by unfold w_X12_hull; omega)) (fun t => ft275 87 t (by unfold w_X12_hull; omega)) li267
          have dli277 : g276 176 0 ≤ 2000 := li277.1
          rw [show v270 = v260 by omega, show v272 = v262 by omega, show v274 = v264 by omega] at zt275
          have qe279 := pr_hull ft265 ft275 zt265 zt275 sm
          have eqe279 := qe279.1
          have sm278 : jI g276 := qe279.2
          clear qe279 zt275
          refine And.intro (fun c280 => ?_) (fun c280 => ?_)
          · replace c280 : t265 = t275 := c280
            show jGo E l 179 0 229 _ 1410 [.inr (.inr (.inl (-2))), .inr (.inr (.inl 0)), .inr (.inr (.inl 176)), .inl x3] [] 229 jr0 g276
            refine jGo_blk qL_law_1410 ?_
            have e281 : jw32 (x3 + 6) = x3 + 6 := j32e (by omega) (by omega)
            show jGo E l 179 0 229 _ 18 [.inr (.inr (.inl (-2))), .inr (.inr (.inl 0)), .inr (.inr (.inl 176)), .inl (jw32 (x3 + 6))] [] 229 jr0 g276
            exact ih (jw32 (x3 + 6)) g276 (by omega) li277 sm278 (by omega)
          · replace c280 : ¬ t265 = t275 := by first | exact c280 | exact Int.not_le.mp c280 | exact Int.not_lt.mp c280 | exact Decidable.not_not.mp c280
            exfalso; omega
        · replace c6 : jand v4 63 = 13 := c6
          show jGo E l 179 0 229 _ 731 [.inr (.inr (.inl (-2))), .inr (.inr (.inl 0)), .inr (.inr (.inl 176)), .inl x3] [] 229 jr0 g
          refine jGo_blk qL_law_731 ?_
          have e282 : jw32 (x3 + 1) = x3 + 1 := j32e (by omega) (by omega)
          refine st_xi (N := E.2.2.2.2.1) (by decide) (by decide) rfl (show 0 ≤ jw32 (x3 + 1) by omega) (show jw32 (x3 + 1) < ((E.2.2.2.2.1 : Nat) : Int) by omega) (fun v283 ev283 => ?_)
          replace ev283 : v283 = jxv E (-2) (jw32 (x3 + 1)) := ev283
          have e284 : jw32 (x3 + 2) = x3 + 2 := j32e (by omega) (by omega)
          refine st_xi (N := E.2.2.2.2.1) (by decide) (by decide) rfl (show 0 ≤ jw32 (x3 + 2) by omega) (show jw32 (x3 + 2) < ((E.2.2.2.2.1 : Nat) : Int) by omega) (fun v285 ev285 => ?_)
          replace ev285 : v285 = jxv E (-2) (jw32 (x3 + 2)) := ev285
          refine st_cv (na := 2) (st := [.inl v285, .inl v283, .inr (.inr (.inl 0))]) jo_0 rfl rfl rfl (c_X11_priority v283 v285 g) rfl ?_
          rintro _ _ g287 ⟨rfl, ft286, t286, rfl, ht286, zt286⟩ kt286
          replace kt286 : -2147483648 ≤ t286 ∧ t286 ≤ 2147483647 := kt286
          replace ht286 : -7 ≤ t286 ∧ t286 ≤ 99 := ht286
          have li288 : jLI g287 := jLI_fr (ft286 176 0 (by unfold w_X11_priority; omega)) (ft286 0 0 (by unfold w_X11_priority; omega)) (fun t => ft286 87 t (by unfold w_X11_priority; omega)) li
          have dli288 : g287 176 0 ≤ 2000 := li288.1
          have e290 : jw32 (x3 + 1) = x3 + 1 := j32e (by omega) (by omega)
          refine st_xi (N := E.2.2.2.2.1) (by decide) (by decide) rfl (show 0 ≤ jw32 (x3 + 1) by omega) (show jw32 (x3 + 1) < ((E.2.2.2.2.1 : Nat) : Int) by omega) (fun v291 ev291 => ?_)
          replace ev291 : v291 = jxv E (-2) (jw32 (x3 + 1)) := ev291
          have e292 : jw32 (x3 + 2) = x3 + 2 := j32e (by omega) (by omega)
          refine st_xi (N := E.2.2.2.2.1) (by decide) (by decide) rfl (show 0 ≤ jw32 (x3 + 2) by omega) (show jw32 (x3 + 2) < ((E.2.2.2.2.1 : Nat) : Int) by omega) (fun v293 ev293 => ?_)
          replace ev293 : v293 = jxv E (-2) (jw32 (x3 + 2)) := ev293
          refine st_cv (na := 2) (st := [.inl v293, .inl v291, .inr (.inr (.inl 176))]) jo_176 rfl rfl rfl (c_X12_priority v291 v293 g287) rfl ?_
          rintro _ _ g295 ⟨rfl, ft294, t294, rfl, ht294, zt294⟩ kt294
          replace kt294 : -2147483648 ≤ t294 ∧ t294 ≤ 2147483647 := kt294
          replace ht294 : -7 ≤ t294 ∧ t294 ≤ 99 := ht294
          have li296 : jLI g295 := jLI_fr (ft294 176 0 (by unfold w_X12_priority; omega)) (ft294 0 0 (by unfold w_X12_priority; omega)) (fun t => ft294 87 t (by unfold w_X12_priority; omega)) li288
          have dli296 : g295 176 0 ≤ 2000 := li296.1
          have sm297 : jI g295 := pf_priority ft286 ft294 sm
          show jGo E l 179 0 229 _ 1410 [.inr (.inr (.inl (-2))), .inr (.inr (.inl 0)), .inr (.inr (.inl 176)), .inl x3] [] 229 jr0 g295
          refine jGo_blk qL_law_1410 ?_
          have e298 : jw32 (x3 + 6) = x3 + 6 := j32e (by omega) (by omega)
          show jGo E l 179 0 229 _ 18 [.inr (.inr (.inl (-2))), .inr (.inr (.inl 0)), .inr (.inr (.inl 176)), .inl (jw32 (x3 + 6))] [] 229 jr0 g295
          exact ih (jw32 (x3 + 6)) g295 (by omega) li296 sm297 (by omega)
        · replace c6 : jand v4 63 = 14 := c6
          show jGo E l 179 0 229 _ 764 [.inr (.inr (.inl (-2))), .inr (.inr (.inl 0)), .inr (.inr (.inl 176)), .inl x3] [] 229 jr0 g
          refine jGo_blk qL_law_764 ?_
          have e299 : jw32 (x3 + 1) = x3 + 1 := j32e (by omega) (by omega)
          refine st_xi (N := E.2.2.2.2.1) (by decide) (by decide) rfl (show 0 ≤ jw32 (x3 + 1) by omega) (show jw32 (x3 + 1) < ((E.2.2.2.2.1 : Nat) : Int) by omega) (fun v300 ev300 => ?_)
          replace ev300 : v300 = jxv E (-2) (jw32 (x3 + 1)) := ev300
          have e301 : jw32 (x3 + 2) = x3 + 2 := j32e (by omega) (by omega)
          refine st_xi (N := E.2.2.2.2.1) (by decide) (by decide) rfl (show 0 ≤ jw32 (x3 + 2) by omega) (show jw32 (x3 + 2) < ((E.2.2.2.2.1 : Nat) : Int) by omega) (fun v302 ev302 => ?_)
          replace ev302 : v302 = jxv E (-2) (jw32 (x3 + 2)) := ev302
          refine st_cv (na := 2) (st := [.inl v302, .inl v300, .inr (.inr (.inl 0))]) jo_0 rfl rfl rfl (c_X11_raft v300 v302 g) rfl ?_
          rintro _ _ g304 ⟨rfl, ft303, t303, rfl, ht303, zt303⟩ kt303
          replace kt303 : -2147483648 ≤ t303 ∧ t303 ≤ 2147483647 := kt303
          replace ht303 : -7 ≤ t303 ∧ t303 ≤ 1 := ht303
          have li305 : jLI g304 := jLI_fr (ft303 176 0 (by unfold w_X11_raft; omega)) (ft303 0 0 (by unfold w_X11_raft; omega)) (fun t => ft303 87 t (by unfold w_X11_raft; omega)) li
          have dli305 : g304 176 0 ≤ 2000 := li305.1
          have e307 : jw32 (x3 + 1) = x3 + 1 := j32e (by omega) (by omega)
          refine st_xi (N := E.2.2.2.2.1) (by decide) (by decide) rfl (show 0 ≤ jw32 (x3 + 1) by omega) (show jw32 (x3 + 1) < ((E.2.2.2.2.1 : Nat) : Int) by omega) (fun v308 ev308 => ?_)
          replace ev308 : v308 = jxv E (-2) (jw32 (x3 + 1)) := ev308
          have e309 : jw32 (x3 + 2) = x3 + 2 := j32e (by omega) (by omega)
          refine st_xi (N := E.2.2.2.2.1) (by decide) (by decide) rfl (show 0 ≤ jw32 (x3 + 2) by omega) (show jw32 (x3 + 2) < ((E.2.2.2.2.1 : Nat) : Int) by omega) (fun v310 ev310 => ?_)
          replace ev310 : v310 = jxv E (-2) (jw32 (x3 + 2)) := ev310
          refine st_cv (na := 2) (st := [.inl v310, .inl v308, .inr (.inr (.inl 176))]) jo_176 rfl rfl rfl (c_X12_raft v308 v310 g304) rfl ?_
          rintro _ _ g312 ⟨rfl, ft311, t311, rfl, ht311, zt311⟩ kt311
          replace kt311 : -2147483648 ≤ t311 ∧ t311 ≤ 2147483647 := kt311
          replace ht311 : -7 ≤ t311 ∧ t311 ≤ 1 := ht311
          have li313 : jLI g312 := jLI_fr (ft311 176 0 (by unfold w_X12_raft; omega)) (ft311 0 0 (by unfold w_X12_raft; omega)) (fun t => ft311 87 t (by unfold w_X12_raft; omega)) li305
          have dli313 : g312 176 0 ≤ 2000 := li313.1
          have sm314 : jI g312 := pf_raft ft303 ft311 sm
          show jGo E l 179 0 229 _ 1410 [.inr (.inr (.inl (-2))), .inr (.inr (.inl 0)), .inr (.inr (.inl 176)), .inl x3] [] 229 jr0 g312
          refine jGo_blk qL_law_1410 ?_
          have e315 : jw32 (x3 + 6) = x3 + 6 := j32e (by omega) (by omega)
          show jGo E l 179 0 229 _ 18 [.inr (.inr (.inl (-2))), .inr (.inr (.inl 0)), .inr (.inr (.inl 176)), .inl (jw32 (x3 + 6))] [] 229 jr0 g312
          exact ih (jw32 (x3 + 6)) g312 (by omega) li313 sm314 (by omega)
        · replace c6 : jand v4 63 = 15 := c6
          show jGo E l 179 0 229 _ 797 [.inr (.inr (.inl (-2))), .inr (.inr (.inl 0)), .inr (.inr (.inl 176)), .inl x3] [] 229 jr0 g
          refine jGo_blk qL_law_797 ?_
          have e316 : jw32 (x3 + 1) = x3 + 1 := j32e (by omega) (by omega)
          refine st_xi (N := E.2.2.2.2.1) (by decide) (by decide) rfl (show 0 ≤ jw32 (x3 + 1) by omega) (show jw32 (x3 + 1) < ((E.2.2.2.2.1 : Nat) : Int) by omega) (fun v317 ev317 => ?_)
          replace ev317 : v317 = jxv E (-2) (jw32 (x3 + 1)) := ev317
          refine st_cv (na := 1) (st := [.inl v317, .inr (.inr (.inl 0))]) jo_0 rfl rfl rfl (c_X11_unraft v317 g) rfl ?_
          rintro _ _ g319 ⟨rfl, ft318, t318, rfl, ht318, zt318⟩ kt318
          replace kt318 : -2147483648 ≤ t318 ∧ t318 ≤ 2147483647 := kt318
          have li320 : jLI g319 := jLI_fr (ft318 176 0 (by unfold w_X11_unraft; omega)) (ft318 0 0 (by unfold w_X11_unraft; omega)) (fun t => ft318 87 t (by unfold w_X11_unraft; omega)) li
          have dli320 : g319 176 0 ≤ 2000 := li320.1
          have e322 : jw32 (x3 + 1) = x3 + 1 := j32e (by omega) (by omega)
          refine st_xi (N := E.2.2.2.2.1) (by decide) (by decide) rfl (show 0 ≤ jw32 (x3 + 1) by omega) (show jw32 (x3 + 1) < ((E.2.2.2.2.1 : Nat) : Int) by omega) (fun v323 ev323 => ?_)
          replace ev323 : v323 = jxv E (-2) (jw32 (x3 + 1)) := ev323
          refine st_cv (na := 1) (st := [.inl v323, .inr (.inr (.inl 176))]) jo_176 rfl rfl rfl (c_X12_unraft v323 g319) rfl ?_
          rintro _ _ g325 ⟨rfl, ft324, t324, rfl, ht324, zt324⟩ kt324
          replace kt324 : -2147483648 ≤ t324 ∧ t324 ≤ 2147483647 := kt324
          have li326 : jLI g325 := jLI_fr (ft324 176 0 (by unfold w_X12_unraft; omega)) (ft324 0 0 (by unfold w_X12_unraft; omega)) (fun t => ft324 87 t (by unfold w_X12_unraft; omega)) li320
          have dli326 : g325 176 0 ≤ 2000 := li326.1
          have sm327 : jI g325 := pf_unraft ft318 ft324 sm
          show jGo E l 179 0 229 _ 1410 [.inr (.inr (.inl (-2))), .inr (.inr (.inl 0)), .inr (.inr (.inl 176)), .inl x3] [] 229 jr0 g325
          refine jGo_blk qL_law_1410 ?_
          have e328 : jw32 (x3 + 6) = x3 + 6 := j32e (by omega) (by omega)
          show jGo E l 179 0 229 _ 18 [.inr (.inr (.inl (-2))), .inr (.inr (.inl 0)), .inr (.inr (.inl 176)), .inl (jw32 (x3 + 6))] [] 229 jr0 g325
          exact ih (jw32 (x3 + 6)) g325 (by omega) li326 sm327 (by omega)
        · replace c6 : jand v4 63 = 16 := c6
          show jGo E l 179 0 229 _ 820 [.inr (.inr (.inl (-2))), .inr (.inr (.inl 0)), .inr (.inr (.inl 176)), .inl x3] [] 229 jr0 g
          refine jGo_blk qL_law_820 ?_
          have e329 : jw32 (x3 + 1) = x3 + 1 := j32e (by omega) (by omega)
          refine st_xi (N := E.2.2.2.2.1) (by decide) (by decide) rfl (show 0 ≤ jw32 (x3 + 1) by omega) (show jw32 (x3 + 1) < ((E.2.2.2.2.1 : Nat) : Int) by omega) (fun v330 ev330 => ?_)
          replace ev330 : v330 = jxv E (-2) (jw32 (x3 + 1)) := ev330
          refine st_cv (na := 1) (st := [.inl v330, .inr (.inr (.inl 0))]) jo_0 rfl rfl rfl (c_X11_days v330 g li.2) rfl ?_
          rintro _ _ g332 ⟨rfl, ft331, t331, rfl, ht331, zt331⟩ kt331
          replace kt331 : -2147483648 ≤ t331 ∧ t331 ≤ 2147483647 := kt331
          replace zt331 : jLG 0 g332 ∧ P_X11_days v330 g g332 := zt331
          have li333 : jLI g332 := ⟨by rw [(ft331 176 0 (by unfold w_X11_days; omega))]; exact li.1, zt331.1⟩
          have dli333 : g332 176 0 ≤ 2000 := li333.1
          have e335 : jw32 (x3 + 1) = x3 + 1 := j32e (by omega) (by omega)
          refine st_xi (N := E.2.2.2.2.1) (by decide) (by decide) rfl (show 0 ≤ jw32 (x3 + 1) by omega) (show jw32 (x3 + 1) < ((E.2.2.2.2.1 : Nat) : Int) by omega) (fun v336 ev336 => ?_)
          replace ev336 : v336 = jxv E (-2) (jw32 (x3 + 1)) := ev336
          have e337 : g332 176 0 = g 176 0 := ft331 176 0 (by unfold w_X11_days; omega)
          refine st_cv (na := 1) (st := [.inl v336, .inr (.inr (.inl 176))]) jo_176 rfl rfl rfl (c_X12_days v336 g332 (by omega)) rfl ?_
          rintro _ _ g339 ⟨rfl, ft338, t338, rfl, ht338, zt338⟩ kt338
          replace kt338 : -2147483648 ≤ t338 ∧ t338 ≤ 2147483647 := kt338
          replace zt338 : g339 176 0 ≤ 2000 ∧ P_X12_days v336 g332 g339 := zt338
          have li340 : jLI g339 := ⟨zt338.1, jLG_fr (ft338 0 0 (by unfold w_X12_days; omega)) (fun t => ft338 87 t (by unfold w_X12_days; omega)) li333.2⟩
          have dli340 : g339 176 0 ≤ 2000 := li340.1
          have zd343 := zt338.2
          rw [show v336 = v330 by omega] at zd343
          have qe342 := pr_days ft331 ft338 zt331.2 zd343 sm
          have sm341 : jI g339 := qe342
          clear qe342 zd343
          show jGo E l 179 0 229 _ 1410 [.inr (.inr (.inl (-2))), .inr (.inr (.inl 0)), .inr (.inr (.inl 176)), .inl x3] [] 229 jr0 g339
          refine jGo_blk qL_law_1410 ?_
          have e344 : jw32 (x3 + 6) = x3 + 6 := j32e (by omega) (by omega)
          show jGo E l 179 0 229 _ 18 [.inr (.inr (.inl (-2))), .inr (.inr (.inl 0)), .inr (.inr (.inl 176)), .inl (jw32 (x3 + 6))] [] 229 jr0 g339
          exact ih (jw32 (x3 + 6)) g339 (by omega) li340 sm341 (by omega)
        · replace c6 : jand v4 63 = 17 := c6
          show jGo E l 179 0 229 _ 843 [.inr (.inr (.inl (-2))), .inr (.inr (.inl 0)), .inr (.inr (.inl 176)), .inl x3] [] 229 jr0 g
          refine jGo_blk qL_law_843 ?_
          have e345 : jw32 (x3 + 1) = x3 + 1 := j32e (by omega) (by omega)
          refine st_xi (N := E.2.2.2.2.1) (by decide) (by decide) rfl (show 0 ≤ jw32 (x3 + 1) by omega) (show jw32 (x3 + 1) < ((E.2.2.2.2.1 : Nat) : Int) by omega) (fun v346 ev346 => ?_)
          replace ev346 : v346 = jxv E (-2) (jw32 (x3 + 1)) := ev346
          refine st_cv (na := 1) (st := [.inl v346, .inr (.inr (.inl 0))]) jo_0 rfl rfl rfl (c_X11_breakUp v346 g) rfl ?_
          rintro _ _ g348 ⟨rfl, ft347, t347, rfl, ht347, zt347⟩ kt347
          replace kt347 : -2147483648 ≤ t347 ∧ t347 ≤ 2147483647 := kt347
          have li349 : jLI g348 := jLI_fr (ft347 176 0 (by unfold w_X11_breakUp; omega)) (ft347 0 0 (by unfold w_X11_breakUp; omega)) (fun t => ft347 87 t (by unfold w_X11_breakUp; omega)) li
          have dli349 : g348 176 0 ≤ 2000 := li349.1
          have e351 : jw32 (x3 + 1) = x3 + 1 := j32e (by omega) (by omega)
          refine st_xi (N := E.2.2.2.2.1) (by decide) (by decide) rfl (show 0 ≤ jw32 (x3 + 1) by omega) (show jw32 (x3 + 1) < ((E.2.2.2.2.1 : Nat) : Int) by omega) (fun v352 ev352 => ?_)
          replace ev352 : v352 = jxv E (-2) (jw32 (x3 + 1)) := ev352
          refine st_cv (na := 1) (st := [.inl v352, .inr (.inr (.inl 176))]) jo_176 rfl rfl rfl (c_X12_breakUp v352 g348) rfl ?_
          rintro _ _ g354 ⟨rfl, ft353, t353, rfl, ht353, zt353⟩ kt353
          replace kt353 : -2147483648 ≤ t353 ∧ t353 ≤ 2147483647 := kt353
          have li355 : jLI g354 := jLI_fr (ft353 176 0 (by unfold w_X12_breakUp; omega)) (ft353 0 0 (by unfold w_X12_breakUp; omega)) (fun t => ft353 87 t (by unfold w_X12_breakUp; omega)) li349
          have dli355 : g354 176 0 ≤ 2000 := li355.1
          have sm356 : jI g354 := pf_breakUp ft347 ft353 sm
          show jGo E l 179 0 229 _ 1410 [.inr (.inr (.inl (-2))), .inr (.inr (.inl 0)), .inr (.inr (.inl 176)), .inl x3] [] 229 jr0 g354
          refine jGo_blk qL_law_1410 ?_
          have e357 : jw32 (x3 + 6) = x3 + 6 := j32e (by omega) (by omega)
          show jGo E l 179 0 229 _ 18 [.inr (.inr (.inl (-2))), .inr (.inr (.inl 0)), .inr (.inr (.inl 176)), .inl (jw32 (x3 + 6))] [] 229 jr0 g354
          exact ih (jw32 (x3 + 6)) g354 (by omega) li355 sm356 (by omega)
        · replace c6 : jand v4 63 = 18 := c6
          show jGo E l 179 0 229 _ 866 [.inr (.inr (.inl (-2))), .inr (.inr (.inl 0)), .inr (.inr (.inl 176)), .inl x3] [] 229 jr0 g
          refine jGo_blk qL_law_866 ?_
          have e358 : jw32 (x3 + 1) = x3 + 1 := j32e (by omega) (by omega)
          refine st_xi (N := E.2.2.2.2.1) (by decide) (by decide) rfl (show 0 ≤ jw32 (x3 + 1) by omega) (show jw32 (x3 + 1) < ((E.2.2.2.2.1 : Nat) : Int) by omega) (fun v359 ev359 => ?_)
          replace ev359 : v359 = jxv E (-2) (jw32 (x3 + 1)) := ev359
          have e360 : jw32 (x3 + 2) = x3 + 2 := j32e (by omega) (by omega)
          refine st_xi (N := E.2.2.2.2.1) (by decide) (by decide) rfl (show 0 ≤ jw32 (x3 + 2) by omega) (show jw32 (x3 + 2) < ((E.2.2.2.2.1 : Nat) : Int) by omega) (fun v361 ev361 => ?_)
          replace ev361 : v361 = jxv E (-2) (jw32 (x3 + 2)) := ev361
          refine st_cv (na := 2) (st := [.inl v361, .inl v359, .inr (.inr (.inl 0))]) jo_0 rfl rfl rfl (c_X11_growth v359 v361 g) rfl ?_
          rintro _ _ g363 ⟨rfl, ft362, t362, rfl, ht362, zt362⟩ kt362
          replace kt362 : -2147483648 ≤ t362 ∧ t362 ≤ 2147483647 := kt362
          replace ht362 : -7 ≤ t362 ∧ t362 ≤ 9 := ht362
          replace zt362 : P_X11_growth v359 v361 t362 g g363 := zt362
          have li364 : jLI g363 := jLI_fr (ft362 176 0 (by unfold w_X11_growth; omega)) (ft362 0 0 (by unfold w_X11_growth; omega)) (fun t => ft362 87 t (by unfold w_X11_growth; omega)) li
          have dli364 : g363 176 0 ≤ 2000 := li364.1
          have e366 : jw32 (x3 + 1) = x3 + 1 := j32e (by omega) (by omega)
          refine st_xi (N := E.2.2.2.2.1) (by decide) (by decide) rfl (show 0 ≤ jw32 (x3 + 1) by omega) (show jw32 (x3 + 1) < ((E.2.2.2.2.1 : Nat) : Int) by omega) (fun v367 ev367 => ?_)
          replace ev367 : v367 = jxv E (-2) (jw32 (x3 + 1)) := ev367
          have e368 : jw32 (x3 + 2) = x3 + 2 := j32e (by omega) (by omega)
          refine st_xi (N := E.2.2.2.2.1) (by decide) (by decide) rfl (show 0 ≤ jw32 (x3 + 2) by omega) (show jw32 (x3 + 2) < ((E.2.2.2.2.1 : Nat) : Int) by omega) (fun v369 ev369 => ?_)
          replace ev369 : v369 = jxv E (-2) (jw32 (x3 + 2)) := ev369
          refine st_cv (na := 2) (st := [.inl v369, .inl v367, .inr (.inr (.inl 176))]) jo_176 rfl rfl rfl (c_X12_growth v367 v369 g363) rfl ?_
          rintro _ _ g371 ⟨rfl, ft370, t370, rfl, ht370, zt370⟩ kt370
          replace kt370 : -2147483648 ≤ t370 ∧ t370 ≤ 2147483647 := kt370
          replace ht370 : -7 ≤ t370 ∧ t370 ≤ 9 := ht370
          replace zt370 : P_X12_growth v367 v369 t370 g363 g371 := zt370
          have li372 : jLI g371 := jLI_fr (ft370 176 0 (by unfold w_X12_growth; omega)) (ft370 0 0 (by unfold w_X12_growth; omega)) (fun t => ft370 87 t (by unfold w_X12_growth; omega)) li364
          have dli372 : g371 176 0 ≤ 2000 := li372.1
          rw [show v367 = v359 by omega, show v369 = v361 by omega] at zt370
          have qe374 := pr_growth ft362 ft370 zt362 zt370 sm
          have eqe374 := qe374.1
          have sm373 : jI g371 := qe374.2
          clear qe374 zt370
          show jGo E l 179 0 229 _ 1410 [.inr (.inr (.inl (-2))), .inr (.inr (.inl 0)), .inr (.inr (.inl 176)), .inl x3] [] 229 jr0 g371
          refine jGo_blk qL_law_1410 ?_
          have e375 : jw32 (x3 + 6) = x3 + 6 := j32e (by omega) (by omega)
          show jGo E l 179 0 229 _ 18 [.inr (.inr (.inl (-2))), .inr (.inr (.inl 0)), .inr (.inr (.inl 176)), .inl (jw32 (x3 + 6))] [] 229 jr0 g371
          exact ih (jw32 (x3 + 6)) g371 (by omega) li372 sm373 (by omega)
        · replace c6 : jand v4 63 = 19 := c6
          show jGo E l 179 0 229 _ 899 [.inr (.inr (.inl (-2))), .inr (.inr (.inl 0)), .inr (.inr (.inl 176)), .inl x3] [] 229 jr0 g
          refine jGo_blk qL_law_899 ?_
          have e376 : jw32 (x3 + 1) = x3 + 1 := j32e (by omega) (by omega)
          refine st_xi (N := E.2.2.2.2.1) (by decide) (by decide) rfl (show 0 ≤ jw32 (x3 + 1) by omega) (show jw32 (x3 + 1) < ((E.2.2.2.2.1 : Nat) : Int) by omega) (fun v377 ev377 => ?_)
          replace ev377 : v377 = jxv E (-2) (jw32 (x3 + 1)) := ev377
          have e378 : jw32 (x3 + 2) = x3 + 2 := j32e (by omega) (by omega)
          refine st_xi (N := E.2.2.2.2.1) (by decide) (by decide) rfl (show 0 ≤ jw32 (x3 + 2) by omega) (show jw32 (x3 + 2) < ((E.2.2.2.2.1 : Nat) : Int) by omega) (fun v379 ev379 => ?_)
          replace ev379 : v379 = jxv E (-2) (jw32 (x3 + 2)) := ev379
          have e380 : jw32 (x3 + 3) = x3 + 3 := j32e (by omega) (by omega)
          refine st_xi (N := E.2.2.2.2.1) (by decide) (by decide) rfl (show 0 ≤ jw32 (x3 + 3) by omega) (show jw32 (x3 + 3) < ((E.2.2.2.2.1 : Nat) : Int) by omega) (fun v381 ev381 => ?_)
          replace ev381 : v381 = jxv E (-2) (jw32 (x3 + 3)) := ev381
          refine st_cv (na := 3) (st := [.inl v381, .inl v379, .inl v377, .inr (.inr (.inl 0))]) jo_0 rfl rfl rfl (c_X11_tree v377 v379 v381 g) rfl ?_
          rintro _ _ g383 ⟨rfl, ft382, t382, rfl, ht382, zt382⟩ kt382
          replace kt382 : -2147483648 ≤ t382 ∧ t382 ≤ 2147483647 := kt382
          replace ht382 : -7 ≤ t382 ∧ t382 ≤ 39 := ht382
          replace zt382 : (∀ t : Int, g383 87 t = g 87 t ∨ (1 ≤ g383 87 t ∧ g383 87 t ≤ 500)) ∧ P_X11_tree v377 v379 v381 t382 g g383 := zt382
          have li384 : jLI g383 := ⟨by rw [(ft382 176 0 (by unfold w_X11_tree; omega))]; exact li.1, jLG_tree (ft382 0 0 (by unfold w_X11_tree; omega)) zt382.1 li.2⟩
          have dli384 : g383 176 0 ≤ 2000 := li384.1
          have e386 : jw32 (x3 + 1) = x3 + 1 := j32e (by omega) (by omega)
          refine st_xi (N := E.2.2.2.2.1) (by decide) (by decide) rfl (show 0 ≤ jw32 (x3 + 1) by omega) (show jw32 (x3 + 1) < ((E.2.2.2.2.1 : Nat) : Int) by omega) (fun v387 ev387 => ?_)
          replace ev387 : v387 = jxv E (-2) (jw32 (x3 + 1)) := ev387
          have e388 : jw32 (x3 + 2) = x3 + 2 := j32e (by omega) (by omega)
          refine st_xi (N := E.2.2.2.2.1) (by decide) (by decide) rfl (show 0 ≤ jw32 (x3 + 2) by omega) (show jw32 (x3 + 2) < ((E.2.2.2.2.1 : Nat) : Int) by omega) (fun v389 ev389 => ?_)
          replace ev389 : v389 = jxv E (-2) (jw32 (x3 + 2)) := ev389
          have e390 : jw32 (x3 + 3) = x3 + 3 := j32e (by omega) (by omega)
          refine st_xi (N := E.2.2.2.2.1) (by decide) (by decide) rfl (show 0 ≤ jw32 (x3 + 3) by omega) (show jw32 (x3 + 3) < ((E.2.2.2.2.1 : Nat) : Int) by omega) (fun v391 ev391 => ?_)
          replace ev391 : v391 = jxv E (-2) (jw32 (x3 + 3)) := ev391
          refine st_cv (na := 3) (st := [.inl v391, .inl v389, .inl v387, .inr (.inr (.inl 176))]) jo_176 rfl rfl rfl (c_X12_tree v387 v389 v391 g383) rfl ?_
          rintro _ _ g393 ⟨rfl, ft392, t392, rfl, ht392, zt392⟩ kt392
          replace kt392 : -2147483648 ≤ t392 ∧ t392 ≤ 2147483647 := kt392
          replace ht392 : -7 ≤ t392 ∧ t392 ≤ 39 := ht392
          replace zt392 : P_X12_tree v387 v389 v391 t392 g383 g393 := zt392
          have li394 : jLI g393 := jLI_fr (ft392 176 0 (by unfold w_X12_tree; omega)) (ft392 0 0 (by unfold w_X12_tree; omega)) (fun t => ft392 87 t (by unfold w_X12_tree; omega)) li384
          have dli394 : g393 176 0 ≤ 2000 := li394.1
          rw [show v387 = v377 by omega, show v389 = v379 by omega, show v391 = v381 by omega] at zt392
          have qe396 := pr_tree ft382 ft392 zt382.2 zt392 sm
          have eqe396 := qe396.1
          have sm395 : jI g393 := qe396.2
          clear qe396 zt392
          show jGo E l 179 0 229 _ 1410 [.inr (.inr (.inl (-2))), .inr (.inr (.inl 0)), .inr (.inr (.inl 176)), .inl x3] [] 229 jr0 g393
          refine jGo_blk qL_law_1410 ?_
          have e397 : jw32 (x3 + 6) = x3 + 6 := j32e (by omega) (by omega)
          show jGo E l 179 0 229 _ 18 [.inr (.inr (.inl (-2))), .inr (.inr (.inl 0)), .inr (.inr (.inl 176)), .inl (jw32 (x3 + 6))] [] 229 jr0 g393
          exact ih (jw32 (x3 + 6)) g393 (by omega) li394 sm395 (by omega)
        · replace c6 : jand v4 63 = 20 := c6
          show jGo E l 179 0 229 _ 942 [.inr (.inr (.inl (-2))), .inr (.inr (.inl 0)), .inr (.inr (.inl 176)), .inl x3] [] 229 jr0 g
          refine jGo_blk qL_law_942 ?_
          have e398 : jw32 (x3 + 1) = x3 + 1 := j32e (by omega) (by omega)
          refine st_xi (N := E.2.2.2.2.1) (by decide) (by decide) rfl (show 0 ≤ jw32 (x3 + 1) by omega) (show jw32 (x3 + 1) < ((E.2.2.2.2.1 : Nat) : Int) by omega) (fun v399 ev399 => ?_)
          replace ev399 : v399 = jxv E (-2) (jw32 (x3 + 1)) := ev399
          have e400 : jw32 (x3 + 2) = x3 + 2 := j32e (by omega) (by omega)
          refine st_xi (N := E.2.2.2.2.1) (by decide) (by decide) rfl (show 0 ≤ jw32 (x3 + 2) by omega) (show jw32 (x3 + 2) < ((E.2.2.2.2.1 : Nat) : Int) by omega) (fun v401 ev401 => ?_)
          replace ev401 : v401 = jxv E (-2) (jw32 (x3 + 2)) := ev401
          have e402 : jw32 (x3 + 3) = x3 + 3 := j32e (by omega) (by omega)
          refine st_xi (N := E.2.2.2.2.1) (by decide) (by decide) rfl (show 0 ≤ jw32 (x3 + 3) by omega) (show jw32 (x3 + 3) < ((E.2.2.2.2.1 : Nat) : Int) by omega) (fun v403 ev403 => ?_)
          replace ev403 : v403 = jxv E (-2) (jw32 (x3 + 3)) := ev403
          have e404 : jw32 (x3 + 4) = x3 + 4 := j32e (by omega) (by omega)
          refine st_xi (N := E.2.2.2.2.1) (by decide) (by decide) rfl (show 0 ≤ jw32 (x3 + 4) by omega) (show jw32 (x3 + 4) < ((E.2.2.2.2.1 : Nat) : Int) by omega) (fun v405 ev405 => ?_)
          replace ev405 : v405 = jxv E (-2) (jw32 (x3 + 4)) := ev405
          have e406 : jw32 (x3 + 5) = x3 + 5 := j32e (by omega) (by omega)
          refine st_xi (N := E.2.2.2.2.1) (by decide) (by decide) rfl (show 0 ≤ jw32 (x3 + 5) by omega) (show jw32 (x3 + 5) < ((E.2.2.2.2.1 : Nat) : Int) by omega) (fun v407 ev407 => ?_)
          replace ev407 : v407 = jxv E (-2) (jw32 (x3 + 5)) := ev407
          refine st_cv (na := 5) (st := [.inl v407, .inl v405, .inl v403, .inl v401, .inl v399, .inr (.inr (.inl 0))]) jo_0 rfl rfl rfl (c_X11_part v399 v401 v403 v405 v407 g) rfl ?_
          rintro _ _ g409 ⟨rfl, ft408, t408, rfl, ht408, zt408⟩ kt408
          replace kt408 : -2147483648 ≤ t408 ∧ t408 ≤ 2147483647 := kt408
          replace ht408 : -7 ≤ t408 ∧ t408 ≤ 5 := ht408
          replace zt408 : P_X11_part v399 v401 v403 v405 v407 t408 g g409 := zt408
          have li410 : jLI g409 := jLI_fr (ft408 176 0 (by unfold w_X11_part; omega)) (ft408 0 0 (by unfold w_X11_part; omega)) (fun t => ft408 87 t (by unfold w_X11_part; omega)) li
          have dli410 : g409 176 0 ≤ 2000 := li410.1
          have e412 : jw32 (x3 + 1) = x3 + 1 := j32e (by omega) (by omega)
          refine st_xi (N := E.2.2.2.2.1) (by decide) (by decide) rfl (show 0 ≤ jw32 (x3 + 1) by omega) (show jw32 (x3 + 1) < ((E.2.2.2.2.1 : Nat) : Int) by omega) (fun v413 ev413 => ?_)
          replace ev413 : v413 = jxv E (-2) (jw32 (x3 + 1)) := ev413
          have e414 : jw32 (x3 + 2) = x3 + 2 := j32e (by omega) (by omega)
          refine st_xi (N := E.2.2.2.2.1) (by decide) (by decide) rfl (show 0 ≤ jw32 (x3 + 2) by omega) (show jw32 (x3 + 2) < ((E.2.2.2.2.1 : Nat) : Int) by omega) (fun v415 ev415 => ?_)
          replace ev415 : v415 = jxv E (-2) (jw32 (x3 + 2)) := ev415
          have e416 : jw32 (x3 + 3) = x3 + 3 := j32e (by omega) (by omega)
          refine st_xi (N := E.2.2.2.2.1) (by decide) (by decide) rfl (show 0 ≤ jw32 (x3 + 3) by omega) (show jw32 (x3 + 3) < ((E.2.2.2.2.1 : Nat) : Int) by omega) (fun v417 ev417 => ?_)
          replace ev417 : v417 = jxv E (-2) (jw32 (x3 + 3)) := ev417
          have e418 : jw32 (x3 + 4) = x3 + 4 := j32e (by omega) (by omega)
          refine st_xi (N := E.2.2.2.2.1) (by decide) (by decide) rfl (show 0 ≤ jw32 (x3 + 4) by omega) (show jw32 (x3 + 4) < ((E.2.2.2.2.1 : Nat) : Int) by omega) (fun v419 ev419 => ?_)
          replace ev419 : v419 = jxv E (-2) (jw32 (x3 + 4)) := ev419
          have e420 : jw32 (x3 + 5) = x3 + 5 := j32e (by omega) (by omega)
          refine st_xi (N := E.2.2.2.2.1) (by decide) (by decide) rfl (show 0 ≤ jw32 (x3 + 5) by omega) (show jw32 (x3 + 5) < ((E.2.2.2.2.1 : Nat) : Int) by omega) (fun v421 ev421 => ?_)
          replace ev421 : v421 = jxv E (-2) (jw32 (x3 + 5)) := ev421
          refine st_cv (na := 5) (st := [.inl v421, .inl v419, .inl v417, .inl v415, .inl v413, .inr (.inr (.inl 176))]) jo_176 rfl rfl rfl (c_X12_part v413 v415 v417 v419 v421 g409) rfl ?_
          rintro _ _ g423 ⟨rfl, ft422, t422, rfl, ht422, zt422⟩ kt422
          replace kt422 : -2147483648 ≤ t422 ∧ t422 ≤ 2147483647 := kt422
          replace ht422 : -7 ≤ t422 ∧ t422 ≤ 5 := ht422
          replace zt422 : P_X12_part v413 v415 v417 v419 v421 t422 g409 g423 := zt422
          have li424 : jLI g423 := jLI_fr (ft422 176 0 (by unfold w_X12_part; omega)) (ft422 0 0 (by unfold w_X12_part; omega)) (fun t => ft422 87 t (by unfold w_X12_part; omega)) li410
          have dli424 : g423 176 0 ≤ 2000 := li424.1
          rw [show v413 = v399 by omega, show v415 = v401 by omega, show v417 = v403 by omega, show v419 = v405 by omega, show v421 = v407 by omega] at zt422
          have qe426 := pr_part ft408 ft422 zt408 zt422 sm
          have eqe426 := qe426.1
          have sm425 : jI g423 := qe426.2
          clear qe426 zt422
          show jGo E l 179 0 229 _ 1410 [.inr (.inr (.inl (-2))), .inr (.inr (.inl 0)), .inr (.inr (.inl 176)), .inl x3] [] 229 jr0 g423
          refine jGo_blk qL_law_1410 ?_
          have e427 : jw32 (x3 + 6) = x3 + 6 := j32e (by omega) (by omega)
          show jGo E l 179 0 229 _ 18 [.inr (.inr (.inl (-2))), .inr (.inr (.inl 0)), .inr (.inr (.inl 176)), .inl (jw32 (x3 + 6))] [] 229 jr0 g423
          exact ih (jw32 (x3 + 6)) g423 (by omega) li424 sm425 (by omega)
        · replace c6 : jand v4 63 = 21 := c6
          show jGo E l 179 0 229 _ 1005 [.inr (.inr (.inl (-2))), .inr (.inr (.inl 0)), .inr (.inr (.inl 176)), .inl x3] [] 229 jr0 g
          refine jGo_blk qL_law_1005 ?_
          have e428 : jw32 (x3 + 1) = x3 + 1 := j32e (by omega) (by omega)
          refine st_xi (N := E.2.2.2.2.1) (by decide) (by decide) rfl (show 0 ≤ jw32 (x3 + 1) by omega) (show jw32 (x3 + 1) < ((E.2.2.2.2.1 : Nat) : Int) by omega) (fun v429 ev429 => ?_)
          replace ev429 : v429 = jxv E (-2) (jw32 (x3 + 1)) := ev429
          have e430 : jw32 (x3 + 2) = x3 + 2 := j32e (by omega) (by omega)
          refine st_xi (N := E.2.2.2.2.1) (by decide) (by decide) rfl (show 0 ≤ jw32 (x3 + 2) by omega) (show jw32 (x3 + 2) < ((E.2.2.2.2.1 : Nat) : Int) by omega) (fun v431 ev431 => ?_)
          replace ev431 : v431 = jxv E (-2) (jw32 (x3 + 2)) := ev431
          refine st_cv (na := 2) (st := [.inl v431, .inl v429, .inr (.inr (.inl 0))]) jo_0 rfl rfl rfl (c_X11_match v429 v431 g (jLG_ok li.2)) rfl ?_
          rintro _ _ g433 ⟨rfl, ft432, t432, rfl, ht432, zt432⟩ kt432
          replace kt432 : -2147483648 ≤ t432 ∧ t432 ≤ 2147483647 := kt432
          have li434 : jLI g433 := jLI_fr (ft432 176 0 (by unfold w_X11_match; omega)) (ft432 0 0 (by unfold w_X11_match; omega)) (fun t => ft432 87 t (by unfold w_X11_match; omega)) li
          have dli434 : g433 176 0 ≤ 2000 := li434.1
          have e436 : jw32 (x3 + 1) = x3 + 1 := j32e (by omega) (by omega)
          refine st_xi (N := E.2.2.2.2.1) (by decide) (by decide) rfl (show 0 ≤ jw32 (x3 + 1) by omega) (show jw32 (x3 + 1) < ((E.2.2.2.2.1 : Nat) : Int) by omega) (fun v437 ev437 => ?_)
          replace ev437 : v437 = jxv E (-2) (jw32 (x3 + 1)) := ev437
          have e438 : jw32 (x3 + 2) = x3 + 2 := j32e (by omega) (by omega)
          refine st_xi (N := E.2.2.2.2.1) (by decide) (by decide) rfl (show 0 ≤ jw32 (x3 + 2) by omega) (show jw32 (x3 + 2) < ((E.2.2.2.2.1 : Nat) : Int) by omega) (fun v439 ev439 => ?_)
          replace ev439 : v439 = jxv E (-2) (jw32 (x3 + 2)) := ev439
          refine st_cv (na := 2) (st := [.inl v439, .inl v437, .inr (.inr (.inl 176))]) jo_176 rfl rfl rfl (c_X12_match v437 v439 g433) rfl ?_
          rintro _ _ g441 ⟨rfl, ft440, t440, rfl, ht440, zt440⟩ kt440
          replace kt440 : -2147483648 ≤ t440 ∧ t440 ≤ 2147483647 := kt440
          have li442 : jLI g441 := jLI_fr (ft440 176 0 (by unfold w_X12_match; omega)) (ft440 0 0 (by unfold w_X12_match; omega)) (fun t => ft440 87 t (by unfold w_X12_match; omega)) li434
          have dli442 : g441 176 0 ≤ 2000 := li442.1
          have sm443 : jI g441 := pf_match ft432 ft440 sm
          show jGo E l 179 0 229 _ 1410 [.inr (.inr (.inl (-2))), .inr (.inr (.inl 0)), .inr (.inr (.inl 176)), .inl x3] [] 229 jr0 g441
          refine jGo_blk qL_law_1410 ?_
          have e444 : jw32 (x3 + 6) = x3 + 6 := j32e (by omega) (by omega)
          show jGo E l 179 0 229 _ 18 [.inr (.inr (.inl (-2))), .inr (.inr (.inl 0)), .inr (.inr (.inl 176)), .inl (jw32 (x3 + 6))] [] 229 jr0 g441
          exact ih (jw32 (x3 + 6)) g441 (by omega) li442 sm443 (by omega)
        · replace c6 : jand v4 63 = 22 := c6
          show jGo E l 179 0 229 _ 1038 [.inr (.inr (.inl (-2))), .inr (.inr (.inl 0)), .inr (.inr (.inl 176)), .inl x3] [] 229 jr0 g
          refine jGo_blk qL_law_1038 ?_
          have e445 : jw32 (x3 + 1) = x3 + 1 := j32e (by omega) (by omega)
          refine st_xi (N := E.2.2.2.2.1) (by decide) (by decide) rfl (show 0 ≤ jw32 (x3 + 1) by omega) (show jw32 (x3 + 1) < ((E.2.2.2.2.1 : Nat) : Int) by omega) (fun v446 ev446 => ?_)
          replace ev446 : v446 = jxv E (-2) (jw32 (x3 + 1)) := ev446
          refine st_cv (na := 1) (st := [.inl v446, .inr (.inr (.inl 0))]) jo_0 rfl rfl rfl (c_X11_fell v446 g (jLG_ok li.2)) rfl ?_
          rintro _ _ g448 ⟨rfl, ft447, t447, rfl, ht447, zt447⟩ kt447
          replace kt447 : -2147483648 ≤ t447 ∧ t447 ≤ 2147483647 := kt447
          have li449 : jLI g448 := jLI_fr (ft447 176 0 (by unfold w_X11_fell; omega)) (ft447 0 0 (by unfold w_X11_fell; omega)) (fun t => ft447 87 t (by unfold w_X11_fell; omega)) li
          have dli449 : g448 176 0 ≤ 2000 := li449.1
          have e451 : jw32 (x3 + 1) = x3 + 1 := j32e (by omega) (by omega)
          refine st_xi (N := E.2.2.2.2.1) (by decide) (by decide) rfl (show 0 ≤ jw32 (x3 + 1) by omega) (show jw32 (x3 + 1) < ((E.2.2.2.2.1 : Nat) : Int) by omega) (fun v452 ev452 => ?_)
          replace ev452 : v452 = jxv E (-2) (jw32 (x3 + 1)) := ev452
          refine st_cv (na := 1) (st := [.inl v452, .inr (.inr (.inl 176))]) jo_176 rfl rfl rfl (c_X12_fell v452 g448) rfl ?_
          rintro _ _ g454 ⟨rfl, ft453, t453, rfl, ht453, zt453⟩ kt453
          replace kt453 : -2147483648 ≤ t453 ∧ t453 ≤ 2147483647 := kt453
          have li455 : jLI g454 := jLI_fr (ft453 176 0 (by unfold w_X12_fell; omega)) (ft453 0 0 (by unfold w_X12_fell; omega)) (fun t => ft453 87 t (by unfold w_X12_fell; omega)) li449
          have dli455 : g454 176 0 ≤ 2000 := li455.1
          have sm456 : jI g454 := pf_fell ft447 ft453 sm
          show jGo E l 179 0 229 _ 1410 [.inr (.inr (.inl (-2))), .inr (.inr (.inl 0)), .inr (.inr (.inl 176)), .inl x3] [] 229 jr0 g454
          refine jGo_blk qL_law_1410 ?_
          have e457 : jw32 (x3 + 6) = x3 + 6 := j32e (by omega) (by omega)
          show jGo E l 179 0 229 _ 18 [.inr (.inr (.inl (-2))), .inr (.inr (.inl 0)), .inr (.inr (.inl 176)), .inl (jw32 (x3 + 6))] [] 229 jr0 g454
          exact ih (jw32 (x3 + 6)) g454 (by omega) li455 sm456 (by omega)
        · replace c6 : jand v4 63 = 23 := c6
          show jGo E l 179 0 229 _ 1061 [.inr (.inr (.inl (-2))), .inr (.inr (.inl 0)), .inr (.inr (.inl 176)), .inl x3] [] 229 jr0 g
          refine jGo_blk qL_law_1061 ?_
          have e458 : jw32 (x3 + 1) = x3 + 1 := j32e (by omega) (by omega)
          refine st_xi (N := E.2.2.2.2.1) (by decide) (by decide) rfl (show 0 ≤ jw32 (x3 + 1) by omega) (show jw32 (x3 + 1) < ((E.2.2.2.2.1 : Nat) : Int) by omega) (fun v459 ev459 => ?_)
          replace ev459 : v459 = jxv E (-2) (jw32 (x3 + 1)) := ev459
          have e460 : jw32 (x3 + 2) = x3 + 2 := j32e (by omega) (by omega)
          refine st_xi (N := E.2.2.2.2.1) (by decide) (by decide) rfl (show 0 ≤ jw32 (x3 + 2) by omega) (show jw32 (x3 + 2) < ((E.2.2.2.2.1 : Nat) : Int) by omega) (fun v461 ev461 => ?_)
          replace ev461 : v461 = jxv E (-2) (jw32 (x3 + 2)) := ev461
          refine st_cv (na := 2) (st := [.inl v461, .inl v459, .inr (.inr (.inl 0))]) jo_0 rfl rfl rfl (c_X11_treeFor v459 v461 g) rfl ?_
          rintro _ _ g463 ⟨rfl, ft462, t462, rfl, ht462, zt462⟩ kt462
          replace kt462 : -2147483648 ≤ t462 ∧ t462 ≤ 2147483647 := kt462
          replace ht462 : -9 ≤ t462 ∧ t462 ≤ 39 := ht462
          have li464 : jLI g463 := jLI_fr (ft462 176 0 (by unfold w_X11_treeFor; omega)) (ft462 0 0 (by unfold w_X11_treeFor; omega)) (fun t => ft462 87 t (by unfold w_X11_treeFor; omega)) li
          have dli464 : g463 176 0 ≤ 2000 := li464.1
          have e466 : jw32 (x3 + 1) = x3 + 1 := j32e (by omega) (by omega)
          refine st_xi (N := E.2.2.2.2.1) (by decide) (by decide) rfl (show 0 ≤ jw32 (x3 + 1) by omega) (show jw32 (x3 + 1) < ((E.2.2.2.2.1 : Nat) : Int) by omega) (fun v467 ev467 => ?_)
          replace ev467 : v467 = jxv E (-2) (jw32 (x3 + 1)) := ev467
          have e468 : jw32 (x3 + 2) = x3 + 2 := j32e (by omega) (by omega)
          refine st_xi (N := E.2.2.2.2.1) (by decide) (by decide) rfl (show 0 ≤ jw32 (x3 + 2) by omega) (show jw32 (x3 + 2) < ((E.2.2.2.2.1 : Nat) : Int) by omega) (fun v469 ev469 => ?_)
          replace ev469 : v469 = jxv E (-2) (jw32 (x3 + 2)) := ev469
          refine st_cv (na := 2) (st := [.inl v469, .inl v467, .inr (.inr (.inl 176))]) jo_176 rfl rfl rfl (c_X12_treeFor v467 v469 g463) rfl ?_
          rintro _ _ g471 ⟨rfl, ft470, t470, rfl, ht470, zt470⟩ kt470
          replace kt470 : -2147483648 ≤ t470 ∧ t470 ≤ 2147483647 := kt470
          replace ht470 : -9 ≤ t470 ∧ t470 ≤ 39 := ht470
          have li472 : jLI g471 := jLI_fr (ft470 176 0 (by unfold w_X12_treeFor; omega)) (ft470 0 0 (by unfold w_X12_treeFor; omega)) (fun t => ft470 87 t (by unfold w_X12_treeFor; omega)) li464
          have dli472 : g471 176 0 ≤ 2000 := li472.1
          have sm473 : jI g471 := pf_treeFor ft462 ft470 sm
          show jGo E l 179 0 229 _ 1410 [.inr (.inr (.inl (-2))), .inr (.inr (.inl 0)), .inr (.inr (.inl 176)), .inl x3] [] 229 jr0 g471
          refine jGo_blk qL_law_1410 ?_
          have e474 : jw32 (x3 + 6) = x3 + 6 := j32e (by omega) (by omega)
          show jGo E l 179 0 229 _ 18 [.inr (.inr (.inl (-2))), .inr (.inr (.inl 0)), .inr (.inr (.inl 176)), .inl (jw32 (x3 + 6))] [] 229 jr0 g471
          exact ih (jw32 (x3 + 6)) g471 (by omega) li472 sm473 (by omega)
        · replace c6 : jand v4 63 = 24 := c6
          show jGo E l 179 0 229 _ 1094 [.inr (.inr (.inl (-2))), .inr (.inr (.inl 0)), .inr (.inr (.inl 176)), .inl x3] [] 229 jr0 g
          refine jGo_blk qL_law_1094 ?_
          have e475 : jw32 (x3 + 1) = x3 + 1 := j32e (by omega) (by omega)
          refine st_xi (N := E.2.2.2.2.1) (by decide) (by decide) rfl (show 0 ≤ jw32 (x3 + 1) by omega) (show jw32 (x3 + 1) < ((E.2.2.2.2.1 : Nat) : Int) by omega) (fun v476 ev476 => ?_)
          replace ev476 : v476 = jxv E (-2) (jw32 (x3 + 1)) := ev476
          have e477 : jw32 (x3 + 2) = x3 + 2 := j32e (by omega) (by omega)
          refine st_xi (N := E.2.2.2.2.1) (by decide) (by decide) rfl (show 0 ≤ jw32 (x3 + 2) by omega) (show jw32 (x3 + 2) < ((E.2.2.2.2.1 : Nat) : Int) by omega) (fun v478 ev478 => ?_)
          replace ev478 : v478 = jxv E (-2) (jw32 (x3 + 2)) := ev478
          refine st_cv (na := 2) (st := [.inl v478, .inl v476, .inr (.inr (.inl 0))]) jo_0 rfl rfl rfl (c_X11_treeOf v476 v478 g) rfl ?_
          rintro _ _ g480 ⟨rfl, ft479, t479, rfl, ht479, zt479⟩ kt479
          replace kt479 : -2147483648 ≤ t479 ∧ t479 ≤ 2147483647 := kt479
          have li481 : jLI g480 := jLI_fr (ft479 176 0 (by unfold w_X11_treeOf; omega)) (ft479 0 0 (by unfold w_X11_treeOf; omega)) (fun t => ft479 87 t (by unfold w_X11_treeOf; omega)) li
          have dli481 : g480 176 0 ≤ 2000 := li481.1
          have e483 : jw32 (x3 + 1) = x3 + 1 := j32e (by omega) (by omega)
          refine st_xi (N := E.2.2.2.2.1) (by decide) (by decide) rfl (show 0 ≤ jw32 (x3 + 1) by omega) (show jw32 (x3 + 1) < ((E.2.2.2.2.1 : Nat) : Int) by omega) (fun v484 ev484 => ?_)
          replace ev484 : v484 = jxv E (-2) (jw32 (x3 + 1)) := ev484
          have e485 : jw32 (x3 + 2) = x3 + 2 := j32e (by omega) (by omega)
          refine st_xi (N := E.2.2.2.2.1) (by decide) (by decide) rfl (show 0 ≤ jw32 (x3 + 2) by omega) (show jw32 (x3 + 2) < ((E.2.2.2.2.1 : Nat) : Int) by omega) (fun v486 ev486 => ?_)
          replace ev486 : v486 = jxv E (-2) (jw32 (x3 + 2)) := ev486
          refine st_cv (na := 2) (st := [.inl v486, .inl v484, .inr (.inr (.inl 176))]) jo_176 rfl rfl rfl (c_X12_treeOf v484 v486 g480) rfl ?_
          rintro _ _ g488 ⟨rfl, ft487, t487, rfl, ht487, zt487⟩ kt487
          replace kt487 : -2147483648 ≤ t487 ∧ t487 ≤ 2147483647 := kt487
          have li489 : jLI g488 := jLI_fr (ft487 176 0 (by unfold w_X12_treeOf; omega)) (ft487 0 0 (by unfold w_X12_treeOf; omega)) (fun t => ft487 87 t (by unfold w_X12_treeOf; omega)) li481
          have dli489 : g488 176 0 ≤ 2000 := li489.1
          have sm490 : jI g488 := pf_treeOf ft479 ft487 sm
          show jGo E l 179 0 229 _ 1410 [.inr (.inr (.inl (-2))), .inr (.inr (.inl 0)), .inr (.inr (.inl 176)), .inl x3] [] 229 jr0 g488
          refine jGo_blk qL_law_1410 ?_
          have e491 : jw32 (x3 + 6) = x3 + 6 := j32e (by omega) (by omega)
          show jGo E l 179 0 229 _ 18 [.inr (.inr (.inl (-2))), .inr (.inr (.inl 0)), .inr (.inr (.inl 176)), .inl (jw32 (x3 + 6))] [] 229 jr0 g488
          exact ih (jw32 (x3 + 6)) g488 (by omega) li489 sm490 (by omega)
        · replace c6 : jand v4 63 = 25 := c6
          show jGo E l 179 0 229 _ 1127 [.inr (.inr (.inl (-2))), .inr (.inr (.inl 0)), .inr (.inr (.inl 176)), .inl x3] [] 229 jr0 g
          refine jGo_blk qL_law_1127 ?_
          have e492 : jw32 (x3 + 1) = x3 + 1 := j32e (by omega) (by omega)
          refine st_xi (N := E.2.2.2.2.1) (by decide) (by decide) rfl (show 0 ≤ jw32 (x3 + 1) by omega) (show jw32 (x3 + 1) < ((E.2.2.2.2.1 : Nat) : Int) by omega) (fun v493 ev493 => ?_)
          replace ev493 : v493 = jxv E (-2) (jw32 (x3 + 1)) := ev493
          have e494 : jw32 (x3 + 2) = x3 + 2 := j32e (by omega) (by omega)
          refine st_xi (N := E.2.2.2.2.1) (by decide) (by decide) rfl (show 0 ≤ jw32 (x3 + 2) by omega) (show jw32 (x3 + 2) < ((E.2.2.2.2.1 : Nat) : Int) by omega) (fun v495 ev495 => ?_)
          replace ev495 : v495 = jxv E (-2) (jw32 (x3 + 2)) := ev495
          refine st_cv (na := 2) (st := [.inl v495, .inl v493, .inr (.inr (.inl 0))]) jo_0 rfl rfl rfl (c_X11_count v493 v495 g) rfl ?_
          rintro _ _ g497 ⟨rfl, ft496, t496, rfl, ht496, zt496⟩ kt496
          replace kt496 : -2147483648 ≤ t496 ∧ t496 ≤ 2147483647 := kt496
          have li498 : jLI g497 := jLI_fr (ft496 176 0 (by unfold w_X11_count; omega)) (ft496 0 0 (by unfold w_X11_count; omega)) (fun t => ft496 87 t (by unfold w_X11_count; omega)) li
          have dli498 : g497 176 0 ≤ 2000 := li498.1
          have e500 : jw32 (x3 + 1) = x3 + 1 := j32e (by omega) (by omega)
          refine st_xi (N := E.2.2.2.2.1) (by decide) (by decide) rfl (show 0 ≤ jw32 (x3 + 1) by omega) (show jw32 (x3 + 1) < ((E.2.2.2.2.1 : Nat) : Int) by omega) (fun v501 ev501 => ?_)
          replace ev501 : v501 = jxv E (-2) (jw32 (x3 + 1)) := ev501
          have e502 : jw32 (x3 + 2) = x3 + 2 := j32e (by omega) (by omega)
          refine st_xi (N := E.2.2.2.2.1) (by decide) (by decide) rfl (show 0 ≤ jw32 (x3 + 2) by omega) (show jw32 (x3 + 2) < ((E.2.2.2.2.1 : Nat) : Int) by omega) (fun v503 ev503 => ?_)
          replace ev503 : v503 = jxv E (-2) (jw32 (x3 + 2)) := ev503
          have e504 : g497 176 0 = g 176 0 := ft496 176 0 (by unfold w_X11_count; omega)
          refine st_cv (na := 2) (st := [.inl v503, .inl v501, .inr (.inr (.inl 176))]) jo_176 rfl rfl rfl (c_X12_count v501 v503 g497 (by omega)) rfl ?_
          rintro _ _ g506 ⟨rfl, ft505, t505, rfl, ht505, zt505⟩ kt505
          replace kt505 : -2147483648 ≤ t505 ∧ t505 ≤ 2147483647 := kt505
          have li507 : jLI g506 := jLI_fr (ft505 176 0 (by unfold w_X12_count; omega)) (ft505 0 0 (by unfold w_X12_count; omega)) (fun t => ft505 87 t (by unfold w_X12_count; omega)) li498
          have dli507 : g506 176 0 ≤ 2000 := li507.1
          have sm508 : jI g506 := pf_count ft496 ft505 sm
          show jGo E l 179 0 229 _ 1410 [.inr (.inr (.inl (-2))), .inr (.inr (.inl 0)), .inr (.inr (.inl 176)), .inl x3] [] 229 jr0 g506
          refine jGo_blk qL_law_1410 ?_
          have e509 : jw32 (x3 + 6) = x3 + 6 := j32e (by omega) (by omega)
          show jGo E l 179 0 229 _ 18 [.inr (.inr (.inl (-2))), .inr (.inr (.inl 0)), .inr (.inr (.inl 176)), .inl (jw32 (x3 + 6))] [] 229 jr0 g506
          exact ih (jw32 (x3 + 6)) g506 (by omega) li507 sm508 (by omega)
        · replace c6 : jand v4 63 = 26 := c6
          show jGo E l 179 0 229 _ 1160 [.inr (.inr (.inl (-2))), .inr (.inr (.inl 0)), .inr (.inr (.inl 176)), .inl x3] [] 229 jr0 g
          refine jGo_blk qL_law_1160 ?_
          have e510 : jw32 (x3 + 1) = x3 + 1 := j32e (by omega) (by omega)
          refine st_xi (N := E.2.2.2.2.1) (by decide) (by decide) rfl (show 0 ≤ jw32 (x3 + 1) by omega) (show jw32 (x3 + 1) < ((E.2.2.2.2.1 : Nat) : Int) by omega) (fun v511 ev511 => ?_)
          replace ev511 : v511 = jxv E (-2) (jw32 (x3 + 1)) := ev511
          have e512 : jw32 (x3 + 2) = x3 + 2 := j32e (by omega) (by omega)
          refine st_xi (N := E.2.2.2.2.1) (by decide) (by decide) rfl (show 0 ≤ jw32 (x3 + 2) by omega) (show jw32 (x3 + 2) < ((E.2.2.2.2.1 : Nat) : Int) by omega) (fun v513 ev513 => ?_)
          replace ev513 : v513 = jxv E (-2) (jw32 (x3 + 2)) := ev513
          refine st_cv (na := 2) (st := [.inl v513, .inl v511, .inr (.inr (.inl 0))]) jo_0 rfl rfl rfl (c_X11_gap v511 v513 g) rfl ?_
          rintro _ _ g515 ⟨rfl, ft514, t514, rfl, ht514, zt514⟩ kt514
          replace kt514 : -2147483648 ≤ t514 ∧ t514 ≤ 2147483647 := kt514
          have li516 : jLI g515 := jLI_fr (ft514 176 0 (by unfold w_X11_gap; omega)) (ft514 0 0 (by unfold w_X11_gap; omega)) (fun t => ft514 87 t (by unfold w_X11_gap; omega)) li
          have dli516 : g515 176 0 ≤ 2000 := li516.1
          have e518 : jw32 (x3 + 1) = x3 + 1 := j32e (by omega) (by omega)
          refine st_xi (N := E.2.2.2.2.1) (by decide) (by decide) rfl (show 0 ≤ jw32 (x3 + 1) by omega) (show jw32 (x3 + 1) < ((E.2.2.2.2.1 : Nat) : Int) by omega) (fun v519 ev519 => ?_)
          replace ev519 : v519 = jxv E (-2) (jw32 (x3 + 1)) := ev519
          have e520 : jw32 (x3 + 2) = x3 + 2 := j32e (by omega) (by omega)
          refine st_xi (N := E.2.2.2.2.1) (by decide) (by decide) rfl (show 0 ≤ jw32 (x3 + 2) by omega) (show jw32 (x3 + 2) < ((E.2.2.2.2.1 : Nat) : Int) by omega) (fun v521 ev521 => ?_)
          replace ev521 : v521 = jxv E (-2) (jw32 (x3 + 2)) := ev521
          refine st_cv (na := 2) (st := [.inl v521, .inl v519, .inr (.inr (.inl 176))]) jo_176 rfl rfl rfl (c_X12_gap v519 v521 g515) rfl ?_
          rintro _ _ g523 ⟨rfl, ft522, t522, rfl, ht522, zt522⟩ kt522
          replace kt522 : -2147483648 ≤ t522 ∧ t522 ≤ 2147483647 := kt522
          have li524 : jLI g523 := jLI_fr (ft522 176 0 (by unfold w_X12_gap; omega)) (ft522 0 0 (by unfold w_X12_gap; omega)) (fun t => ft522 87 t (by unfold w_X12_gap; omega)) li516
          have dli524 : g523 176 0 ≤ 2000 := li524.1
          have sm525 : jI g523 := pf_gap ft514 ft522 sm
          show jGo E l 179 0 229 _ 1410 [.inr (.inr (.inl (-2))), .inr (.inr (.inl 0)), .inr (.inr (.inl 176)), .inl x3] [] 229 jr0 g523
          refine jGo_blk qL_law_1410 ?_
          have e526 : jw32 (x3 + 6) = x3 + 6 := j32e (by omega) (by omega)
          show jGo E l 179 0 229 _ 18 [.inr (.inr (.inl (-2))), .inr (.inr (.inl 0)), .inr (.inr (.inl 176)), .inl (jw32 (x3 + 6))] [] 229 jr0 g523
          exact ih (jw32 (x3 + 6)) g523 (by omega) li524 sm525 (by omega)
        · replace c6 : jand v4 63 = 27 := c6
          show jGo E l 179 0 229 _ 1193 [.inr (.inr (.inl (-2))), .inr (.inr (.inl 0)), .inr (.inr (.inl 176)), .inl x3] [] 229 jr0 g
          refine jGo_blk qL_law_1193 ?_
          have e527 : jw32 (x3 + 1) = x3 + 1 := j32e (by omega) (by omega)
          refine st_xi (N := E.2.2.2.2.1) (by decide) (by decide) rfl (show 0 ≤ jw32 (x3 + 1) by omega) (show jw32 (x3 + 1) < ((E.2.2.2.2.1 : Nat) : Int) by omega) (fun v528 ev528 => ?_)
          replace ev528 : v528 = jxv E (-2) (jw32 (x3 + 1)) := ev528
          refine st_cv (na := 1) (st := [.inl v528, .inr (.inr (.inl 0))]) jo_0 rfl rfl rfl (c_X11_worst v528 g) rfl ?_
          rintro _ _ g530 ⟨rfl, ft529, t529, rfl, ht529, zt529⟩ kt529
          replace kt529 : -2147483648 ≤ t529 ∧ t529 ≤ 2147483647 := kt529
          replace ht529 : -9 ≤ t529 ∧ t529 ≤ 39 := ht529
          have li531 : jLI g530 := jLI_fr (ft529 176 0 (by unfold w_X11_worst; omega)) (ft529 0 0 (by unfold w_X11_worst; omega)) (fun t => ft529 87 t (by unfold w_X11_worst; omega)) li
          have dli531 : g530 176 0 ≤ 2000 := li531.1
          have e533 : jw32 (x3 + 1) = x3 + 1 := j32e (by omega) (by omega)
          refine st_xi (N := E.2.2.2.2.1) (by decide) (by decide) rfl (show 0 ≤ jw32 (x3 + 1) by omega) (show jw32 (x3 + 1) < ((E.2.2.2.2.1 : Nat) : Int) by omega) (fun v534 ev534 => ?_)
          replace ev534 : v534 = jxv E (-2) (jw32 (x3 + 1)) := ev534
          refine st_cv (na := 1) (st := [.inl v534, .inr (.inr (.inl 176))]) jo_176 rfl rfl rfl (c_X12_worst v534 g530) rfl ?_
          rintro _ _ g536 ⟨rfl, ft535, t535, rfl, ht535, zt535⟩ kt535
          replace kt535 : -2147483648 ≤ t535 ∧ t535 ≤ 2147483647 := kt535
          replace ht535 : -9 ≤ t535 ∧ t535 ≤ 39 := ht535
          have li537 : jLI g536 := jLI_fr (ft535 176 0 (by unfold w_X12_worst; omega)) (ft535 0 0 (by unfold w_X12_worst; omega)) (fun t => ft535 87 t (by unfold w_X12_worst; omega)) li531
          have dli537 : g536 176 0 ≤ 2000 := li537.1
          have sm538 : jI g536 := pf_worst ft529 ft535 sm
          show jGo E l 179 0 229 _ 1410 [.inr (.inr (.inl (-2))), .inr (.inr (.inl 0)), .inr (.inr (.inl 176)), .inl x3] [] 229 jr0 g536
          refine jGo_blk qL_law_1410 ?_
          have e539 : jw32 (x3 + 6) = x3 + 6 := j32e (by omega) (by omega)
          show jGo E l 179 0 229 _ 18 [.inr (.inr (.inl (-2))), .inr (.inr (.inl 0)), .inr (.inr (.inl 176)), .inl (jw32 (x3 + 6))] [] 229 jr0 g536
          exact ih (jw32 (x3 + 6)) g536 (by omega) li537 sm538 (by omega)
        · replace c6 : jand v4 63 = 28 := c6
          show jGo E l 179 0 229 _ 1216 [.inr (.inr (.inl (-2))), .inr (.inr (.inl 0)), .inr (.inr (.inl 176)), .inl x3] [] 229 jr0 g
          refine jGo_blk qL_law_1216 ?_
          have e540 : jw32 (x3 + 1) = x3 + 1 := j32e (by omega) (by omega)
          refine st_xi (N := E.2.2.2.2.1) (by decide) (by decide) rfl (show 0 ≤ jw32 (x3 + 1) by omega) (show jw32 (x3 + 1) < ((E.2.2.2.2.1 : Nat) : Int) by omega) (fun v541 ev541 => ?_)
          replace ev541 : v541 = jxv E (-2) (jw32 (x3 + 1)) := ev541
          refine st_cv (na := 1) (st := [.inl v541, .inr (.inr (.inl 0))]) jo_0 rfl rfl rfl (c_X11_ready v541 g) rfl ?_
          rintro _ _ g543 ⟨rfl, ft542, t542, rfl, ht542, zt542⟩ kt542
          replace kt542 : -2147483648 ≤ t542 ∧ t542 ≤ 2147483647 := kt542
          have li544 : jLI g543 := jLI_fr (ft542 176 0 (by unfold w_X11_ready; omega)) (ft542 0 0 (by unfold w_X11_ready; omega)) (fun t => ft542 87 t (by unfold w_X11_ready; omega)) li
          have dli544 : g543 176 0 ≤ 2000 := li544.1
          have e546 : jw32 (x3 + 1) = x3 + 1 := j32e (by omega) (by omega)
          refine st_xi (N := E.2.2.2.2.1) (by decide) (by decide) rfl (show 0 ≤ jw32 (x3 + 1) by omega) (show jw32 (x3 + 1) < ((E.2.2.2.2.1 : Nat) : Int) by omega) (fun v547 ev547 => ?_)
          replace ev547 : v547 = jxv E (-2) (jw32 (x3 + 1)) := ev547
          have e548 : g543 176 0 = g 176 0 := ft542 176 0 (by unfold w_X11_ready; omega)
          refine st_cv (na := 1) (st := [.inl v547, .inr (.inr (.inl 176))]) jo_176 rfl rfl rfl (c_X12_ready v547 g543 (by omega)) rfl ?_
          rintro _ _ g550 ⟨rfl, ft549, t549, rfl, ht549, zt549⟩ kt549
          replace kt549 : -2147483648 ≤ t549 ∧ t549 ≤ 2147483647 := kt549
          replace zt549 : g550 176 0 = g543 176 0 := zt549
          have li551 : jLI g550 := ⟨by rw [show g550 176 0 = g543 176 0 from zt549]; exact li544.1, jLG_fr (ft549 0 0 (by unfold w_X12_ready; omega)) (fun t => ft549 87 t (by unfold w_X12_ready; omega)) li544.2⟩
          have dli551 : g550 176 0 ≤ 2000 := li551.1
          have sm552 : jI g550 := pf_ready ft542 ft549 zt549 sm
          show jGo E l 179 0 229 _ 1410 [.inr (.inr (.inl (-2))), .inr (.inr (.inl 0)), .inr (.inr (.inl 176)), .inl x3] [] 229 jr0 g550
          refine jGo_blk qL_law_1410 ?_
          have e553 : jw32 (x3 + 6) = x3 + 6 := j32e (by omega) (by omega)
          show jGo E l 179 0 229 _ 18 [.inr (.inr (.inl (-2))), .inr (.inr (.inl 0)), .inr (.inr (.inl 176)), .inl (jw32 (x3 + 6))] [] 229 jr0 g550
          exact ih (jw32 (x3 + 6)) g550 (by omega) li551 sm552 (by omega)
        · replace c6 : jand v4 63 = 29 := c6
          show jGo E l 179 0 229 _ 1239 [.inr (.inr (.inl (-2))), .inr (.inr (.inl 0)), .inr (.inr (.inl 176)), .inl x3] [] 229 jr0 g
          refine jGo_blk qL_law_1239 ?_
          have e554 : jw32 (x3 + 1) = x3 + 1 := j32e (by omega) (by omega)
          refine st_xi (N := E.2.2.2.2.1) (by decide) (by decide) rfl (show 0 ≤ jw32 (x3 + 1) by omega) (show jw32 (x3 + 1) < ((E.2.2.2.2.1 : Nat) : Int) by omega) (fun v555 ev555 => ?_)
          replace ev555 : v555 = jxv E (-2) (jw32 (x3 + 1)) := ev555
          refine st_cv (na := 1) (st := [.inl v555, .inr (.inr (.inl 0))]) jo_0 rfl rfl rfl (c_X11_late v555 g) rfl ?_
          rintro _ _ g557 ⟨rfl, ft556, t556, rfl, ht556, zt556⟩ kt556
          replace kt556 : -2147483648 ≤ t556 ∧ t556 ≤ 2147483647 := kt556
          have li558 : jLI g557 := jLI_fr (ft556 176 0 (by unfold w_X11_late; omega)) (ft556 0 0 (by unfold w_X11_late; omega)) (fun t => ft556 87 t (by unfold w_X11_late; omega)) li
          have dli558 : g557 176 0 ≤ 2000 := li558.1
          have e560 : jw32 (x3 + 1) = x3 + 1 := j32e (by omega) (by omega)
          refine st_xi (N := E.2.2.2.2.1) (by decide) (by decide) rfl (show 0 ≤ jw32 (x3 + 1) by omega) (show jw32 (x3 + 1) < ((E.2.2.2.2.1 : Nat) : Int) by omega) (fun v561 ev561 => ?_)
          replace ev561 : v561 = jxv E (-2) (jw32 (x3 + 1)) := ev561
          have e562 : g557 176 0 = g 176 0 := ft556 176 0 (by unfold w_X11_late; omega)
          refine st_cv (na := 1) (st := [.inl v561, .inr (.inr (.inl 176))]) jo_176 rfl rfl rfl (c_X12_late v561 g557 (by omega)) rfl ?_
          rintro _ _ g564 ⟨rfl, ft563, t563, rfl, ht563, zt563⟩ kt563
          replace kt563 : -2147483648 ≤ t563 ∧ t563 ≤ 2147483647 := kt563
          replace zt563 : g564 176 0 = g557 176 0 := zt563
          have li565 : jLI g564 := ⟨by rw [show g564 176 0 = g557 176 0 from zt563]; exact li558.1, jLG_fr (ft563 0 0 (by unfold w_X12_late; omega)) (fun t => ft563 87 t (by unfold w_X12_late; omega)) li558.2⟩
          have dli565 : g564 176 0 ≤ 2000 := li565.1
          have sm566 : jI g564 := pf_late ft556 ft563 zt563 sm
          show jGo E l 179 0 229 _ 1410 [.inr (.inr (.inl (-2))), .inr (.inr (.inl 0)), .inr (.inr (.inl 176)), .inl x3] [] 229 jr0 g564
          refine jGo_blk qL_law_1410 ?_
          have e567 : jw32 (x3 + 6) = x3 + 6 := j32e (by omega) (by omega)
          show jGo E l 179 0 229 _ 18 [.inr (.inr (.inl (-2))), .inr (.inr (.inl 0)), .inr (.inr (.inl 176)), .inl (jw32 (x3 + 6))] [] 229 jr0 g564
          exact ih (jw32 (x3 + 6)) g564 (by omega) li565 sm566 (by omega)
        · replace c6 : jand v4 63 = 30 := c6
          show jGo E l 179 0 229 _ 1262 [.inr (.inr (.inl (-2))), .inr (.inr (.inl 0)), .inr (.inr (.inl 176)), .inl x3] [] 229 jr0 g
          refine jGo_blk qL_law_1262 ?_
          refine st_cv (na := 0) (st := [.inr (.inr (.inl 0))]) jo_0 rfl rfl rfl (c_X11_least g) rfl ?_
          rintro _ _ g569 ⟨rfl, ft568, t568, rfl, ht568, zt568⟩ kt568
          replace kt568 : -2147483648 ≤ t568 ∧ t568 ≤ 2147483647 := kt568
          have li570 : jLI g569 := jLI_fr (ft568 176 0 (by unfold w_X11_least; omega)) (ft568 0 0 (by unfold w_X11_least; omega)) (fun t => ft568 87 t (by unfold w_X11_least; omega)) li
          have dli570 : g569 176 0 ≤ 2000 := li570.1
          have e572 : g569 176 0 = g 176 0 := ft568 176 0 (by unfold w_X11_least; omega)
          refine st_cv (na := 0) (st := [.inr (.inr (.inl 176))]) jo_176 rfl rfl rfl (c_X12_least g569 (by omega)) rfl ?_
          rintro _ _ g574 ⟨rfl, ft573, t573, rfl, ht573, zt573⟩ kt573
          replace kt573 : -2147483648 ≤ t573 ∧ t573 ≤ 2147483647 := kt573
          replace zt573 : g574 176 0 = g569 176 0 := zt573
          have li575 : jLI g574 := ⟨by rw [show g574 176 0 = g569 176 0 from zt573]; exact li570.1, jLG_fr (ft573 0 0 (by unfold w_X12_least; omega)) (fun t => ft573 87 t (by unfold w_X12_least; omega)) li570.2⟩
          have dli575 : g574 176 0 ≤ 2000 := li575.1
          have sm576 : jI g574 := pf_least ft568 ft573 zt573 sm
          show jGo E l 179 0 229 _ 1410 [.inr (.inr (.inl (-2))), .inr (.inr (.inl 0)), .inr (.inr (.inl 176)), .inl x3] [] 229 jr0 g574
          refine jGo_blk qL_law_1410 ?_
          have e577 : jw32 (x3 + 6) = x3 + 6 := j32e (by omega) (by omega)
          show jGo E l 179 0 229 _ 18 [.inr (.inr (.inl (-2))), .inr (.inr (.inl 0)), .inr (.inr (.inl 176)), .inl (jw32 (x3 + 6))] [] 229 jr0 g574
          exact ih (jw32 (x3 + 6)) g574 (by omega) li575 sm576 (by omega)
        · replace c6 : jand v4 63 = 31 := c6
          show jGo E l 179 0 229 _ 1275 [.inr (.inr (.inl (-2))), .inr (.inr (.inl 0)), .inr (.inr (.inl 176)), .inl x3] [] 229 jr0 g
          refine jGo_blk qL_law_1275 ?_
          have e578 : jw32 (x3 + 1) = x3 + 1 := j32e (by omega) (by omega)
          refine st_xi (N := E.2.2.2.2.1) (by decide) (by decide) rfl (show 0 ≤ jw32 (x3 + 1) by omega) (show jw32 (x3 + 1) < ((E.2.2.2.2.1 : Nat) : Int) by omega) (fun v579 ev579 => ?_)
          replace ev579 : v579 = jxv E (-2) (jw32 (x3 + 1)) := ev579
          refine st_cv (na := 1) (st := [.inl v579, .inr (.inr (.inl 0))]) jo_0 rfl rfl rfl (c_X11_order v579 g) rfl ?_
          rintro _ _ g581 ⟨rfl, ft580, t580, rfl, ht580, zt580⟩ kt580
          replace kt580 : -2147483648 ≤ t580 ∧ t580 ≤ 2147483647 := kt580
          replace ht580 : -9 ≤ t580 ∧ t580 ≤ 15 := ht580
          have li582 : jLI g581 := jLI_fr (ft580 176 0 (by unfold w_X11_order; omega)) (ft580 0 0 (by unfold w_X11_order; omega)) (fun t => ft580 87 t (by unfold w_X11_order; omega)) li
          have dli582 : g581 176 0 ≤ 2000 := li582.1
          have e584 : jw32 (x3 + 1) = x3 + 1 := j32e (by omega) (by omega)
          refine st_xi (N := E.2.2.2.2.1) (by decide) (by decide) rfl (show 0 ≤ jw32 (x3 + 1) by omega) (show jw32 (x3 + 1) < ((E.2.2.2.2.1 : Nat) : Int) by omega) (fun v585 ev585 => ?_)
          replace ev585 : v585 = jxv E (-2) (jw32 (x3 + 1)) := ev585
          have e586 : g581 176 0 = g 176 0 := ft580 176 0 (by unfold w_X11_order; omega)
          refine st_cv (na := 1) (st := [.inl v585, .inr (.inr (.inl 176))]) jo_176 rfl rfl rfl (c_X12_order v585 g581 (by omega)) rfl ?_
          rintro _ _ g588 ⟨rfl, ft587, t587, rfl, ht587, zt587⟩ kt587
          replace kt587 : -2147483648 ≤ t587 ∧ t587 ≤ 2147483647 := kt587
          replace ht587 : -9 ≤ t587 ∧ t587 ≤ 15 := ht587
          replace zt587 : g588 176 0 = g581 176 0 := zt587
          have li589 : jLI g588 := ⟨by rw [show g588 176 0 = g581 176 0 from zt587]; exact li582.1, jLG_fr (ft587 0 0 (by unfold w_X12_order; omega)) (fun t => ft587 87 t (by unfold w_X12_order; omega)) li582.2⟩
          have dli589 : g588 176 0 ≤ 2000 := li589.1
          have sm590 : jI g588 := pf_order ft580 ft587 zt587 sm
          show jGo E l 179 0 229 _ 1410 [.inr (.inr (.inl (-2))), .inr (.inr (.inl 0)), .inr (.inr (.inl 176)), .inl x3] [] 229 jr0 g588
          refine jGo_blk qL_law_1410 ?_
          have e591 : jw32 (x3 + 6) = x3 + 6 := j32e (by omega) (by omega)
          show jGo E l 179 0 229 _ 18 [.inr (.inr (.inl (-2))), .inr (.inr (.inl 0)), .inr (.inr (.inl 176)), .inl (jw32 (x3 + 6))] [] 229 jr0 g588
          exact ih (jw32 (x3 + 6)) g588 (by omega) li589 sm590 (by omega)
        · replace c6 : jand v4 63 = 32 := c6
          show jGo E l 179 0 229 _ 1298 [.inr (.inr (.inl (-2))), .inr (.inr (.inl 0)), .inr (.inr (.inl 176)), .inl x3] [] 229 jr0 g
          refine jGo_blk qL_law_1298 ?_
          have e592 : jw32 (x3 + 1) = x3 + 1 := j32e (by omega) (by omega)
          refine st_xi (N := E.2.2.2.2.1) (by decide) (by decide) rfl (show 0 ≤ jw32 (x3 + 1) by omega) (show jw32 (x3 + 1) < ((E.2.2.2.2.1 : Nat) : Int) by omega) (fun v593 ev593 => ?_)
          replace ev593 : v593 = jxv E (-2) (jw32 (x3 + 1)) := ev593
          have e594 : jw32 (x3 + 2) = x3 + 2 := j32e (by omega) (by omega)
          refine st_xi (N := E.2.2.2.2.1) (by decide) (by decide) rfl (show 0 ≤ jw32 (x3 + 2) by omega) (show jw32 (x3 + 2) < ((E.2.2.2.2.1 : Nat) : Int) by omega) (fun v595 ev595 => ?_)
          replace ev595 : v595 = jxv E (-2) (jw32 (x3 + 2)) := ev595
          refine st_cv (na := 2) (st := [.inl v595, .inl v593, .inr (.inr (.inl 0))]) jo_0 rfl rfl rfl (c_X11_hullOf v593 v595 g) rfl ?_
          rintro _ _ g597 ⟨rfl, ft596, t596, rfl, ht596, zt596⟩ kt596
          replace kt596 : -2147483648 ≤ t596 ∧ t596 ≤ 2147483647 := kt596
          have li598 : jLI g597 := jLI_fr (ft596 176 0 (by unfold w_X11_hullOf; omega)) (ft596 0 0 (by unfold w_X11_hullOf; omega)) (fun t => ft596 87 t (by unfold w_X11_hullOf; omega)) li
          have dli598 : g597 176 0 ≤ 2000 := li598.1
          have e600 : jw32 (x3 + 1) = x3 + 1 := j32e (by omega) (by omega)
          refine st_xi (N := E.2.2.2.2.1) (by decide) (by decide) rfl (show 0 ≤ jw32 (x3 + 1) by omega) (show jw32 (x3 + 1) < ((E.2.2.2.2.1 : Nat) : Int) by omega) (fun v601 ev601 => ?_)
          replace ev601 : v601 = jxv E (-2) (jw32 (x3 + 1)) := ev601
          have e602 : jw32 (x3 + 2) = x3 + 2 := j32e (by omega) (by omega)
          refine st_xi (N := E.2.2.2.2.1) (by decide) (by decide) rfl (show 0 ≤ jw32 (x3 + 2) by omega) (show jw32 (x3 + 2) < ((E.2.2.2.2.1 : Nat) : Int) by omega) (fun v603 ev603 => ?_)
          replace ev603 : v603 = jxv E (-2) (jw32 (x3 + 2)) := ev603
          refine st_cv (na := 2) (st := [.inl v603, .inl v601, .inr (.inr (.inl 176))]) jo_176 rfl rfl rfl (c_X12_hullOf v601 v603 g597) rfl ?_
          rintro _ _ g605 ⟨rfl, ft604, t604, rfl, ht604, zt604⟩ kt604
          replace kt604 : -2147483648 ≤ t604 ∧ t604 ≤ 2147483647 := kt604
          have li606 : jLI g605 := jLI_fr (ft604 176 0 (by unfold w_X12_hullOf; omega)) (ft604 0 0 (by unfold w_X12_hullOf; omega)) (fun t => ft604 87 t (by unfold w_X12_hullOf; omega)) li598
          have dli606 : g605 176 0 ≤ 2000 := li606.1
          have sm607 : jI g605 := pf_hullOf ft596 ft604 sm
          show jGo E l 179 0 229 _ 1410 [.inr (.inr (.inl (-2))), .inr (.inr (.inl 0)), .inr (.inr (.inl 176)), .inl x3] [] 229 jr0 g605
          refine jGo_blk qL_law_1410 ?_
          have e608 : jw32 (x3 + 6) = x3 + 6 := j32e (by omega) (by omega)
          show jGo E l 179 0 229 _ 18 [.inr (.inr (.inl (-2))), .inr (.inr (.inl 0)), .inr (.inr (.inl 176)), .inl (jw32 (x3 + 6))] [] 229 jr0 g605
          exact ih (jw32 (x3 + 6)) g605 (by omega) li606 sm607 (by omega)
        · replace c6 : jand v4 63 = 33 := c6
          show jGo E l 179 0 229 _ 1331 [.inr (.inr (.inl (-2))), .inr (.inr (.inl 0)), .inr (.inr (.inl 176)), .inl x3] [] 229 jr0 g
          refine jGo_blk qL_law_1331 ?_
          have e609 : jw32 (x3 + 1) = x3 + 1 := j32e (by omega) (by omega)
          refine st_xi (N := E.2.2.2.2.1) (by decide) (by decide) rfl (show 0 ≤ jw32 (x3 + 1) by omega) (show jw32 (x3 + 1) < ((E.2.2.2.2.1 : Nat) : Int) by omega) (fun v610 ev610 => ?_)
          replace ev610 : v610 = jxv E (-2) (jw32 (x3 + 1)) := ev610
          have e611 : jw32 (x3 + 2) = x3 + 2 := j32e (by omega) (by omega)
          refine st_xi (N := E.2.2.2.2.1) (by decide) (by decide) rfl (show 0 ≤ jw32 (x3 + 2) by omega) (show jw32 (x3 + 2) < ((E.2.2.2.2.1 : Nat) : Int) by omega) (fun v612 ev612 => ?_)
          replace ev612 : v612 = jxv E (-2) (jw32 (x3 + 2)) := ev612
          refine st_cv (na := 2) (st := [.inl v612, .inl v610, .inr (.inr (.inl 0))]) jo_0 rfl rfl rfl (c_X11_basinOf v610 v612 g) rfl ?_
          rintro _ _ g614 ⟨rfl, ft613, t613, rfl, ht613, zt613⟩ kt613
          replace kt613 : -2147483648 ≤ t613 ∧ t613 ≤ 2147483647 := kt613
          have li615 : jLI g614 := jLI_fr (ft613 176 0 (by unfold w_X11_basinOf; omega)) (ft613 0 0 (by unfold w_X11_basinOf; omega)) (fun t => ft613 87 t (by unfold w_X11_basinOf; omega)) li
          have dli615 : g614 176 0 ≤ 2000 := li615.1
          have e617 : jw32 (x3 + 1) = x3 + 1 := j32e (by omega) (by omega)
          refine st_xi (N := E.2.2.2.2.1) (by decide) (by decide) rfl (show 0 ≤ jw32 (x3 + 1) by omega) (show jw32 (x3 + 1) < ((E.2.2.2.2.1 : Nat) : Int) by omega) (fun v618 ev618 => ?_)
          replace ev618 : v618 = jxv E (-2) (jw32 (x3 + 1)) := ev618
          have e619 : jw32 (x3 + 2) = x3 + 2 := j32e (by omega) (by omega)
          refine st_xi (N := E.2.2.2.2.1) (by decide) (by decide) rfl (show 0 ≤ jw32 (x3 + 2) by omega) (show jw32 (x3 + 2) < ((E.2.2.2.2.1 : Nat) : Int) by omega) (fun v620 ev620 => ?_)
          replace ev620 : v620 = jxv E (-2) (jw32 (x3 + 2)) := ev620
          refine st_cv (na := 2) (st := [.inl v620, .inl v618, .inr (.inr (.inl 176))]) jo_176 rfl rfl rfl (c_X12_basinOf v618 v620 g614) rfl ?_
          rintro _ _ g622 ⟨rfl, ft621, t621, rfl, ht621, zt621⟩ kt621
          replace kt621 : -2147483648 ≤ t621 ∧ t621 ≤ 2147483647 := kt621
          have li623 : jLI g622 := jLI_fr (ft621 176 0 (by unfold w_X12_basinOf; omega)) (ft621 0 0 (by unfold w_X12_basinOf; omega)) (fun t => ft621 87 t (by unfold w_X12_basinOf; omega)) li615
          have dli623 : g622 176 0 ≤ 2000 := li623.1
          have sm624 : jI g622 := pf_basinOf ft613 ft621 sm
          show jGo E l 179 0 229 _ 1410 [.inr (.inr (.inl (-2))), .inr (.inr (.inl 0)), .inr (.inr (.inl 176)), .inl x3] [] 229 jr0 g622
          refine jGo_blk qL_law_1410 ?_
          have e625 : jw32 (x3 + 6) = x3 + 6 := j32e (by omega) (by omega)
          show jGo E l 179 0 229 _ 18 [.inr (.inr (.inl (-2))), .inr (.inr (.inl 0)), .inr (.inr (.inl 176)), .inl (jw32 (x3 + 6))] [] 229 jr0 g622
          exact ih (jw32 (x3 + 6)) g622 (by omega) li623 sm624 (by omega)
        · replace c6 : jand v4 63 = 34 := c6
          show jGo E l 179 0 229 _ 1364 [.inr (.inr (.inl (-2))), .inr (.inr (.inl 0)), .inr (.inr (.inl 176)), .inl x3] [] 229 jr0 g
          refine jGo_blk qL_law_1364 ?_
          have e626 : jw32 (x3 + 1) = x3 + 1 := j32e (by omega) (by omega)
          refine st_xi (N := E.2.2.2.2.1) (by decide) (by decide) rfl (show 0 ≤ jw32 (x3 + 1) by omega) (show jw32 (x3 + 1) < ((E.2.2.2.2.1 : Nat) : Int) by omega) (fun v627 ev627 => ?_)
          replace ev627 : v627 = jxv E (-2) (jw32 (x3 + 1)) := ev627
          refine st_cv (na := 1) (st := [.inl v627, .inr (.inr (.inl 0))]) jo_0 rfl rfl rfl (c_X11_stock v627 g) rfl ?_
          rintro _ _ g629 ⟨rfl, ft628, t628, rfl, ht628, zt628⟩ kt628
          replace kt628 : -2147483648 ≤ t628 ∧ t628 ≤ 2147483647 := kt628
          have li630 : jLI g629 := jLI_fr (ft628 176 0 (by unfold w_X11_stock; omega)) (ft628 0 0 (by unfold w_X11_stock; omega)) (fun t => ft628 87 t (by unfold w_X11_stock; omega)) li
          have dli630 : g629 176 0 ≤ 2000 := li630.1
          have e632 : jw32 (x3 + 1) = x3 + 1 := j32e (by omega) (by omega)
          refine st_xi (N := E.2.2.2.2.1) (by decide) (by decide) rfl (show 0 ≤ jw32 (x3 + 1) by omega) (show jw32 (x3 + 1) < ((E.2.2.2.2.1 : Nat) : Int) by omega) (fun v633 ev633 => ?_)
          replace ev633 : v633 = jxv E (-2) (jw32 (x3 + 1)) := ev633
          refine st_cv (na := 1) (st := [.inl v633, .inr (.inr (.inl 176))]) jo_176 rfl rfl rfl (c_X12_stock v633 g629) rfl ?_
          rintro _ _ g635 ⟨rfl, ft634, t634, rfl, ht634, zt634⟩ kt634
          replace kt634 : -2147483648 ≤ t634 ∧ t634 ≤ 2147483647 := kt634
          have li636 : jLI g635 := jLI_fr (ft634 176 0 (by unfold w_X12_stock; omega)) (ft634 0 0 (by unfold w_X12_stock; omega)) (fun t => ft634 87 t (by unfold w_X12_stock; omega)) li630
          have dli636 : g635 176 0 ≤ 2000 := li636.1
          have sm637 : jI g635 := pf_stock ft628 ft634 sm
          show jGo E l 179 0 229 _ 1410 [.inr (.inr (.inl (-2))), .inr (.inr (.inl 0)), .inr (.inr (.inl 176)), .inl x3] [] 229 jr0 g635
          refine jGo_blk qL_law_1410 ?_
          have e638 : jw32 (x3 + 6) = x3 + 6 := j32e (by omega) (by omega)
          show jGo E l 179 0 229 _ 18 [.inr (.inr (.inl (-2))), .inr (.inr (.inl 0)), .inr (.inr (.inl 176)), .inl (jw32 (x3 + 6))] [] 229 jr0 g635
          exact ih (jw32 (x3 + 6)) g635 (by omega) li636 sm637 (by omega)
        · replace c6 : jand v4 63 = 35 := c6
          show jGo E l 179 0 229 _ 1387 [.inr (.inr (.inl (-2))), .inr (.inr (.inl 0)), .inr (.inr (.inl 176)), .inl x3] [] 229 jr0 g
          refine jGo_blk qL_law_1387 ?_
          have e639 : jw32 (x3 + 1) = x3 + 1 := j32e (by omega) (by omega)
          refine st_xi (N := E.2.2.2.2.1) (by decide) (by decide) rfl (show 0 ≤ jw32 (x3 + 1) by omega) (show jw32 (x3 + 1) < ((E.2.2.2.2.1 : Nat) : Int) by omega) (fun v640 ev640 => ?_)
          replace ev640 : v640 = jxv E (-2) (jw32 (x3 + 1)) := ev640
          refine st_cv (na := 1) (st := [.inl v640, .inr (.inr (.inl 0))]) jo_0 rfl rfl rfl (c_X11_told v640 g) rfl ?_
          rintro _ _ _ ⟨rfl, rfl, t641, rfl, ht641, zt641⟩ kt641
          replace kt641 : -2147483648 ≤ t641 ∧ t641 ≤ 2147483647 := kt641
          have e643 : jw32 (x3 + 1) = x3 + 1 := j32e (by omega) (by omega)
          refine st_xi (N := E.2.2.2.2.1) (by decide) (by decide) rfl (show 0 ≤ jw32 (x3 + 1) by omega) (show jw32 (x3 + 1) < ((E.2.2.2.2.1 : Nat) : Int) by omega) (fun v644 ev644 => ?_)
          replace ev644 : v644 = jxv E (-2) (jw32 (x3 + 1)) := ev644
          refine st_cv (na := 1) (st := [.inl v644, .inr (.inr (.inl 176))]) jo_176 rfl rfl rfl (c_X12_told v644 g) rfl ?_
          rintro _ _ _ ⟨rfl, rfl, t645, rfl, ht645, zt645⟩ kt645
          replace kt645 : -2147483648 ≤ t645 ∧ t645 ≤ 2147483647 := kt645
          show jGo E l 179 0 229 _ 1410 [.inr (.inr (.inl (-2))), .inr (.inr (.inl 0)), .inr (.inr (.inl 176)), .inl x3] [] 229 jr0 g
          refine jGo_blk qL_law_1410 ?_
          have e647 : jw32 (x3 + 6) = x3 + 6 := j32e (by omega) (by omega)
          show jGo E l 179 0 229 _ 18 [.inr (.inr (.inl (-2))), .inr (.inr (.inl 0)), .inr (.inr (.inl 176)), .inl (jw32 (x3 + 6))] [] 229 jr0 g
          exact ih (jw32 (x3 + 6)) g (by omega) li sm (by omega)
