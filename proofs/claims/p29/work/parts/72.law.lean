/-! ===== THE LAW'S LOOP (by program) ===== -/
def jLI (h : JH) : Prop := h 176 0 ≤ 2000 ∧ jLG 0 h
theorem jLI_fr {h g : JH} (e : g 176 0 = h 176 0) (e0 : g 0 0 = h 0 0) (e87 : ∀ t : Int, g 87 t = h 87 t) (q : jLI h) : jLI g := ⟨by rw [e]; exact q.1, jLG_fr e0 e87 q.2⟩
def jlRT : JR := fun v _ _ _ => v = some (.inl 1)
theorem st_alx {E : JE} {K : JK} {ls s : List JV} {n : Nat} {r h : JH} (kk : ∀ v, v = ((E.2.2.2.2.1 : Nat) : Int) → K ls (.inl v :: s) n r h) : jaln E K ls (.inr (.inr (.inl (-2))) :: s) n r h := ⟨fun q => absurd q (by decide), fun _ => ⟨rfl, kk _ rfl⟩⟩
set_option maxHeartbeats 40000000 in
set_option maxRecDepth 20000 in
theorem law_loop {E : JE} {l : Launch} (hE : E.2.2.2.2.1 ≤ 3072) : ∀ N : Nat, ∀ (x3 : Int) (g : JH), (0 ≤ x3 ∧ x3 ≤ 3072) → jLI g → jI g → 3072 - x3 < (N : Int) → jGo E l 179 0 229 jlRT 18 [.inr (.inr (.inl (-2))), .inr (.inr (.inl 0)), .inr (.inr (.inl 176)), .inl x3] [] 229 jr0 g := by
  intro N
  induction N with
  | zero => exact fun x3 g hi _ _ hN => absurd hN (by omega)
  | succ N ih =>
      intro x3 g hi li sm hN
      have dli : g 176 0 ≤ 2000 := li.1
      have dd0 : 0 ≤ g 0 0 := li.2.1
      refine jGo_bd (fun hbd9 => ?_)
      refine jGo_blk qL_law_18 ?_
      refine st_alx (fun v1 ev1 => ?_)
      replace ev1 : v1 = ((E.2.2.2.2.1 : Nat) : Int) := ev1
      have bv1 : 0 ≤ v1 ∧ v1 ≤ 3072 := by omega
      have e2 : jw32 (v1 - 6) = v1 - 6 := j32e (by omega) (by omega)
      refine And.intro (fun c3 => ?_) (fun c3 => ?_)
      · replace c3 : jw32 (v1 - 6) < x3 := c3
        show jGo E l 179 0 229 _ 1416 [.inr (.inr (.inl (-2))), .inr (.inr (.inl 0)), .inr (.inr (.inl 176)), .inl x3] [] 229 jr0 g
        refine jGo_blk qL_law_1416 ?_
        exact st_r1 (ls := []) (Or.inr rfl) rfl
      · replace c3 : x3 ≤ jw32 (v1 - 6) := by first | exact c3 | exact Int.not_le.mp c3 | exact Int.not_lt.mp c3 | exact Decidable.not_not.mp c3
        refine st_xi (N := E.2.2.2.2.1) (by decide) (by decide) rfl (show 0 ≤ x3 by omega) (show x3 < ((E.2.2.2.2.1 : Nat) : Int) by omega) (fun v4 ev4 => ?_)
        replace ev4 : v4 = jxv E (-2) x3 := ev4
        have e5 := jand_le2 v4 63 (by omega) (by omega)
        refine And.intro (fun c6 => ?_) (And.intro (fun c6 => ?_) (And.intro (fun c6 => ?_) (And.intro (fun c6 => ?_) (And.intro (fun c6 => ?_) (And.intro (fun c6 => ?_) (And.intro (fun c6 => ?_) (And.intro (fun c6 => ?_) (And.intro (fun c6 => ?_) (And.intro (fun c6 => ?_) (And.intro (fun c6 => ?_) (And.intro (fun c6 => ?_) (And.intro (fun c6 => ?_) (And.intro (fun c6 => ?_) (And.intro (fun c6 => ?_) (And.intro (fun c6 => ?_) (And.intro (fun c6 => ?_) (And.intro (fun c6 => ?_) (And.intro (fun c6 => ?_) (And.intro (fun c6 => ?_) (And.intro (fun c6 => ?_) (And.intro (fun c6 => ?_) (And.intro (fun c6 => ?_) (And.intro (fun c6 => ?_) (And.intro (fun c6 => ?_) (And.intro (fun c6 => ?_) (And.intro (fun c6 => ?_) (And.intro (fun c6 => ?_) (And.intro (fun c6 => ?_) (And.intro (fun c6 => ?_) (And.intro (fun c6 => ?_) (And.intro (fun c6 => ?_) (And.intro (fun c6 => ?_) (And.intro (fun c6 => ?_) (And.intro (fun c6 => ?_) (And.intro (fun c6 => ?_) (And.intro (fun c6 => ?_) (trivial)))))))))))))))))))))))))))))))))))))
        · replace c6 : jand v4 63 < 0 ∨ 35 < jand v4 63 := c6
          show jGo E l 179 0 229 _ 1410 [.inr (.inr (.inl (-2))), .inr (.inr (.inl 0)), .inr (.inr (.inl 176)), .inl x3] [] 229 jr0 g
          refine jGo_blk qL_law_1410 ?_
          have e7 : jw32 (x3 + 6) = x3 + 6 := j32e (by omega) (by omega)
          show jGo E l 179 0 229 _ 18 [.inr (.inr (.inl (-2))), .inr (.inr (.inl 0)), .inr (.inr (.inl 176)), .inl (jw32 (x3 + 6))] [] 229 jr0 g
          exact ih (jw32 (x3 + 6)) g (by omega) li sm (by omega)
        · replace c6 : jand v4 63 = 0 := c6
          show jGo E l 179 0 229 _ 192 [.inr (.inr (.inl (-2))), .inr (.inr (.inl 0)), .inr (.inr (.inl 176)), .inl x3] [] 229 jr0 g
          refine jGo_blk qL_law_192 ?_
          have e8 : jw32 (x3 + 1) = x3 + 1 := j32e (by omega) (by omega)
          refine st_xi (N := E.2.2.2.2.1) (by decide) (by decide) rfl (show 0 ≤ jw32 (x3 + 1) by omega) (show jw32 (x3 + 1) < ((E.2.2.2.2.1 : Nat) : Int) by omega) (fun v9 ev9 => ?_)
          replace ev9 : v9 = jxv E (-2) (jw32 (x3 + 1)) := ev9
          have e10 : jw32 (x3 + 2) = x3 + 2 := j32e (by omega) (by omega)
          refine st_xi (N := E.2.2.2.2.1) (by decide) (by decide) rfl (show 0 ≤ jw32 (x3 + 2) by omega) (show jw32 (x3 + 2) < ((E.2.2.2.2.1 : Nat) : Int) by omega) (fun v11 ev11 => ?_)
          replace ev11 : v11 = jxv E (-2) (jw32 (x3 + 2)) := ev11
          refine st_cv (na := 2) (st := [.inl v11, .inl v9, .inr (.inr (.inl 0))]) jo_0 rfl rfl rfl (c_X11_hands v9 v11 g) rfl ?_
          rintro _ _ g13 ⟨rfl, ft12, t12, rfl, ht12, zt12⟩ kt12
          replace kt12 : -2147483648 ≤ t12 ∧ t12 ≤ 2147483647 := kt12
          replace ht12 : -7 ≤ t12 ∧ t12 ≤ 400 := ht12
          replace zt12 : (P_X11_hands v9 v11 t12 g g13) ∧ jFg (t12 < 0) g g13 := zt12
          have li14 : jLI g13 := jLI_fr (ft12 176 0 (by unfold w_X11_hands; omega)) (ft12 0 0 (by unfold w_X11_hands; omega)) (fun t => ft12 87 t (by unfold w_X11_hands; omega)) li
          have dli14 : g13 176 0 ≤ 2000 := li14.1
          have e16 : jw32 (x3 + 1) = x3 + 1 := j32e (by omega) (by omega)
          refine st_xi (N := E.2.2.2.2.1) (by decide) (by decide) rfl (show 0 ≤ jw32 (x3 + 1) by omega) (show jw32 (x3 + 1) < ((E.2.2.2.2.1 : Nat) : Int) by omega) (fun v17 ev17 => ?_)
          replace ev17 : v17 = jxv E (-2) (jw32 (x3 + 1)) := ev17
          have e18 : jw32 (x3 + 2) = x3 + 2 := j32e (by omega) (by omega)
          refine st_xi (N := E.2.2.2.2.1) (by decide) (by decide) rfl (show 0 ≤ jw32 (x3 + 2) by omega) (show jw32 (x3 + 2) < ((E.2.2.2.2.1 : Nat) : Int) by omega) (fun v19 ev19 => ?_)
          replace ev19 : v19 = jxv E (-2) (jw32 (x3 + 2)) := ev19
          refine st_cv (na := 2) (st := [.inl v19, .inl v17, .inr (.inr (.inl 176))]) jo_176 rfl rfl rfl (c_X12_hands v17 v19 g13) rfl ?_
          rintro _ _ g21 ⟨rfl, ft20, t20, rfl, ht20, zt20⟩ kt20
          replace kt20 : -2147483648 ≤ t20 ∧ t20 ≤ 2147483647 := kt20
          replace ht20 : -7 ≤ t20 ∧ t20 ≤ 400 := ht20
          replace zt20 : (P_X12_hands v17 v19 t20 g13 g21) ∧ jRx (t20 < 0) g13 g21 := zt20
          have li22 : jLI g21 := jLI_fr (ft20 176 0 (by unfold w_X12_hands; omega)) (ft20 0 0 (by unfold w_X12_hands; omega)) (fun t => ft20 87 t (by unfold w_X12_hands; omega)) li14
          have dli22 : g21 176 0 ≤ 2000 := li22.1
          have za24 := zt20.1
          have zb25 := zt20.2
          rw [show v17 = v9 by omega, show v19 = v11 by omega] at za24
          have qe26 := pr_hands ft12 ft20 zt12.1 za24 sm (fun exy => jAh_m zt12.2 (fun b9 => zb25 (by omega)) (fun k9 => ft20 111 k9 (by unfold w_X12_hands; omega)) (fun i9 k9 q9 => by unfold jwh3 at q9; exact ft20 i9 k9 (by unfold w_X12_hands; omega)) (jI_ah sm))
          have eqe26 := qe26.1
          have sm23 : jI g21 := qe26.2
          clear qe26 za24
          show jGo E l 179 0 229 _ 1410 [.inr (.inr (.inl (-2))), .inr (.inr (.inl 0)), .inr (.inr (.inl 176)), .inl x3] [] 229 jr0 g21
          refine jGo_blk qL_law_1410 ?_
          have e27 : jw32 (x3 + 6) = x3 + 6 := j32e (by omega) (by omega)
          show jGo E l 179 0 229 _ 18 [.inr (.inr (.inl (-2))), .inr (.inr (.inl 0)), .inr (.inr (.inl 176)), .inl (jw32 (x3 + 6))] [] 229 jr0 g21
          exact ih (jw32 (x3 + 6)) g21 (by omega) li22 sm23 (by omega)
        · replace c6 : jand v4 63 = 1 := c6
          show jGo E l 179 0 229 _ 225 [.inr (.inr (.inl (-2))), .inr (.inr (.inl 0)), .inr (.inr (.inl 176)), .inl x3] [] 229 jr0 g
          refine jGo_blk qL_law_225 ?_
          have e28 : jw32 (x3 + 1) = x3 + 1 := j32e (by omega) (by omega)
          refine st_xi (N := E.2.2.2.2.1) (by decide) (by decide) rfl (show 0 ≤ jw32 (x3 + 1) by omega) (show jw32 (x3 + 1) < ((E.2.2.2.2.1 : Nat) : Int) by omega) (fun v29 ev29 => ?_)
          replace ev29 : v29 = jxv E (-2) (jw32 (x3 + 1)) := ev29
          have e30 : jw32 (x3 + 2) = x3 + 2 := j32e (by omega) (by omega)
          refine st_xi (N := E.2.2.2.2.1) (by decide) (by decide) rfl (show 0 ≤ jw32 (x3 + 2) by omega) (show jw32 (x3 + 2) < ((E.2.2.2.2.1 : Nat) : Int) by omega) (fun v31 ev31 => ?_)
          replace ev31 : v31 = jxv E (-2) (jw32 (x3 + 2)) := ev31
          refine st_cv (na := 2) (st := [.inl v31, .inl v29, .inr (.inr (.inl 0))]) jo_0 rfl rfl rfl (c_X11_bring v29 v31 g) rfl ?_
          rintro _ _ g33 ⟨rfl, ft32, t32, rfl, ht32, zt32⟩ kt32
          replace kt32 : -2147483648 ≤ t32 ∧ t32 ≤ 2147483647 := kt32
          replace zt32 : (P_X11_bring v29 v31 t32 g g33) ∧ jFg (t32 < 0) g g33 := zt32
          have li34 : jLI g33 := jLI_fr (ft32 176 0 (by unfold w_X11_bring; omega)) (ft32 0 0 (by unfold w_X11_bring; omega)) (fun t => ft32 87 t (by unfold w_X11_bring; omega)) li
          have dli34 : g33 176 0 ≤ 2000 := li34.1
          have e36 : jw32 (x3 + 1) = x3 + 1 := j32e (by omega) (by omega)
          refine st_xi (N := E.2.2.2.2.1) (by decide) (by decide) rfl (show 0 ≤ jw32 (x3 + 1) by omega) (show jw32 (x3 + 1) < ((E.2.2.2.2.1 : Nat) : Int) by omega) (fun v37 ev37 => ?_)
          replace ev37 : v37 = jxv E (-2) (jw32 (x3 + 1)) := ev37
          have e38 : jw32 (x3 + 2) = x3 + 2 := j32e (by omega) (by omega)
          refine st_xi (N := E.2.2.2.2.1) (by decide) (by decide) rfl (show 0 ≤ jw32 (x3 + 2) by omega) (show jw32 (x3 + 2) < ((E.2.2.2.2.1 : Nat) : Int) by omega) (fun v39 ev39 => ?_)
          replace ev39 : v39 = jxv E (-2) (jw32 (x3 + 2)) := ev39
          refine st_cv (na := 2) (st := [.inl v39, .inl v37, .inr (.inr (.inl 176))]) jo_176 rfl rfl rfl (c_X12_bring v37 v39 g33) rfl ?_
          rintro _ _ g41 ⟨rfl, ft40, t40, rfl, ht40, zt40⟩ kt40
          replace kt40 : -2147483648 ≤ t40 ∧ t40 ≤ 2147483647 := kt40
          replace zt40 : P_X12_bring v37 v39 t40 g33 g41 := zt40
          have li42 : jLI g41 := jLI_fr (ft40 176 0 (by unfold w_X12_bring; omega)) (ft40 0 0 (by unfold w_X12_bring; omega)) (fun t => ft40 87 t (by unfold w_X12_bring; omega)) li34
          have dli42 : g41 176 0 ≤ 2000 := li42.1
          rw [show v37 = v29 by omega, show v39 = v31 by omega] at zt40
          have qe44 := pr_bring ft32 ft40 zt32.1 zt40 sm (fun exy => jAh_m zt32.2 (fun b9 => (rx_bring ft32 zt40 sm) (by omega)) (fun k9 => ft40 111 k9 (by unfold w_X12_bring; omega)) (fun i9 k9 q9 => by unfold jwh3 at q9; exact ft40 i9 k9 (by unfold w_X12_bring; omega)) (jI_ah sm))
          have eqe44 := qe44.1
          have sm43 : jI g41 := qe44.2
          clear qe44 zt40
          show jGo E l 179 0 229 _ 1410 [.inr (.inr (.inl (-2))), .inr (.inr (.inl 0)), .inr (.inr (.inl 176)), .inl x3] [] 229 jr0 g41
          refine jGo_blk qL_law_1410 ?_
          have e45 : jw32 (x3 + 6) = x3 + 6 := j32e (by omega) (by omega)
          show jGo E l 179 0 229 _ 18 [.inr (.inr (.inl (-2))), .inr (.inr (.inl 0)), .inr (.inr (.inl 176)), .inl (jw32 (x3 + 6))] [] 229 jr0 g41
          exact ih (jw32 (x3 + 6)) g41 (by omega) li42 sm43 (by omega)
        · replace c6 : jand v4 63 = 2 := c6
          show jGo E l 179 0 229 _ 258 [.inr (.inr (.inl (-2))), .inr (.inr (.inl 0)), .inr (.inr (.inl 176)), .inl x3] [] 229 jr0 g
          refine jGo_blk qL_law_258 ?_
          have e46 : jw32 (x3 + 1) = x3 + 1 := j32e (by omega) (by omega)
          refine st_xi (N := E.2.2.2.2.1) (by decide) (by decide) rfl (show 0 ≤ jw32 (x3 + 1) by omega) (show jw32 (x3 + 1) < ((E.2.2.2.2.1 : Nat) : Int) by omega) (fun v47 ev47 => ?_)
          replace ev47 : v47 = jxv E (-2) (jw32 (x3 + 1)) := ev47
          have e48 : jw32 (x3 + 2) = x3 + 2 := j32e (by omega) (by omega)
          refine st_xi (N := E.2.2.2.2.1) (by decide) (by decide) rfl (show 0 ≤ jw32 (x3 + 2) by omega) (show jw32 (x3 + 2) < ((E.2.2.2.2.1 : Nat) : Int) by omega) (fun v49 ev49 => ?_)
          replace ev49 : v49 = jxv E (-2) (jw32 (x3 + 2)) := ev49
          refine st_cv (na := 2) (st := [.inl v49, .inl v47, .inr (.inr (.inl 0))]) jo_0 rfl rfl rfl (c_X11_row v47 v49 g) rfl ?_
          rintro _ _ g51 ⟨rfl, ft50, t50, rfl, ht50, zt50⟩ kt50
          replace kt50 : -2147483648 ≤ t50 ∧ t50 ≤ 2147483647 := kt50
          replace ht50 : -7 ≤ t50 ∧ t50 ≤ 30 := ht50
          replace zt50 : (P_X11_row v47 v49 t50 g g51) ∧ jFg (t50 < 0) g g51 := zt50
          have li52 : jLI g51 := jLI_fr (ft50 176 0 (by unfold w_X11_row; omega)) (ft50 0 0 (by unfold w_X11_row; omega)) (fun t => ft50 87 t (by unfold w_X11_row; omega)) li
          have dli52 : g51 176 0 ≤ 2000 := li52.1
          have e54 : jw32 (x3 + 1) = x3 + 1 := j32e (by omega) (by omega)
          refine st_xi (N := E.2.2.2.2.1) (by decide) (by decide) rfl (show 0 ≤ jw32 (x3 + 1) by omega) (show jw32 (x3 + 1) < ((E.2.2.2.2.1 : Nat) : Int) by omega) (fun v55 ev55 => ?_)
          replace ev55 : v55 = jxv E (-2) (jw32 (x3 + 1)) := ev55
          have e56 : jw32 (x3 + 2) = x3 + 2 := j32e (by omega) (by omega)
          refine st_xi (N := E.2.2.2.2.1) (by decide) (by decide) rfl (show 0 ≤ jw32 (x3 + 2) by omega) (show jw32 (x3 + 2) < ((E.2.2.2.2.1 : Nat) : Int) by omega) (fun v57 ev57 => ?_)
          replace ev57 : v57 = jxv E (-2) (jw32 (x3 + 2)) := ev57
          refine st_cv (na := 2) (st := [.inl v57, .inl v55, .inr (.inr (.inl 176))]) jo_176 rfl rfl rfl (c_X12_row v55 v57 g51) rfl ?_
          rintro _ _ g59 ⟨rfl, ft58, t58, rfl, ht58, zt58⟩ kt58
          replace kt58 : -2147483648 ≤ t58 ∧ t58 ≤ 2147483647 := kt58
          replace ht58 : -7 ≤ t58 ∧ t58 ≤ 30 := ht58
          replace zt58 : (P_X12_row v55 v57 t58 g51 g59) ∧ jRx (t58 < 0) g51 g59 := zt58
          have li60 : jLI g59 := jLI_fr (ft58 176 0 (by unfold w_X12_row; omega)) (ft58 0 0 (by unfold w_X12_row; omega)) (fun t => ft58 87 t (by unfold w_X12_row; omega)) li52
          have dli60 : g59 176 0 ≤ 2000 := li60.1
          have za62 := zt58.1
          have zb63 := zt58.2
          rw [show v55 = v47 by omega, show v57 = v49 by omega] at za62
          have qe64 := pr_row ft50 ft58 zt50.1 za62 sm (fun exy => jAh_m zt50.2 (fun b9 => zb63 (by omega)) (fun k9 => ft58 111 k9 (by unfold w_X12_row; omega)) (fun i9 k9 q9 => by unfold jwh3 at q9; exact ft58 i9 k9 (by unfold w_X12_row; omega)) (jI_ah sm))
          have eqe64 := qe64.1
          have sm61 : jI g59 := qe64.2
          clear qe64 za62
          show jGo E l 179 0 229 _ 1410 [.inr (.inr (.inl (-2))), .inr (.inr (.inl 0)), .inr (.inr (.inl 176)), .inl x3] [] 229 jr0 g59
          refine jGo_blk qL_law_1410 ?_
          have e65 : jw32 (x3 + 6) = x3 + 6 := j32e (by omega) (by omega)
          show jGo E l 179 0 229 _ 18 [.inr (.inr (.inl (-2))), .inr (.inr (.inl 0)), .inr (.inr (.inl 176)), .inl (jw32 (x3 + 6))] [] 229 jr0 g59
          exact ih (jw32 (x3 + 6)) g59 (by omega) li60 sm61 (by omega)
        · replace c6 : jand v4 63 = 3 := c6
          show jGo E l 179 0 229 _ 291 [.inr (.inr (.inl (-2))), .inr (.inr (.inl 0)), .inr (.inr (.inl 176)), .inl x3] [] 229 jr0 g
          refine jGo_blk qL_law_291 ?_
          have e66 : jw32 (x3 + 1) = x3 + 1 := j32e (by omega) (by omega)
          refine st_xi (N := E.2.2.2.2.1) (by decide) (by decide) rfl (show 0 ≤ jw32 (x3 + 1) by omega) (show jw32 (x3 + 1) < ((E.2.2.2.2.1 : Nat) : Int) by omega) (fun v67 ev67 => ?_)
          replace ev67 : v67 = jxv E (-2) (jw32 (x3 + 1)) := ev67
          refine st_cv (na := 1) (st := [.inl v67, .inr (.inr (.inl 0))]) jo_0 rfl rfl rfl (c_X11_lose v67 g) rfl ?_
          rintro _ _ g69 ⟨rfl, ft68, t68, rfl, ht68, zt68⟩ kt68
          replace kt68 : -2147483648 ≤ t68 ∧ t68 ≤ 2147483647 := kt68
          replace ht68 : -7 ≤ t68 ∧ t68 ≤ 1 := ht68
          replace zt68 : (P_X11_lose v67 t68 g g69) ∧ jFg (t68 ≤ 0) g g69 := zt68
          have li70 : jLI g69 := jLI_fr (ft68 176 0 (by unfold w_X11_lose; omega)) (ft68 0 0 (by unfold w_X11_lose; omega)) (fun t => ft68 87 t (by unfold w_X11_lose; omega)) li
          have dli70 : g69 176 0 ≤ 2000 := li70.1
          have e72 : jw32 (x3 + 1) = x3 + 1 := j32e (by omega) (by omega)
          refine st_xi (N := E.2.2.2.2.1) (by decide) (by decide) rfl (show 0 ≤ jw32 (x3 + 1) by omega) (show jw32 (x3 + 1) < ((E.2.2.2.2.1 : Nat) : Int) by omega) (fun v73 ev73 => ?_)
          replace ev73 : v73 = jxv E (-2) (jw32 (x3 + 1)) := ev73
          refine st_cv (na := 1) (st := [.inl v73, .inr (.inr (.inl 176))]) jo_176 rfl rfl rfl (c_X12_lose v73 g69) rfl ?_
          rintro _ _ g75 ⟨rfl, ft74, t74, rfl, ht74, zt74⟩ kt74
          replace kt74 : -2147483648 ≤ t74 ∧ t74 ≤ 2147483647 := kt74
          replace ht74 : -7 ≤ t74 ∧ t74 ≤ 1 := ht74
          replace zt74 : (P_X12_lose v73 t74 g69 g75) ∧ jRx (t74 ≤ 0) g69 g75 := zt74
          have li76 : jLI g75 := jLI_fr (ft74 176 0 (by unfold w_X12_lose; omega)) (ft74 0 0 (by unfold w_X12_lose; omega)) (fun t => ft74 87 t (by unfold w_X12_lose; omega)) li70
          have dli76 : g75 176 0 ≤ 2000 := li76.1
          have za78 := zt74.1
          have zb79 := zt74.2
          rw [show v73 = v67 by omega] at za78
          have qe80 := pr_lose ft68 ft74 zt68.1 za78 sm (fun exy => jAh_m zt68.2 (fun b9 => zb79 (by omega)) (fun k9 => ft74 111 k9 (by unfold w_X12_lose; omega)) (fun i9 k9 q9 => by unfold jwh3 at q9; exact ft74 i9 k9 (by unfold w_X12_lose; omega)) (jI_ah sm))
          have eqe80 := qe80.1
          have sm77 : jI g75 := qe80.2
          clear qe80 za78
          show jGo E l 179 0 229 _ 1410 [.inr (.inr (.inl (-2))), .inr (.inr (.inl 0)), .inr (.inr (.inl 176)), .inl x3] [] 229 jr0 g75
          refine jGo_blk qL_law_1410 ?_
          have e81 : jw32 (x3 + 6) = x3 + 6 := j32e (by omega) (by omega)
          show jGo E l 179 0 229 _ 18 [.inr (.inr (.inl (-2))), .inr (.inr (.inl 0)), .inr (.inr (.inl 176)), .inl (jw32 (x3 + 6))] [] 229 jr0 g75
          exact ih (jw32 (x3 + 6)) g75 (by omega) li76 sm77 (by omega)
        · replace c6 : jand v4 63 = 4 := c6
          show jGo E l 179 0 229 _ 314 [.inr (.inr (.inl (-2))), .inr (.inr (.inl 0)), .inr (.inr (.inl 176)), .inl x3] [] 229 jr0 g
          refine jGo_blk qL_law_314 ?_
          have e82 : jw32 (x3 + 1) = x3 + 1 := j32e (by omega) (by omega)
          refine st_xi (N := E.2.2.2.2.1) (by decide) (by decide) rfl (show 0 ≤ jw32 (x3 + 1) by omega) (show jw32 (x3 + 1) < ((E.2.2.2.2.1 : Nat) : Int) by omega) (fun v83 ev83 => ?_)
          replace ev83 : v83 = jxv E (-2) (jw32 (x3 + 1)) := ev83
          have e84 : jw32 (x3 + 2) = x3 + 2 := j32e (by omega) (by omega)
          refine st_xi (N := E.2.2.2.2.1) (by decide) (by decide) rfl (show 0 ≤ jw32 (x3 + 2) by omega) (show jw32 (x3 + 2) < ((E.2.2.2.2.1 : Nat) : Int) by omega) (fun v85 ev85 => ?_)
          replace ev85 : v85 = jxv E (-2) (jw32 (x3 + 2)) := ev85
          have e86 : jw32 (x3 + 3) = x3 + 3 := j32e (by omega) (by omega)
          refine st_xi (N := E.2.2.2.2.1) (by decide) (by decide) rfl (show 0 ≤ jw32 (x3 + 3) by omega) (show jw32 (x3 + 3) < ((E.2.2.2.2.1 : Nat) : Int) by omega) (fun v87 ev87 => ?_)
          replace ev87 : v87 = jxv E (-2) (jw32 (x3 + 3)) := ev87
          refine st_cv (na := 3) (st := [.inl v87, .inl v85, .inl v83, .inr (.inr (.inl 0))]) jo_0 rfl rfl rfl (c_X11_put v83 v85 v87 g) rfl ?_
          rintro _ _ g89 ⟨rfl, ft88, t88, rfl, ht88, zt88⟩ kt88
          replace kt88 : -2147483648 ≤ t88 ∧ t88 ≤ 2147483647 := kt88
          replace ht88 : -7 ≤ t88 ∧ t88 ≤ 400 := ht88
          replace zt88 : (P_X11_put v83 v85 v87 t88 g g89) ∧ jFg (t88 < 0) g g89 := zt88
          have li90 : jLI g89 := jLI_fr (ft88 176 0 (by unfold w_X11_put; omega)) (ft88 0 0 (by unfold w_X11_put; omega)) (fun t => ft88 87 t (by unfold w_X11_put; omega)) li
          have dli90 : g89 176 0 ≤ 2000 := li90.1
          have e92 : jw32 (x3 + 1) = x3 + 1 := j32e (by omega) (by omega)
          refine st_xi (N := E.2.2.2.2.1) (by decide) (by decide) rfl (show 0 ≤ jw32 (x3 + 1) by omega) (show jw32 (x3 + 1) < ((E.2.2.2.2.1 : Nat) : Int) by omega) (fun v93 ev93 => ?_)
          replace ev93 : v93 = jxv E (-2) (jw32 (x3 + 1)) := ev93
          have e94 : jw32 (x3 + 2) = x3 + 2 := j32e (by omega) (by omega)
          refine st_xi (N := E.2.2.2.2.1) (by decide) (by decide) rfl (show 0 ≤ jw32 (x3 + 2) by omega) (show jw32 (x3 + 2) < ((E.2.2.2.2.1 : Nat) : Int) by omega) (fun v95 ev95 => ?_)
          replace ev95 : v95 = jxv E (-2) (jw32 (x3 + 2)) := ev95
          have e96 : jw32 (x3 + 3) = x3 + 3 := j32e (by omega) (by omega)
          refine st_xi (N := E.2.2.2.2.1) (by decide) (by decide) rfl (show 0 ≤ jw32 (x3 + 3) by omega) (show jw32 (x3 + 3) < ((E.2.2.2.2.1 : Nat) : Int) by omega) (fun v97 ev97 => ?_)
          replace ev97 : v97 = jxv E (-2) (jw32 (x3 + 3)) := ev97
          refine st_cv (na := 3) (st := [.inl v97, .inl v95, .inl v93, .inr (.inr (.inl 176))]) jo_176 rfl rfl rfl (c_X12_put v93 v95 v97 g89) rfl ?_
          rintro _ _ g99 ⟨rfl, ft98, t98, rfl, ht98, zt98⟩ kt98
          replace kt98 : -2147483648 ≤ t98 ∧ t98 ≤ 2147483647 := kt98
          replace ht98 : -7 ≤ t98 ∧ t98 ≤ 400 := ht98
          replace zt98 : (P_X12_put v93 v95 v97 t98 g89 g99) ∧ jRx (t98 < 0) g89 g99 := zt98
          have li100 : jLI g99 := jLI_fr (ft98 176 0 (by unfold w_X12_put; omega)) (ft98 0 0 (by unfold w_X12_put; omega)) (fun t => ft98 87 t (by unfold w_X12_put; omega)) li90
          have dli100 : g99 176 0 ≤ 2000 := li100.1
          have za102 := zt98.1
          have zb103 := zt98.2
          rw [show v93 = v83 by omega, show v95 = v85 by omega, show v97 = v87 by omega] at za102
          have qe104 := pr_put ft88 ft98 zt88.1 za102 sm (fun exy => jAh_m zt88.2 (fun b9 => zb103 (by omega)) (fun k9 => ft98 111 k9 (by unfold w_X12_put; omega)) (fun i9 k9 q9 => by unfold jwh3 at q9; exact ft98 i9 k9 (by unfold w_X12_put; omega)) (jI_ah sm))
          have eqe104 := qe104.1
          have sm101 : jI g99 := qe104.2
          clear qe104 za102
          show jGo E l 179 0 229 _ 1410 [.inr (.inr (.inl (-2))), .inr (.inr (.inl 0)), .inr (.inr (.inl 176)), .inl x3] [] 229 jr0 g99
          refine jGo_blk qL_law_1410 ?_
          have e105 : jw32 (x3 + 6) = x3 + 6 := j32e (by omega) (by omega)
          show jGo E l 179 0 229 _ 18 [.inr (.inr (.inl (-2))), .inr (.inr (.inl 0)), .inr (.inr (.inl 176)), .inl (jw32 (x3 + 6))] [] 229 jr0 g99
          exact ih (jw32 (x3 + 6)) g99 (by omega) li100 sm101 (by omega)
        · replace c6 : jand v4 63 = 5 := c6
          show jGo E l 179 0 229 _ 357 [.inr (.inr (.inl (-2))), .inr (.inr (.inl 0)), .inr (.inr (.inl 176)), .inl x3] [] 229 jr0 g
          refine jGo_blk qL_law_357 ?_
          have e106 : jw32 (x3 + 1) = x3 + 1 := j32e (by omega) (by omega)
          refine st_xi (N := E.2.2.2.2.1) (by decide) (by decide) rfl (show 0 ≤ jw32 (x3 + 1) by omega) (show jw32 (x3 + 1) < ((E.2.2.2.2.1 : Nat) : Int) by omega) (fun v107 ev107 => ?_)
          replace ev107 : v107 = jxv E (-2) (jw32 (x3 + 1)) := ev107
          have e108 : jw32 (x3 + 2) = x3 + 2 := j32e (by omega) (by omega)
          refine st_xi (N := E.2.2.2.2.1) (by decide) (by decide) rfl (show 0 ≤ jw32 (x3 + 2) by omega) (show jw32 (x3 + 2) < ((E.2.2.2.2.1 : Nat) : Int) by omega) (fun v109 ev109 => ?_)
          replace ev109 : v109 = jxv E (-2) (jw32 (x3 + 2)) := ev109
          have e110 : jw32 (x3 + 3) = x3 + 3 := j32e (by omega) (by omega)
          refine st_xi (N := E.2.2.2.2.1) (by decide) (by decide) rfl (show 0 ≤ jw32 (x3 + 3) by omega) (show jw32 (x3 + 3) < ((E.2.2.2.2.1 : Nat) : Int) by omega) (fun v111 ev111 => ?_)
          replace ev111 : v111 = jxv E (-2) (jw32 (x3 + 3)) := ev111
          have e112 : jw32 (x3 + 4) = x3 + 4 := j32e (by omega) (by omega)
          refine st_xi (N := E.2.2.2.2.1) (by decide) (by decide) rfl (show 0 ≤ jw32 (x3 + 4) by omega) (show jw32 (x3 + 4) < ((E.2.2.2.2.1 : Nat) : Int) by omega) (fun v113 ev113 => ?_)
          replace ev113 : v113 = jxv E (-2) (jw32 (x3 + 4)) := ev113
          have e114 : jw32 (x3 + 5) = x3 + 5 := j32e (by omega) (by omega)
          refine st_xi (N := E.2.2.2.2.1) (by decide) (by decide) rfl (show 0 ≤ jw32 (x3 + 5) by omega) (show jw32 (x3 + 5) < ((E.2.2.2.2.1 : Nat) : Int) by omega) (fun v115 ev115 => ?_)
          replace ev115 : v115 = jxv E (-2) (jw32 (x3 + 5)) := ev115
          refine st_cv (na := 5) (st := [.inl v115, .inl v113, .inl v111, .inl v109, .inl v107, .inr (.inr (.inl 0))]) jo_0 rfl rfl rfl (c_X11_copy v107 v109 v111 v113 v115 g) rfl ?_
          rintro _ _ g117 ⟨rfl, ft116, t116, rfl, ht116, zt116⟩ kt116
          replace kt116 : -2147483648 ≤ t116 ∧ t116 ≤ 2147483647 := kt116
          replace zt116 : (P_X11_copy v107 v109 v111 v113 v115 t116 g g117) ∧ jFg (t116 < 0) g g117 := zt116
          have li118 : jLI g117 := jLI_fr (ft116 176 0 (by unfold w_X11_copy; omega)) (ft116 0 0 (by unfold w_X11_copy; omega)) (fun t => ft116 87 t (by unfold w_X11_copy; omega)) li
          have dli118 : g117 176 0 ≤ 2000 := li118.1
          have e120 : jw32 (x3 + 1) = x3 + 1 := j32e (by omega) (by omega)
          refine st_xi (N := E.2.2.2.2.1) (by decide) (by decide) rfl (show 0 ≤ jw32 (x3 + 1) by omega) (show jw32 (x3 + 1) < ((E.2.2.2.2.1 : Nat) : Int) by omega) (fun v121 ev121 => ?_)
          replace ev121 : v121 = jxv E (-2) (jw32 (x3 + 1)) := ev121
          have e122 : jw32 (x3 + 2) = x3 + 2 := j32e (by omega) (by omega)
          refine st_xi (N := E.2.2.2.2.1) (by decide) (by decide) rfl (show 0 ≤ jw32 (x3 + 2) by omega) (show jw32 (x3 + 2) < ((E.2.2.2.2.1 : Nat) : Int) by omega) (fun v123 ev123 => ?_)
          replace ev123 : v123 = jxv E (-2) (jw32 (x3 + 2)) := ev123
          have e124 : jw32 (x3 + 3) = x3 + 3 := j32e (by omega) (by omega)
          refine st_xi (N := E.2.2.2.2.1) (by decide) (by decide) rfl (show 0 ≤ jw32 (x3 + 3) by omega) (show jw32 (x3 + 3) < ((E.2.2.2.2.1 : Nat) : Int) by omega) (fun v125 ev125 => ?_)
          replace ev125 : v125 = jxv E (-2) (jw32 (x3 + 3)) := ev125
          have e126 : jw32 (x3 + 4) = x3 + 4 := j32e (by omega) (by omega)
          refine st_xi (N := E.2.2.2.2.1) (by decide) (by decide) rfl (show 0 ≤ jw32 (x3 + 4) by omega) (show jw32 (x3 + 4) < ((E.2.2.2.2.1 : Nat) : Int) by omega) (fun v127 ev127 => ?_)
          replace ev127 : v127 = jxv E (-2) (jw32 (x3 + 4)) := ev127
          have e128 : jw32 (x3 + 5) = x3 + 5 := j32e (by omega) (by omega)
          refine st_xi (N := E.2.2.2.2.1) (by decide) (by decide) rfl (show 0 ≤ jw32 (x3 + 5) by omega) (show jw32 (x3 + 5) < ((E.2.2.2.2.1 : Nat) : Int) by omega) (fun v129 ev129 => ?_)
          replace ev129 : v129 = jxv E (-2) (jw32 (x3 + 5)) := ev129
          refine st_cv (na := 5) (st := [.inl v129, .inl v127, .inl v125, .inl v123, .inl v121, .inr (.inr (.inl 176))]) jo_176 rfl rfl rfl (c_X12_copy v121 v123 v125 v127 v129 g117) rfl ?_
          rintro _ _ g131 ⟨rfl, ft130, t130, rfl, ht130, zt130⟩ kt130
          replace kt130 : -2147483648 ≤ t130 ∧ t130 ≤ 2147483647 := kt130
          replace ht130 : -7 ≤ t130 ∧ t130 ≤ 30 := ht130
          replace zt130 : (P_X12_copy v121 v123 v125 v127 v129 t130 g117 g131) ∧ jRx (t130 < 0) g117 g131 := zt130
          have li132 : jLI g131 := jLI_fr (ft130 176 0 (by unfold w_X12_copy; omega)) (ft130 0 0 (by unfold w_X12_copy; omega)) (fun t => ft130 87 t (by unfold w_X12_copy; omega)) li118
          have dli132 : g131 176 0 ≤ 2000 := li132.1
          have za134 := zt130.1
          have zb135 := zt130.2
          rw [show v121 = v107 by omega, show v123 = v109 by omega, show v125 = v111 by omega, show v127 = v113 by omega, show v129 = v115 by omega] at za134
          have qe136 := pr_copy ft116 ft130 zt116.1 za134 sm (fun exy => jAh_m zt116.2 (fun b9 => zb135 (by omega)) (fun k9 => ft130 111 k9 (by unfold w_X12_copy; omega)) (fun i9 k9 q9 => by unfold jwh3 at q9; exact ft130 i9 k9 (by unfold w_X12_copy; omega)) (jI_ah sm))
          have eqe136 := qe136.1
          have sm133 : jI g131 := qe136.2
          clear qe136 za134
          show jGo E l 179 0 229 _ 1410 [.inr (.inr (.inl (-2))), .inr (.inr (.inl 0)), .inr (.inr (.inl 176)), .inl x3] [] 229 jr0 g131
          refine jGo_blk qL_law_1410 ?_
          have e137 : jw32 (x3 + 6) = x3 + 6 := j32e (by omega) (by omega)
          show jGo E l 179 0 229 _ 18 [.inr (.inr (.inl (-2))), .inr (.inr (.inl 0)), .inr (.inr (.inl 176)), .inl (jw32 (x3 + 6))] [] 229 jr0 g131
          exact ih (jw32 (x3 + 6)) g131 (by omega) li132 sm133 (by omega)
        · replace c6 : jand v4 63 = 6 := c6
          show jGo E l 179 0 229 _ 420 [.inr (.inr (.inl (-2))), .inr (.inr (.inl 0)), .inr (.inr (.inl 176)), .inl x3] [] 229 jr0 g
          refine jGo_blk qL_law_420 ?_
          have e138 : jw32 (x3 + 1) = x3 + 1 := j32e (by omega) (by omega)
          refine st_xi (N := E.2.2.2.2.1) (by decide) (by decide) rfl (show 0 ≤ jw32 (x3 + 1) by omega) (show jw32 (x3 + 1) < ((E.2.2.2.2.1 : Nat) : Int) by omega) (fun v139 ev139 => ?_)
          replace ev139 : v139 = jxv E (-2) (jw32 (x3 + 1)) := ev139
          have e140 : jw32 (x3 + 2) = x3 + 2 := j32e (by omega) (by omega)
          refine st_xi (N := E.2.2.2.2.1) (by decide) (by decide) rfl (show 0 ≤ jw32 (x3 + 2) by omega) (show jw32 (x3 + 2) < ((E.2.2.2.2.1 : Nat) : Int) by omega) (fun v141 ev141 => ?_)
          replace ev141 : v141 = jxv E (-2) (jw32 (x3 + 2)) := ev141
          refine st_cv (na := 2) (st := [.inl v141, .inl v139, .inr (.inr (.inl 0))]) jo_0 rfl rfl rfl (c_X11_lead v139 v141 g) rfl ?_
          rintro _ _ g143 ⟨rfl, ft142, t142, rfl, ht142, zt142⟩ kt142
          replace kt142 : -2147483648 ≤ t142 ∧ t142 ≤ 2147483647 := kt142
          replace ht142 : -1 ≤ t142 ∧ t142 ≤ 2000000007 := ht142
          replace zt142 : (P_X11_lead v139 v141 t142 g g143) ∧ jFg (2000000000 < t142) g g143 := zt142
          have li144 : jLI g143 := jLI_fr (ft142 176 0 (by unfold w_X11_lead; omega)) (ft142 0 0 (by unfold w_X11_lead; omega)) (fun t => ft142 87 t (by unfold w_X11_lead; omega)) li
          have dli144 : g143 176 0 ≤ 2000 := li144.1
          have e146 : jw32 (x3 + 1) = x3 + 1 := j32e (by omega) (by omega)
          refine st_xi (N := E.2.2.2.2.1) (by decide) (by decide) rfl (show 0 ≤ jw32 (x3 + 1) by omega) (show jw32 (x3 + 1) < ((E.2.2.2.2.1 : Nat) : Int) by omega) (fun v147 ev147 => ?_)
          replace ev147 : v147 = jxv E (-2) (jw32 (x3 + 1)) := ev147
          have e148 : jw32 (x3 + 2) = x3 + 2 := j32e (by omega) (by omega)
          refine st_xi (N := E.2.2.2.2.1) (by decide) (by decide) rfl (show 0 ≤ jw32 (x3 + 2) by omega) (show jw32 (x3 + 2) < ((E.2.2.2.2.1 : Nat) : Int) by omega) (fun v149 ev149 => ?_)
          replace ev149 : v149 = jxv E (-2) (jw32 (x3 + 2)) := ev149
          refine st_cv (na := 2) (st := [.inl v149, .inl v147, .inr (.inr (.inl 176))]) jo_176 rfl rfl rfl (c_X12_lead v147 v149 g143) rfl ?_
          rintro _ _ g151 ⟨rfl, ft150, t150, rfl, ht150, zt150⟩ kt150
          replace kt150 : -2147483648 ≤ t150 ∧ t150 ≤ 2147483647 := kt150
          replace ht150 : -1 ≤ t150 ∧ t150 ≤ 2000000007 := ht150
          replace zt150 : (P_X12_lead v147 v149 t150 g143 g151) ∧ jRx (2000000000 < t150) g143 g151 := zt150
          have li152 : jLI g151 := jLI_fr (ft150 176 0 (by unfold w_X12_lead; omega)) (ft150 0 0 (by unfold w_X12_lead; omega)) (fun t => ft150 87 t (by unfold w_X12_lead; omega)) li144
          have dli152 : g151 176 0 ≤ 2000 := li152.1
          have za154 := zt150.1
          have zb155 := zt150.2
          rw [show v147 = v139 by omega, show v149 = v141 by omega] at za154
          have qe156 := pr_lead ft142 ft150 zt142.1 za154 sm (fun exy => jAh_m zt142.2 (fun b9 => zb155 (by omega)) (fun k9 => ft150 111 k9 (by unfold w_X12_lead; omega)) (fun i9 k9 q9 => by unfold jwh3 at q9; exact ft150 i9 k9 (by unfold w_X12_lead; omega)) (jI_ah sm))
          have eqe156 := qe156.1
          have sm153 : jI g151 := qe156.2
          clear qe156 za154
          show jGo E l 179 0 229 _ 1410 [.inr (.inr (.inl (-2))), .inr (.inr (.inl 0)), .inr (.inr (.inl 176)), .inl x3] [] 229 jr0 g151
          refine jGo_blk qL_law_1410 ?_
          have e157 : jw32 (x3 + 6) = x3 + 6 := j32e (by omega) (by omega)
          show jGo E l 179 0 229 _ 18 [.inr (.inr (.inl (-2))), .inr (.inr (.inl 0)), .inr (.inr (.inl 176)), .inl (jw32 (x3 + 6))] [] 229 jr0 g151
          exact ih (jw32 (x3 + 6)) g151 (by omega) li152 sm153 (by omega)
        · replace c6 : jand v4 63 = 7 := c6
          show jGo E l 179 0 229 _ 453 [.inr (.inr (.inl (-2))), .inr (.inr (.inl 0)), .inr (.inr (.inl 176)), .inl x3] [] 229 jr0 g
          refine jGo_blk qL_law_453 ?_
          have e158 : jw32 (x3 + 1) = x3 + 1 := j32e (by omega) (by omega)
          refine st_xi (N := E.2.2.2.2.1) (by decide) (by decide) rfl (show 0 ≤ jw32 (x3 + 1) by omega) (show jw32 (x3 + 1) < ((E.2.2.2.2.1 : Nat) : Int) by omega) (fun v159 ev159 => ?_)
          replace ev159 : v159 = jxv E (-2) (jw32 (x3 + 1)) := ev159
          have e160 : jw32 (x3 + 2) = x3 + 2 := j32e (by omega) (by omega)
          refine st_xi (N := E.2.2.2.2.1) (by decide) (by decide) rfl (show 0 ≤ jw32 (x3 + 2) by omega) (show jw32 (x3 + 2) < ((E.2.2.2.2.1 : Nat) : Int) by omega) (fun v161 ev161 => ?_)
          replace ev161 : v161 = jxv E (-2) (jw32 (x3 + 2)) := ev161
          refine st_cv (na := 2) (st := [.inl v161, .inl v159, .inr (.inr (.inl 0))]) jo_0 rfl rfl rfl (c_X11_handsOn v159 v161 g) rfl ?_
          rintro _ _ g163 ⟨rfl, ft162, t162, rfl, ht162, zt162⟩ kt162
          replace kt162 : -2147483648 ≤ t162 ∧ t162 ≤ 2147483647 := kt162
          replace ht162 : -7 ≤ t162 ∧ t162 ≤ 400 := ht162
          replace zt162 : P_X11_handsOn v159 v161 t162 g := zt162
          have li164 : jLI g163 := jLI_fr (ft162 176 0 (by unfold w_X11_handsOn; omega)) (ft162 0 0 (by unfold w_X11_handsOn; omega)) (fun t => ft162 87 t (by unfold w_X11_handsOn; omega)) li
          have dli164 : g163 176 0 ≤ 2000 := li164.1
          have e166 : jw32 (x3 + 1) = x3 + 1 := j32e (by omega) (by omega)
          refine st_xi (N := E.2.2.2.2.1) (by decide) (by decide) rfl (show 0 ≤ jw32 (x3 + 1) by omega) (show jw32 (x3 + 1) < ((E.2.2.2.2.1 : Nat) : Int) by omega) (fun v167 ev167 => ?_)
          replace ev167 : v167 = jxv E (-2) (jw32 (x3 + 1)) := ev167
          have e168 : jw32 (x3 + 2) = x3 + 2 := j32e (by omega) (by omega)
          refine st_xi (N := E.2.2.2.2.1) (by decide) (by decide) rfl (show 0 ≤ jw32 (x3 + 2) by omega) (show jw32 (x3 + 2) < ((E.2.2.2.2.1 : Nat) : Int) by omega) (fun v169 ev169 => ?_)
          replace ev169 : v169 = jxv E (-2) (jw32 (x3 + 2)) := ev169
          refine st_cv (na := 2) (st := [.inl v169, .inl v167, .inr (.inr (.inl 176))]) jo_176 rfl rfl rfl (c_X12_handsOn v167 v169 g163) rfl ?_
          rintro _ _ g171 ⟨rfl, ft170, t170, rfl, ht170, zt170⟩ kt170
          replace kt170 : -2147483648 ≤ t170 ∧ t170 ≤ 2147483647 := kt170
          replace ht170 : -7 ≤ t170 ∧ t170 ≤ 400 := ht170
          replace zt170 : P_X12_handsOn v167 v169 t170 g163 := zt170
          have li172 : jLI g171 := jLI_fr (ft170 176 0 (by unfold w_X12_handsOn; omega)) (ft170 0 0 (by unfold w_X12_handsOn; omega)) (fun t => ft170 87 t (by unfold w_X12_handsOn; omega)) li164
          have dli172 : g171 176 0 ≤ 2000 := li172.1
          rw [show v167 = v159 by omega, show v169 = v161 by omega] at zt170
          have qe174 := pr_handsOn ft162 ft170 zt162 zt170 sm
          have eqe174 := qe174.1
          have sm173 : jI g171 := qe174.2
          clear qe174 zt170
          show jGo E l 179 0 229 _ 1410 [.inr (.inr (.inl (-2))), .inr (.inr (.inl 0)), .inr (.inr (.inl 176)), .inl x3] [] 229 jr0 g171
          refine jGo_blk qL_law_1410 ?_
          have e175 : jw32 (x3 + 6) = x3 + 6 := j32e (by omega) (by omega)
          show jGo E l 179 0 229 _ 18 [.inr (.inr (.inl (-2))), .inr (.inr (.inl 0)), .inr (.inr (.inl 176)), .inl (jw32 (x3 + 6))] [] 229 jr0 g171
          exact ih (jw32 (x3 + 6)) g171 (by omega) li172 sm173 (by omega)
        · replace c6 : jand v4 63 = 8 := c6
          show jGo E l 179 0 229 _ 486 [.inr (.inr (.inl (-2))), .inr (.inr (.inl 0)), .inr (.inr (.inl 176)), .inl x3] [] 229 jr0 g
          refine jGo_blk qL_law_486 ?_
          have e176 : jw32 (x3 + 1) = x3 + 1 := j32e (by omega) (by omega)
          refine st_xi (N := E.2.2.2.2.1) (by decide) (by decide) rfl (show 0 ≤ jw32 (x3 + 1) by omega) (show jw32 (x3 + 1) < ((E.2.2.2.2.1 : Nat) : Int) by omega) (fun v177 ev177 => ?_)
          replace ev177 : v177 = jxv E (-2) (jw32 (x3 + 1)) := ev177
          have e178 : jw32 (x3 + 2) = x3 + 2 := j32e (by omega) (by omega)
          refine st_xi (N := E.2.2.2.2.1) (by decide) (by decide) rfl (show 0 ≤ jw32 (x3 + 2) by omega) (show jw32 (x3 + 2) < ((E.2.2.2.2.1 : Nat) : Int) by omega) (fun v179 ev179 => ?_)
          replace ev179 : v179 = jxv E (-2) (jw32 (x3 + 2)) := ev179
          have e180 : jw32 (x3 + 3) = x3 + 3 := j32e (by omega) (by omega)
          refine st_xi (N := E.2.2.2.2.1) (by decide) (by decide) rfl (show 0 ≤ jw32 (x3 + 3) by omega) (show jw32 (x3 + 3) < ((E.2.2.2.2.1 : Nat) : Int) by omega) (fun v181 ev181 => ?_)
          replace ev181 : v181 = jxv E (-2) (jw32 (x3 + 3)) := ev181
          have e182 : jw32 (x3 + 4) = x3 + 4 := j32e (by omega) (by omega)
          refine st_xi (N := E.2.2.2.2.1) (by decide) (by decide) rfl (show 0 ≤ jw32 (x3 + 4) by omega) (show jw32 (x3 + 4) < ((E.2.2.2.2.1 : Nat) : Int) by omega) (fun v183 ev183 => ?_)
          replace ev183 : v183 = jxv E (-2) (jw32 (x3 + 4)) := ev183
          refine st_cv (na := 4) (st := [.inl v183, .inl v181, .inl v179, .inl v177, .inr (.inr (.inl 0))]) jo_0 rfl rfl rfl (c_X11_decree v177 v179 v181 v183 g) rfl ?_
          rintro _ _ g185 ⟨rfl, ft184, t184, rfl, ht184, zt184⟩ kt184
          replace kt184 : -2147483648 ≤ t184 ∧ t184 ≤ 2147483647 := kt184
          replace ht184 : -7 ≤ t184 ∧ t184 ≤ 39 := ht184
          replace zt184 : (P_X11_decree v177 v179 v181 v183 t184 g g185) ∧ jFg (t184 < 0) g g185 := zt184
          have li186 : jLI g185 := jLI_fr (ft184 176 0 (by unfold w_X11_decree; omega)) (ft184 0 0 (by unfold w_X11_decree; omega)) (fun t => ft184 87 t (by unfold w_X11_decree; omega)) li
          have dli186 : g185 176 0 ≤ 2000 := li186.1
          have e188 : jw32 (x3 + 1) = x3 + 1 := j32e (by omega) (by omega)
          refine st_xi (N := E.2.2.2.2.1) (by decide) (by decide) rfl (show 0 ≤ jw32 (x3 + 1) by omega) (show jw32 (x3 + 1) < ((E.2.2.2.2.1 : Nat) : Int) by omega) (fun v189 ev189 => ?_)
          replace ev189 : v189 = jxv E (-2) (jw32 (x3 + 1)) := ev189
          have e190 : jw32 (x3 + 2) = x3 + 2 := j32e (by omega) (by omega)
          refine st_xi (N := E.2.2.2.2.1) (by decide) (by decide) rfl (show 0 ≤ jw32 (x3 + 2) by omega) (show jw32 (x3 + 2) < ((E.2.2.2.2.1 : Nat) : Int) by omega) (fun v191 ev191 => ?_)
          replace ev191 : v191 = jxv E (-2) (jw32 (x3 + 2)) := ev191
          have e192 : jw32 (x3 + 3) = x3 + 3 := j32e (by omega) (by omega)
          refine st_xi (N := E.2.2.2.2.1) (by decide) (by decide) rfl (show 0 ≤ jw32 (x3 + 3) by omega) (show jw32 (x3 + 3) < ((E.2.2.2.2.1 : Nat) : Int) by omega) (fun v193 ev193 => ?_)
          replace ev193 : v193 = jxv E (-2) (jw32 (x3 + 3)) := ev193
          have e194 : jw32 (x3 + 4) = x3 + 4 := j32e (by omega) (by omega)
          refine st_xi (N := E.2.2.2.2.1) (by decide) (by decide) rfl (show 0 ≤ jw32 (x3 + 4) by omega) (show jw32 (x3 + 4) < ((E.2.2.2.2.1 : Nat) : Int) by omega) (fun v195 ev195 => ?_)
          replace ev195 : v195 = jxv E (-2) (jw32 (x3 + 4)) := ev195
          refine st_cv (na := 4) (st := [.inl v195, .inl v193, .inl v191, .inl v189, .inr (.inr (.inl 176))]) jo_176 rfl rfl rfl (c_X12_decree v189 v191 v193 v195 g185) rfl ?_
          rintro _ _ g197 ⟨rfl, ft196, t196, rfl, ht196, zt196⟩ kt196
          replace kt196 : -2147483648 ≤ t196 ∧ t196 ≤ 2147483647 := kt196
          replace ht196 : -7 ≤ t196 ∧ t196 ≤ 39 := ht196
          replace zt196 : (P_X12_decree v189 v191 v193 v195 t196 g185 g197) ∧ jRx (t196 < 0) g185 g197 := zt196
          have li198 : jLI g197 := jLI_fr (ft196 176 0 (by unfold w_X12_decree; omega)) (ft196 0 0 (by unfold w_X12_decree; omega)) (fun t => ft196 87 t (by unfold w_X12_decree; omega)) li186
          have dli198 : g197 176 0 ≤ 2000 := li198.1
          have za200 := zt196.1
          have zb201 := zt196.2
          rw [show v189 = v177 by omega, show v191 = v179 by omega, show v193 = v181 by omega, show v195 = v183 by omega] at za200
          have qe202 := pr_decree ft184 ft196 zt184.1 za200 sm dd0 (fun exy => jAh_m zt184.2 (fun b9 => zb201 (by omega)) (fun k9 => ft196 111 k9 (by unfold w_X12_decree; omega)) (fun i9 k9 q9 => by unfold jwh3 at q9; exact ft196 i9 k9 (by unfold w_X12_decree; omega)) (jI_ah sm))
          have eqe202 := qe202.1
          have sm199 : jI g197 := qe202.2
          clear qe202 za200
          show jGo E l 179 0 229 _ 1410 [.inr (.inr (.inl (-2))), .inr (.inr (.inl 0)), .inr (.inr (.inl 176)), .inl x3] [] 229 jr0 g197
          refine jGo_blk qL_law_1410 ?_
          have e203 : jw32 (x3 + 6) = x3 + 6 := j32e (by omega) (by omega)
          show jGo E l 179 0 229 _ 18 [.inr (.inr (.inl (-2))), .inr (.inr (.inl 0)), .inr (.inr (.inl 176)), .inl (jw32 (x3 + 6))] [] 229 jr0 g197
          exact ih (jw32 (x3 + 6)) g197 (by omega) li198 sm199 (by omega)
        · replace c6 : jand v4 63 = 9 := c6
          show jGo E l 179 0 229 _ 539 [.inr (.inr (.inl (-2))), .inr (.inr (.inl 0)), .inr (.inr (.inl 176)), .inl x3] [] 229 jr0 g
          refine jGo_blk qL_law_539 ?_
          have e204 : jw32 (x3 + 1) = x3 + 1 := j32e (by omega) (by omega)
          refine st_xi (N := E.2.2.2.2.1) (by decide) (by decide) rfl (show 0 ≤ jw32 (x3 + 1) by omega) (show jw32 (x3 + 1) < ((E.2.2.2.2.1 : Nat) : Int) by omega) (fun v205 ev205 => ?_)
          replace ev205 : v205 = jxv E (-2) (jw32 (x3 + 1)) := ev205
          have e206 : jw32 (x3 + 2) = x3 + 2 := j32e (by omega) (by omega)
          refine st_xi (N := E.2.2.2.2.1) (by decide) (by decide) rfl (show 0 ≤ jw32 (x3 + 2) by omega) (show jw32 (x3 + 2) < ((E.2.2.2.2.1 : Nat) : Int) by omega) (fun v207 ev207 => ?_)
          replace ev207 : v207 = jxv E (-2) (jw32 (x3 + 2)) := ev207
          have e208 : jw32 (x3 + 3) = x3 + 3 := j32e (by omega) (by omega)
          refine st_xi (N := E.2.2.2.2.1) (by decide) (by decide) rfl (show 0 ≤ jw32 (x3 + 3) by omega) (show jw32 (x3 + 3) < ((E.2.2.2.2.1 : Nat) : Int) by omega) (fun v209 ev209 => ?_)
          replace ev209 : v209 = jxv E (-2) (jw32 (x3 + 3)) := ev209
          refine st_cv (na := 3) (st := [.inl v209, .inl v207, .inl v205, .inr (.inr (.inl 0))]) jo_0 rfl rfl rfl (c_X11_force v205 v207 v209 g) rfl ?_
          rintro _ _ g211 ⟨rfl, ft210, t210, rfl, ht210, zt210⟩ kt210
          replace kt210 : -2147483648 ≤ t210 ∧ t210 ≤ 2147483647 := kt210
          replace ht210 : -7 ≤ t210 ∧ t210 ≤ 200 := ht210
          replace zt210 : P_X11_force v205 v207 v209 t210 g := zt210
          have li212 : jLI g211 := jLI_fr (ft210 176 0 (by unfold w_X11_force; omega)) (ft210 0 0 (by unfold w_X11_force; omega)) (fun t => ft210 87 t (by unfold w_X11_force; omega)) li
          have dli212 : g211 176 0 ≤ 2000 := li212.1
          have e214 : jw32 (x3 + 1) = x3 + 1 := j32e (by omega) (by omega)
          refine st_xi (N := E.2.2.2.2.1) (by decide) (by decide) rfl (show 0 ≤ jw32 (x3 + 1) by omega) (show jw32 (x3 + 1) < ((E.2.2.2.2.1 : Nat) : Int) by omega) (fun v215 ev215 => ?_)
          replace ev215 : v215 = jxv E (-2) (jw32 (x3 + 1)) := ev215
          have e216 : jw32 (x3 + 2) = x3 + 2 := j32e (by omega) (by omega)
          refine st_xi (N := E.2.2.2.2.1) (by decide) (by decide) rfl (show 0 ≤ jw32 (x3 + 2) by omega) (show jw32 (x3 + 2) < ((E.2.2.2.2.1 : Nat) : Int) by omega) (fun v217 ev217 => ?_)
          replace ev217 : v217 = jxv E (-2) (jw32 (x3 + 2)) := ev217
          have e218 : jw32 (x3 + 3) = x3 + 3 := j32e (by omega) (by omega)
          refine st_xi (N := E.2.2.2.2.1) (by decide) (by decide) rfl (show 0 ≤ jw32 (x3 + 3) by omega) (show jw32 (x3 + 3) < ((E.2.2.2.2.1 : Nat) : Int) by omega) (fun v219 ev219 => ?_)
          replace ev219 : v219 = jxv E (-2) (jw32 (x3 + 3)) := ev219
          refine st_cv (na := 3) (st := [.inl v219, .inl v217, .inl v215, .inr (.inr (.inl 176))]) jo_176 rfl rfl rfl (c_X12_force v215 v217 v219 g211) rfl ?_
          rintro _ _ g221 ⟨rfl, ft220, t220, rfl, ht220, zt220⟩ kt220
          replace kt220 : -2147483648 ≤ t220 ∧ t220 ≤ 2147483647 := kt220
          replace ht220 : -7 ≤ t220 ∧ t220 ≤ 200 := ht220
          replace zt220 : P_X12_force v215 v217 v219 t220 g211 := zt220
          have li222 : jLI g221 := jLI_fr (ft220 176 0 (by unfold w_X12_force; omega)) (ft220 0 0 (by unfold w_X12_force; omega)) (fun t => ft220 87 t (by unfold w_X12_force; omega)) li212
          have dli222 : g221 176 0 ≤ 2000 := li222.1
          rw [show v215 = v205 by omega, show v217 = v207 by omega, show v219 = v209 by omega] at zt220
          have qe224 := pr_force ft210 ft220 zt210 zt220 sm
          have eqe224 := qe224.1
          have sm223 : jI g221 := qe224.2
          clear qe224 zt220
          show jGo E l 179 0 229 _ 1410 [.inr (.inr (.inl (-2))), .inr (.inr (.inl 0)), .inr (.inr (.inl 176)), .inl x3] [] 229 jr0 g221
          refine jGo_blk qL_law_1410 ?_
          have e225 : jw32 (x3 + 6) = x3 + 6 := j32e (by omega) (by omega)
          show jGo E l 179 0 229 _ 18 [.inr (.inr (.inl (-2))), .inr (.inr (.inl 0)), .inr (.inr (.inl 176)), .inl (jw32 (x3 + 6))] [] 229 jr0 g221
          exact ih (jw32 (x3 + 6)) g221 (by omega) li222 sm223 (by omega)
        · replace c6 : jand v4 63 = 10 := c6
          show jGo E l 179 0 229 _ 582 [.inr (.inr (.inl (-2))), .inr (.inr (.inl 0)), .inr (.inr (.inl 176)), .inl x3] [] 229 jr0 g
          refine jGo_blk qL_law_582 ?_
          have e226 : jw32 (x3 + 1) = x3 + 1 := j32e (by omega) (by omega)
          refine st_xi (N := E.2.2.2.2.1) (by decide) (by decide) rfl (show 0 ≤ jw32 (x3 + 1) by omega) (show jw32 (x3 + 1) < ((E.2.2.2.2.1 : Nat) : Int) by omega) (fun v227 ev227 => ?_)
          replace ev227 : v227 = jxv E (-2) (jw32 (x3 + 1)) := ev227
          have e228 : jw32 (x3 + 2) = x3 + 2 := j32e (by omega) (by omega)
          refine st_xi (N := E.2.2.2.2.1) (by decide) (by decide) rfl (show 0 ≤ jw32 (x3 + 2) by omega) (show jw32 (x3 + 2) < ((E.2.2.2.2.1 : Nat) : Int) by omega) (fun v229 ev229 => ?_)
          replace ev229 : v229 = jxv E (-2) (jw32 (x3 + 2)) := ev229
          have e230 : jw32 (x3 + 3) = x3 + 3 := j32e (by omega) (by omega)
          refine st_xi (N := E.2.2.2.2.1) (by decide) (by decide) rfl (show 0 ≤ jw32 (x3 + 3) by omega) (show jw32 (x3 + 3) < ((E.2.2.2.2.1 : Nat) : Int) by omega) (fun v231 ev231 => ?_)
          replace ev231 : v231 = jxv E (-2) (jw32 (x3 + 3)) := ev231
          have e232 : jw32 (x3 + 4) = x3 + 4 := j32e (by omega) (by omega)
          refine st_xi (N := E.2.2.2.2.1) (by decide) (by decide) rfl (show 0 ≤ jw32 (x3 + 4) by omega) (show jw32 (x3 + 4) < ((E.2.2.2.2.1 : Nat) : Int) by omega) (fun v233 ev233 => ?_)
          replace ev233 : v233 = jxv E (-2) (jw32 (x3 + 4)) := ev233
          refine st_cv (na := 4) (st := [.inl v233, .inl v231, .inl v229, .inl v227, .inr (.inr (.inl 0))]) jo_0 rfl rfl rfl (c_X11_task v227 v229 v231 v233 g) rfl ?_
          rintro _ _ g235 ⟨rfl, ft234, t234, rfl, ht234, zt234⟩ kt234
          replace kt234 : -2147483648 ≤ t234 ∧ t234 ≤ 2147483647 := kt234
          replace ht234 : -7 ≤ t234 ∧ t234 ≤ 2000 := ht234
          replace zt234 : (P_X11_task v227 v229 v231 v233 t234 g g235) ∧ jFg (t234 < 0) g g235 := zt234
          have li236 : jLI g235 := jLI_fr (ft234 176 0 (by unfold w_X11_task; omega)) (ft234 0 0 (by unfold w_X11_task; omega)) (fun t => ft234 87 t (by unfold w_X11_task; omega)) li
          have dli236 : g235 176 0 ≤ 2000 := li236.1
          have e238 : jw32 (x3 + 1) = x3 + 1 := j32e (by omega) (by omega)
          refine st_xi (N := E.2.2.2.2.1) (by decide) (by decide) rfl (show 0 ≤ jw32 (x3 + 1) by omega) (show jw32 (x3 + 1) < ((E.2.2.2.2.1 : Nat) : Int) by omega) (fun v239 ev239 => ?_)
          replace ev239 : v239 = jxv E (-2) (jw32 (x3 + 1)) := ev239
          have e240 : jw32 (x3 + 2) = x3 + 2 := j32e (by omega) (by omega)
          refine st_xi (N := E.2.2.2.2.1) (by decide) (by decide) rfl (show 0 ≤ jw32 (x3 + 2) by omega) (show jw32 (x3 + 2) < ((E.2.2.2.2.1 : Nat) : Int) by omega) (fun v241 ev241 => ?_)
          replace ev241 : v241 = jxv E (-2) (jw32 (x3 + 2)) := ev241
          have e242 : jw32 (x3 + 3) = x3 + 3 := j32e (by omega) (by omega)
          refine st_xi (N := E.2.2.2.2.1) (by decide) (by decide) rfl (show 0 ≤ jw32 (x3 + 3) by omega) (show jw32 (x3 + 3) < ((E.2.2.2.2.1 : Nat) : Int) by omega) (fun v243 ev243 => ?_)
          replace ev243 : v243 = jxv E (-2) (jw32 (x3 + 3)) := ev243
          have e244 : jw32 (x3 + 4) = x3 + 4 := j32e (by omega) (by omega)
          refine st_xi (N := E.2.2.2.2.1) (by decide) (by decide) rfl (show 0 ≤ jw32 (x3 + 4) by omega) (show jw32 (x3 + 4) < ((E.2.2.2.2.1 : Nat) : Int) by omega) (fun v245 ev245 => ?_)
          replace ev245 : v245 = jxv E (-2) (jw32 (x3 + 4)) := ev245
          refine st_cv (na := 4) (st := [.inl v245, .inl v243, .inl v241, .inl v239, .inr (.inr (.inl 176))]) jo_176 rfl rfl rfl (c_X12_task v239 v241 v243 v245 g235) rfl ?_
          rintro _ _ g247 ⟨rfl, ft246, t246, rfl, ht246, zt246⟩ kt246
          replace kt246 : -2147483648 ≤ t246 ∧ t246 ≤ 2147483647 := kt246
          replace ht246 : -7 ≤ t246 ∧ t246 ≤ 2000 := ht246
          replace zt246 : (P_X12_task v239 v241 v243 v245 t246 g235 g247) ∧ jRx (t246 < 0) g235 g247 := zt246
          have li248 : jLI g247 := jLI_fr (ft246 176 0 (by unfold w_X12_task; omega)) (ft246 0 0 (by unfold w_X12_task; omega)) (fun t => ft246 87 t (by unfold w_X12_task; omega)) li236
          have dli248 : g247 176 0 ≤ 2000 := li248.1
          have za250 := zt246.1
          have zb251 := zt246.2
          rw [show v239 = v227 by omega, show v241 = v229 by omega, show v243 = v231 by omega, show v245 = v233 by omega] at za250
          have qe252 := pr_task ft234 ft246 zt234.1 za250 sm (fun exy => jAh_m zt234.2 (fun b9 => zb251 (by omega)) (fun k9 => ft246 111 k9 (by unfold w_X12_task; omega)) (fun i9 k9 q9 => by unfold jwh3 at q9; exact ft246 i9 k9 (by unfold w_X12_task; omega)) (jI_ah sm))
          have eqe252 := qe252.1
          have sm249 : jI g247 := qe252.2
          clear qe252 za250
          show jGo E l 179 0 229 _ 1410 [.inr (.inr (.inl (-2))), .inr (.inr (.inl 0)), .inr (.inr (.inl 176)), .inl x3] [] 229 jr0 g247
          refine jGo_blk qL_law_1410 ?_
          have e253 : jw32 (x3 + 6) = x3 + 6 := j32e (by omega) (by omega)
          show jGo E l 179 0 229 _ 18 [.inr (.inr (.inl (-2))), .inr (.inr (.inl 0)), .inr (.inr (.inl 176)), .inl (jw32 (x3 + 6))] [] 229 jr0 g247
          exact ih (jw32 (x3 + 6)) g247 (by omega) li248 sm249 (by omega)
        · replace c6 : jand v4 63 = 11 := c6
          show jGo E l 179 0 229 _ 635 [.inr (.inr (.inl (-2))), .inr (.inr (.inl 0)), .inr (.inr (.inl 176)), .inl x3] [] 229 jr0 g
          refine jGo_blk qL_law_635 ?_
          have e254 : jw32 (x3 + 1) = x3 + 1 := j32e (by omega) (by omega)
          refine st_xi (N := E.2.2.2.2.1) (by decide) (by decide) rfl (show 0 ≤ jw32 (x3 + 1) by omega) (show jw32 (x3 + 1) < ((E.2.2.2.2.1 : Nat) : Int) by omega) (fun v255 ev255 => ?_)
          replace ev255 : v255 = jxv E (-2) (jw32 (x3 + 1)) := ev255
          have e256 : jw32 (x3 + 2) = x3 + 2 := j32e (by omega) (by omega)
          refine st_xi (N := E.2.2.2.2.1) (by decide) (by decide) rfl (show 0 ≤ jw32 (x3 + 2) by omega) (show jw32 (x3 + 2) < ((E.2.2.2.2.1 : Nat) : Int) by omega) (fun v257 ev257 => ?_)
          replace ev257 : v257 = jxv E (-2) (jw32 (x3 + 2)) := ev257
          have e258 : jw32 (x3 + 3) = x3 + 3 := j32e (by omega) (by omega)
          refine st_xi (N := E.2.2.2.2.1) (by decide) (by decide) rfl (show 0 ≤ jw32 (x3 + 3) by omega) (show jw32 (x3 + 3) < ((E.2.2.2.2.1 : Nat) : Int) by omega) (fun v259 ev259 => ?_)
          replace ev259 : v259 = jxv E (-2) (jw32 (x3 + 3)) := ev259
          have e260 : jw32 (x3 + 4) = x3 + 4 := j32e (by omega) (by omega)
          refine st_xi (N := E.2.2.2.2.1) (by decide) (by decide) rfl (show 0 ≤ jw32 (x3 + 4) by omega) (show jw32 (x3 + 4) < ((E.2.2.2.2.1 : Nat) : Int) by omega) (fun v261 ev261 => ?_)
          replace ev261 : v261 = jxv E (-2) (jw32 (x3 + 4)) := ev261
          refine st_cv (na := 4) (st := [.inl v261, .inl v259, .inl v257, .inl v255, .inr (.inr (.inl 0))]) jo_0 rfl rfl rfl (c_X11_needs v255 v257 v259 v261 g) rfl ?_
          rintro _ _ g263 ⟨rfl, ft262, t262, rfl, ht262, zt262⟩ kt262
          replace kt262 : -2147483648 ≤ t262 ∧ t262 ≤ 2147483647 := kt262
          replace ht262 : -7 ≤ t262 ∧ t262 ≤ 500 := ht262
          replace zt262 : (P_X11_needs v255 v257 v259 v261 t262 g g263) ∧ jFg (t262 < 0) g g263 := zt262
          have li264 : jLI g263 := jLI_fr (ft262 176 0 (by unfold w_X11_needs; omega)) (ft262 0 0 (by unfold w_X11_needs; omega)) (fun t => ft262 87 t (by unfold w_X11_needs; omega)) li
          have dli264 : g263 176 0 ≤ 2000 := li264.1
          have e266 : jw32 (x3 + 1) = x3 + 1 := j32e (by omega) (by omega)
          refine st_xi (N := E.2.2.2.2.1) (by decide) (by decide) rfl (show 0 ≤ jw32 (x3 + 1) by omega) (show jw32 (x3 + 1) < ((E.2.2.2.2.1 : Nat) : Int) by omega) (fun v267 ev267 => ?_)
          replace ev267 : v267 = jxv E (-2) (jw32 (x3 + 1)) := ev267
          have e268 : jw32 (x3 + 2) = x3 + 2 := j32e (by omega) (by omega)
          refine st_xi (N := E.2.2.2.2.1) (by decide) (by decide) rfl (show 0 ≤ jw32 (x3 + 2) by omega) (show jw32 (x3 + 2) < ((E.2.2.2.2.1 : Nat) : Int) by omega) (fun v269 ev269 => ?_)
          replace ev269 : v269 = jxv E (-2) (jw32 (x3 + 2)) := ev269
          have e270 : jw32 (x3 + 3) = x3 + 3 := j32e (by omega) (by omega)
          refine st_xi (N := E.2.2.2.2.1) (by decide) (by decide) rfl (show 0 ≤ jw32 (x3 + 3) by omega) (show jw32 (x3 + 3) < ((E.2.2.2.2.1 : Nat) : Int) by omega) (fun v271 ev271 => ?_)
          replace ev271 : v271 = jxv E (-2) (jw32 (x3 + 3)) := ev271
          have e272 : jw32 (x3 + 4) = x3 + 4 := j32e (by omega) (by omega)
          refine st_xi (N := E.2.2.2.2.1) (by decide) (by decide) rfl (show 0 ≤ jw32 (x3 + 4) by omega) (show jw32 (x3 + 4) < ((E.2.2.2.2.1 : Nat) : Int) by omega) (fun v273 ev273 => ?_)
          replace ev273 : v273 = jxv E (-2) (jw32 (x3 + 4)) := ev273
          refine st_cv (na := 4) (st := [.inl v273, .inl v271, .inl v269, .inl v267, .inr (.inr (.inl 176))]) jo_176 rfl rfl rfl (c_X12_needs v267 v269 v271 v273 g263) rfl ?_
          rintro _ _ g275 ⟨rfl, ft274, t274, rfl, ht274, zt274⟩ kt274
          replace kt274 : -2147483648 ≤ t274 ∧ t274 ≤ 2147483647 := kt274
          replace ht274 : -7 ≤ t274 ∧ t274 ≤ 500 := ht274
          replace zt274 : (P_X12_needs v267 v269 v271 v273 t274 g263 g275) ∧ jRx (t274 < 0) g263 g275 := zt274
          have li276 : jLI g275 := jLI_fr (ft274 176 0 (by unfold w_X12_needs; omega)) (ft274 0 0 (by unfold w_X12_needs; omega)) (fun t => ft274 87 t (by unfold w_X12_needs; omega)) li264
          have dli276 : g275 176 0 ≤ 2000 := li276.1
          have za278 := zt274.1
          have zb279 := zt274.2
          rw [show v267 = v255 by omega, show v269 = v257 by omega, show v271 = v259 by omega, show v273 = v261 by omega] at za278
          have qe280 := pr_needs ft262 ft274 zt262.1 za278 sm (fun exy => jAh_m zt262.2 (fun b9 => zb279 (by omega)) (fun k9 => ft274 111 k9 (by unfold w_X12_needs; omega)) (fun i9 k9 q9 => by unfold jwh3 at q9; exact ft274 i9 k9 (by unfold w_X12_needs; omega)) (jI_ah sm))
          have eqe280 := qe280.1
          have sm277 : jI g275 := qe280.2
          clear qe280 za278
          show jGo E l 179 0 229 _ 1410 [.inr (.inr (.inl (-2))), .inr (.inr (.inl 0)), .inr (.inr (.inl 176)), .inl x3] [] 229 jr0 g275
          refine jGo_blk qL_law_1410 ?_
          have e281 : jw32 (x3 + 6) = x3 + 6 := j32e (by omega) (by omega)
          show jGo E l 179 0 229 _ 18 [.inr (.inr (.inl (-2))), .inr (.inr (.inl 0)), .inr (.inr (.inl 176)), .inl (jw32 (x3 + 6))] [] 229 jr0 g275
          exact ih (jw32 (x3 + 6)) g275 (by omega) li276 sm277 (by omega)
        · replace c6 : jand v4 63 = 12 := c6
          show jGo E l 179 0 229 _ 688 [.inr (.inr (.inl (-2))), .inr (.inr (.inl 0)), .inr (.inr (.inl 176)), .inl x3] [] 229 jr0 g
          refine jGo_blk qL_law_688 ?_
          have e282 : jw32 (x3 + 1) = x3 + 1 := j32e (by omega) (by omega)
          refine st_xi (N := E.2.2.2.2.1) (by decide) (by decide) rfl (show 0 ≤ jw32 (x3 + 1) by omega) (show jw32 (x3 + 1) < ((E.2.2.2.2.1 : Nat) : Int) by omega) (fun v283 ev283 => ?_)
          replace ev283 : v283 = jxv E (-2) (jw32 (x3 + 1)) := ev283
          have e284 : jw32 (x3 + 2) = x3 + 2 := j32e (by omega) (by omega)
          refine st_xi (N := E.2.2.2.2.1) (by decide) (by decide) rfl (show 0 ≤ jw32 (x3 + 2) by omega) (show jw32 (x3 + 2) < ((E.2.2.2.2.1 : Nat) : Int) by omega) (fun v285 ev285 => ?_)
          replace ev285 : v285 = jxv E (-2) (jw32 (x3 + 2)) := ev285
          have e286 : jw32 (x3 + 3) = x3 + 3 := j32e (by omega) (by omega)
          refine st_xi (N := E.2.2.2.2.1) (by decide) (by decide) rfl (show 0 ≤ jw32 (x3 + 3) by omega) (show jw32 (x3 + 3) < ((E.2.2.2.2.1 : Nat) : Int) by omega) (fun v287 ev287 => ?_)
          replace ev287 : v287 = jxv E (-2) (jw32 (x3 + 3)) := ev287
          refine st_cv (na := 3) (st := [.inl v287, .inl v285, .inl v283, .inr (.inr (.inl 0))]) jo_0 rfl rfl rfl (c_X11_hull v283 v285 v287 g) rfl ?_
          rintro _ _ g289 ⟨rfl, ft288, t288, rfl, ht288, zt288⟩ kt288
          replace kt288 : -2147483648 ≤ t288 ∧ t288 ≤ 2147483647 := kt288
          replace ht288 : -7 ≤ t288 ∧ t288 ≤ 15 := ht288
          replace zt288 : (P_X11_hull v283 v285 v287 t288 g g289) ∧ jFg (t288 < 0) g g289 := zt288
          have li290 : jLI g289 := jLI_fr (ft288 176 0 (by unfold w_X11_hull; omega)) (ft288 0 0 (by unfold w_X11_hull; omega)) (fun t => ft288 87 t (by unfold w_X11_hull; omega)) li
          have dli290 : g289 176 0 ≤ 2000 := li290.1
          have e292 : jw32 (x3 + 1) = x3 + 1 := j32e (by omega) (by omega)
          refine st_xi (N := E.2.2.2.2.1) (by decide) (by decide) rfl (show 0 ≤ jw32 (x3 + 1) by omega) (show jw32 (x3 + 1) < ((E.2.2.2.2.1 : Nat) : Int) by omega) (fun v293 ev293 => ?_)
          replace ev293 : v293 = jxv E (-2) (jw32 (x3 + 1)) := ev293
          have e294 : jw32 (x3 + 2) = x3 + 2 := j32e (by omega) (by omega)
          refine st_xi (N := E.2.2.2.2.1) (by decide) (by decide) rfl (show 0 ≤ jw32 (x3 + 2) by omega) (show jw32 (x3 + 2) < ((E.2.2.2.2.1 : Nat) : Int) by omega) (fun v295 ev295 => ?_)
          replace ev295 : v295 = jxv E (-2) (jw32 (x3 + 2)) := ev295
          have e296 : jw32 (x3 + 3) = x3 + 3 := j32e (by omega) (by omega)
          refine st_xi (N := E.2.2.2.2.1) (by decide) (by decide) rfl (show 0 ≤ jw32 (x3 + 3) by omega) (show jw32 (x3 + 3) < ((E.2.2.2.2.1 : Nat) : Int) by omega) (fun v297 ev297 => ?_)
          replace ev297 : v297 = jxv E (-2) (jw32 (x3 + 3)) := ev297
          refine st_cv (na := 3) (st := [.inl v297, .inl v295, .inl v293, .inr (.inr (.inl 176))]) jo_176 rfl rfl rfl (c_X12_hull v293 v295 v297 g289) rfl ?_
          rintro _ _ g299 ⟨rfl, ft298, t298, rfl, ht298, zt298⟩ kt298
          replace kt298 : -2147483648 ≤ t298 ∧ t298 ≤ 2147483647 := kt298
          replace ht298 : -7 ≤ t298 ∧ t298 ≤ 15 := ht298
          replace zt298 : (P_X12_hull v293 v295 v297 t298 g289 g299) ∧ jRx (t298 < 0) g289 g299 := zt298
          have li300 : jLI g299 := jLI_fr (ft298 176 0 (by unfold w_X12_hull; omega)) (ft298 0 0 (by unfold w_X12_hull; omega)) (fun t => ft298 87 t (by unfold w_X12_hull; omega)) li290
          have dli300 : g299 176 0 ≤ 2000 := li300.1
          have za302 := zt298.1
          have zb303 := zt298.2
          rw [show v293 = v283 by omega, show v295 = v285 by omega, show v297 = v287 by omega] at za302
          have qe304 := pr_hull ft288 ft298 zt288.1 za302 sm ((jbf_10_4 jo_29 _).1 (hbd9 29 4)).1 (fun exy => jAh_m zt288.2 (fun b9 => zb303 (by omega)) (fun k9 => ft298 111 k9 (by unfold w_X12_hull; omega)) (fun i9 k9 q9 => by unfold jwh3 at q9; exact ft298 i9 k9 (by unfold w_X12_hull; omega)) (jI_ah sm))
          have eqe304 := qe304.1
          have sm301 : jI g299 := qe304.2
          clear qe304 za302
          show jGo E l 179 0 229 _ 1410 [.inr (.inr (.inl (-2))), .inr (.inr (.inl 0)), .inr (.inr (.inl 176)), .inl x3] [] 229 jr0 g299
          refine jGo_blk qL_law_1410 ?_
          have e305 : jw32 (x3 + 6) = x3 + 6 := j32e (by omega) (by omega)
          show jGo E l 179 0 229 _ 18 [.inr (.inr (.inl (-2))), .inr (.inr (.inl 0)), .inr (.inr (.inl 176)), .inl (jw32 (x3 + 6))] [] 229 jr0 g299
          exact ih (jw32 (x3 + 6)) g299 (by omega) li300 sm301 (by omega)
        · replace c6 : jand v4 63 = 13 := c6
          show jGo E l 179 0 229 _ 731 [.inr (.inr (.inl (-2))), .inr (.inr (.inl 0)), .inr (.inr (.inl 176)), .inl x3] [] 229 jr0 g
          refine jGo_blk qL_law_731 ?_
          have e306 : jw32 (x3 + 1) = x3 + 1 := j32e (by omega) (by omega)
          refine st_xi (N := E.2.2.2.2.1) (by decide) (by decide) rfl (show 0 ≤ jw32 (x3 + 1) by omega) (show jw32 (x3 + 1) < ((E.2.2.2.2.1 : Nat) : Int) by omega) (fun v307 ev307 => ?_)
          replace ev307 : v307 = jxv E (-2) (jw32 (x3 + 1)) := ev307
          have e308 : jw32 (x3 + 2) = x3 + 2 := j32e (by omega) (by omega)
          refine st_xi (N := E.2.2.2.2.1) (by decide) (by decide) rfl (show 0 ≤ jw32 (x3 + 2) by omega) (show jw32 (x3 + 2) < ((E.2.2.2.2.1 : Nat) : Int) by omega) (fun v309 ev309 => ?_)
          replace ev309 : v309 = jxv E (-2) (jw32 (x3 + 2)) := ev309
          refine st_cv (na := 2) (st := [.inl v309, .inl v307, .inr (.inr (.inl 0))]) jo_0 rfl rfl rfl (c_X11_priority v307 v309 g) rfl ?_
          rintro _ _ g311 ⟨rfl, ft310, t310, rfl, ht310, zt310⟩ kt310
          replace kt310 : -2147483648 ≤ t310 ∧ t310 ≤ 2147483647 := kt310
          replace ht310 : -7 ≤ t310 ∧ t310 ≤ 99 := ht310
          replace zt310 : (P_X11_priority v307 v309 t310 g g311) ∧ jFg (t310 < 0) g g311 := zt310
          have li312 : jLI g311 := jLI_fr (ft310 176 0 (by unfold w_X11_priority; omega)) (ft310 0 0 (by unfold w_X11_priority; omega)) (fun t => ft310 87 t (by unfold w_X11_priority; omega)) li
          have dli312 : g311 176 0 ≤ 2000 := li312.1
          have e314 : jw32 (x3 + 1) = x3 + 1 := j32e (by omega) (by omega)
          refine st_xi (N := E.2.2.2.2.1) (by decide) (by decide) rfl (show 0 ≤ jw32 (x3 + 1) by omega) (show jw32 (x3 + 1) < ((E.2.2.2.2.1 : Nat) : Int) by omega) (fun v315 ev315 => ?_)
          replace ev315 : v315 = jxv E (-2) (jw32 (x3 + 1)) := ev315
          have e316 : jw32 (x3 + 2) = x3 + 2 := j32e (by omega) (by omega)
          refine st_xi (N := E.2.2.2.2.1) (by decide) (by decide) rfl (show 0 ≤ jw32 (x3 + 2) by omega) (show jw32 (x3 + 2) < ((E.2.2.2.2.1 : Nat) : Int) by omega) (fun v317 ev317 => ?_)
          replace ev317 : v317 = jxv E (-2) (jw32 (x3 + 2)) := ev317
          refine st_cv (na := 2) (st := [.inl v317, .inl v315, .inr (.inr (.inl 176))]) jo_176 rfl rfl rfl (c_X12_priority v315 v317 g311) rfl ?_
          rintro _ _ g319 ⟨rfl, ft318, t318, rfl, ht318, zt318⟩ kt318
          replace kt318 : -2147483648 ≤ t318 ∧ t318 ≤ 2147483647 := kt318
          replace ht318 : -7 ≤ t318 ∧ t318 ≤ 99 := ht318
          replace zt318 : (P_X12_priority v315 v317 t318 g311 g319) ∧ jRx (t318 < 0) g311 g319 := zt318
          have li320 : jLI g319 := jLI_fr (ft318 176 0 (by unfold w_X12_priority; omega)) (ft318 0 0 (by unfold w_X12_priority; omega)) (fun t => ft318 87 t (by unfold w_X12_priority; omega)) li312
          have dli320 : g319 176 0 ≤ 2000 := li320.1
          have za322 := zt318.1
          have zb323 := zt318.2
          rw [show v315 = v307 by omega, show v317 = v309 by omega] at za322
          have qe324 := pr_priority ft310 ft318 zt310.1 za322 sm (fun k => ((jba_192 k _).1 (hbd9 192 k)).1) ((jbf_10_4 jo_29 _).1 (hbd9 29 4)).2 (fun exy => jAh_m zt310.2 (fun b9 => zb323 (by omega)) (fun k9 => ft318 111 k9 (by unfold w_X12_priority; omega)) (fun i9 k9 q9 => by unfold jwh3 at q9; exact ft318 i9 k9 (by unfold w_X12_priority; omega)) (jI_ah sm))
          have eqe324 := qe324.1
          have sm321 : jI g319 := qe324.2
          clear qe324 za322
          show jGo E l 179 0 229 _ 1410 [.inr (.inr (.inl (-2))), .inr (.inr (.inl 0)), .inr (.inr (.inl 176)), .inl x3] [] 229 jr0 g319
          refine jGo_blk qL_law_1410 ?_
          have e325 : jw32 (x3 + 6) = x3 + 6 := j32e (by omega) (by omega)
          show jGo E l 179 0 229 _ 18 [.inr (.inr (.inl (-2))), .inr (.inr (.inl 0)), .inr (.inr (.inl 176)), .inl (jw32 (x3 + 6))] [] 229 jr0 g319
          exact ih (jw32 (x3 + 6)) g319 (by omega) li320 sm321 (by omega)
        · replace c6 : jand v4 63 = 14 := c6
          show jGo E l 179 0 229 _ 764 [.inr (.inr (.inl (-2))), .inr (.inr (.inl 0)), .inr (.inr (.inl 176)), .inl x3] [] 229 jr0 g
          refine jGo_blk qL_law_764 ?_
          have e326 : jw32 (x3 + 1) = x3 + 1 := j32e (by omega) (by omega)
          refine st_xi (N := E.2.2.2.2.1) (by decide) (by decide) rfl (show 0 ≤ jw32 (x3 + 1) by omega) (show jw32 (x3 + 1) < ((E.2.2.2.2.1 : Nat) : Int) by omega) (fun v327 ev327 => ?_)
          replace ev327 : v327 = jxv E (-2) (jw32 (x3 + 1)) := ev327
          have e328 : jw32 (x3 + 2) = x3 + 2 := j32e (by omega) (by omega)
          refine st_xi (N := E.2.2.2.2.1) (by decide) (by decide) rfl (show 0 ≤ jw32 (x3 + 2) by omega) (show jw32 (x3 + 2) < ((E.2.2.2.2.1 : Nat) : Int) by omega) (fun v329 ev329 => ?_)
          replace ev329 : v329 = jxv E (-2) (jw32 (x3 + 2)) := ev329
          refine st_cv (na := 2) (st := [.inl v329, .inl v327, .inr (.inr (.inl 0))]) jo_0 rfl rfl rfl (c_X11_raft v327 v329 g) rfl ?_
          rintro _ _ g331 ⟨rfl, ft330, t330, rfl, ht330, zt330⟩ kt330
          replace kt330 : -2147483648 ≤ t330 ∧ t330 ≤ 2147483647 := kt330
          replace ht330 : -7 ≤ t330 ∧ t330 ≤ 1 := ht330
          replace zt330 : (P_X11_raft v327 v329 t330 g g331) ∧ jFg (t330 < 0) g g331 := zt330
          have li332 : jLI g331 := jLI_fr (ft330 176 0 (by unfold w_X11_raft; omega)) (ft330 0 0 (by unfold w_X11_raft; omega)) (fun t => ft330 87 t (by unfold w_X11_raft; omega)) li
          have dli332 : g331 176 0 ≤ 2000 := li332.1
          have e334 : jw32 (x3 + 1) = x3 + 1 := j32e (by omega) (by omega)
          refine st_xi (N := E.2.2.2.2.1) (by decide) (by decide) rfl (show 0 ≤ jw32 (x3 + 1) by omega) (show jw32 (x3 + 1) < ((E.2.2.2.2.1 : Nat) : Int) by omega) (fun v335 ev335 => ?_)
          replace ev335 : v335 = jxv E (-2) (jw32 (x3 + 1)) := ev335
          have e336 : jw32 (x3 + 2) = x3 + 2 := j32e (by omega) (by omega)
          refine st_xi (N := E.2.2.2.2.1) (by decide) (by decide) rfl (show 0 ≤ jw32 (x3 + 2) by omega) (show jw32 (x3 + 2) < ((E.2.2.2.2.1 : Nat) : Int) by omega) (fun v337 ev337 => ?_)
          replace ev337 : v337 = jxv E (-2) (jw32 (x3 + 2)) := ev337
          refine st_cv (na := 2) (st := [.inl v337, .inl v335, .inr (.inr (.inl 176))]) jo_176 rfl rfl rfl (c_X12_raft v335 v337 g331) rfl ?_
          rintro _ _ g339 ⟨rfl, ft338, t338, rfl, ht338, zt338⟩ kt338
          replace kt338 : -2147483648 ≤ t338 ∧ t338 ≤ 2147483647 := kt338
          replace ht338 : -7 ≤ t338 ∧ t338 ≤ 1 := ht338
          replace zt338 : (P_X12_raft v335 v337 t338 g331 g339) ∧ jRx (t338 < 0) g331 g339 := zt338
          have li340 : jLI g339 := jLI_fr (ft338 176 0 (by unfold w_X12_raft; omega)) (ft338 0 0 (by unfold w_X12_raft; omega)) (fun t => ft338 87 t (by unfold w_X12_raft; omega)) li332
          have dli340 : g339 176 0 ≤ 2000 := li340.1
          have za342 := zt338.1
          have zb343 := zt338.2
          rw [show v335 = v327 by omega, show v337 = v329 by omega] at za342
          have qe344 := pr_raft ft330 ft338 zt330.1 za342 sm (fun exy => jAh_m zt330.2 (fun b9 => zb343 (by omega)) (fun k9 => ft338 111 k9 (by unfold w_X12_raft; omega)) (fun i9 k9 q9 => by unfold jwh3 at q9; exact ft338 i9 k9 (by unfold w_X12_raft; omega)) (jI_ah sm))
          have eqe344 := qe344.1
          have sm341 : jI g339 := qe344.2
          clear qe344 za342
          show jGo E l 179 0 229 _ 1410 [.inr (.inr (.inl (-2))), .inr (.inr (.inl 0)), .inr (.inr (.inl 176)), .inl x3] [] 229 jr0 g339
          refine jGo_blk qL_law_1410 ?_
          have e345 : jw32 (x3 + 6) = x3 + 6 := j32e (by omega) (by omega)
          show jGo E l 179 0 229 _ 18 [.inr (.inr (.inl (-2))), .inr (.inr (.inl 0)), .inr (.inr (.inl 176)), .inl (jw32 (x3 + 6))] [] 229 jr0 g339
          exact ih (jw32 (x3 + 6)) g339 (by omega) li340 sm341 (by omega)
        · replace c6 : jand v4 63 = 15 := c6
          show jGo E l 179 0 229 _ 797 [.inr (.inr (.inl (-2))), .inr (.inr (.inl 0)), .inr (.inr (.inl 176)), .inl x3] [] 229 jr0 g
          refine jGo_blk qL_law_797 ?_
          have e346 : jw32 (x3 + 1) = x3 + 1 := j32e (by omega) (by omega)
          refine st_xi (N := E.2.2.2.2.1) (by decide) (by decide) rfl (show 0 ≤ jw32 (x3 + 1) by omega) (show jw32 (x3 + 1) < ((E.2.2.2.2.1 : Nat) : Int) by omega) (fun v347 ev347 => ?_)
          replace ev347 : v347 = jxv E (-2) (jw32 (x3 + 1)) := ev347
          refine st_cv (na := 1) (st := [.inl v347, .inr (.inr (.inl 0))]) jo_0 rfl rfl rfl (c_X11_unraft v347 g) rfl ?_
          rintro _ _ g349 ⟨rfl, ft348, t348, rfl, ht348, zt348⟩ kt348
          replace kt348 : -2147483648 ≤ t348 ∧ t348 ≤ 2147483647 := kt348
          replace zt348 : (P_X11_unraft v347 t348 g g349) ∧ jFg (t348 < 0) g g349 := zt348
          have li350 : jLI g349 := jLI_fr (ft348 176 0 (by unfold w_X11_unraft; omega)) (ft348 0 0 (by unfold w_X11_unraft; omega)) (fun t => ft348 87 t (by unfold w_X11_unraft; omega)) li
          have dli350 : g349 176 0 ≤ 2000 := li350.1
          have e352 : jw32 (x3 + 1) = x3 + 1 := j32e (by omega) (by omega)
          refine st_xi (N := E.2.2.2.2.1) (by decide) (by decide) rfl (show 0 ≤ jw32 (x3 + 1) by omega) (show jw32 (x3 + 1) < ((E.2.2.2.2.1 : Nat) : Int) by omega) (fun v353 ev353 => ?_)
          replace ev353 : v353 = jxv E (-2) (jw32 (x3 + 1)) := ev353
          refine st_cv (na := 1) (st := [.inl v353, .inr (.inr (.inl 176))]) jo_176 rfl rfl rfl (c_X12_unraft v353 g349) rfl ?_
          rintro _ _ g355 ⟨rfl, ft354, t354, rfl, ht354, zt354⟩ kt354
          replace kt354 : -2147483648 ≤ t354 ∧ t354 ≤ 2147483647 := kt354
          replace zt354 : P_X12_unraft v353 t354 g349 g355 := zt354
          have li356 : jLI g355 := jLI_fr (ft354 176 0 (by unfold w_X12_unraft; omega)) (ft354 0 0 (by unfold w_X12_unraft; omega)) (fun t => ft354 87 t (by unfold w_X12_unraft; omega)) li350
          have dli356 : g355 176 0 ≤ 2000 := li356.1
          rw [show v353 = v347 by omega] at zt354
          have qe358 := pr_unraft ft348 ft354 zt348.1 zt354 sm (fun exy => jAh_m zt348.2 (fun b9 => (rx_unraft ft348 zt354 sm) (by omega)) (fun k9 => ft354 111 k9 (by unfold w_X12_unraft; omega)) (fun i9 k9 q9 => by unfold jwh3 at q9; exact ft354 i9 k9 (by unfold w_X12_unraft; omega)) (jI_ah sm))
          have eqe358 := qe358.1
          have sm357 : jI g355 := qe358.2
          clear qe358 zt354
          show jGo E l 179 0 229 _ 1410 [.inr (.inr (.inl (-2))), .inr (.inr (.inl 0)), .inr (.inr (.inl 176)), .inl x3] [] 229 jr0 g355
          refine jGo_blk qL_law_1410 ?_
          have e359 : jw32 (x3 + 6) = x3 + 6 := j32e (by omega) (by omega)
          show jGo E l 179 0 229 _ 18 [.inr (.inr (.inl (-2))), .inr (.inr (.inl 0)), .inr (.inr (.inl 176)), .inl (jw32 (x3 + 6))] [] 229 jr0 g355
          exact ih (jw32 (x3 + 6)) g355 (by omega) li356 sm357 (by omega)
        · replace c6 : jand v4 63 = 16 := c6
          show jGo E l 179 0 229 _ 820 [.inr (.inr (.inl (-2))), .inr (.inr (.inl 0)), .inr (.inr (.inl 176)), .inl x3] [] 229 jr0 g
          refine jGo_blk qL_law_820 ?_
          have e360 : jw32 (x3 + 1) = x3 + 1 := j32e (by omega) (by omega)
          refine st_xi (N := E.2.2.2.2.1) (by decide) (by decide) rfl (show 0 ≤ jw32 (x3 + 1) by omega) (show jw32 (x3 + 1) < ((E.2.2.2.2.1 : Nat) : Int) by omega) (fun v361 ev361 => ?_)
          replace ev361 : v361 = jxv E (-2) (jw32 (x3 + 1)) := ev361
          refine st_cv (na := 1) (st := [.inl v361, .inr (.inr (.inl 0))]) jo_0 rfl rfl rfl (c_X11_days v361 g li.2) rfl ?_
          rintro _ _ g363 ⟨rfl, ft362, t362, rfl, ht362, zt362⟩ kt362
          replace kt362 : -2147483648 ≤ t362 ∧ t362 ≤ 2147483647 := kt362
          replace zt362 : (((jLG 0 g363 ∧ P_X11_days v361 g g363) ∧ (((v361 < 0 ∨ 2000 - g 0 0 < v361) ∧ ∀ i k : Int, ¬ i = 1 → g363 i k = g i k) ∨ (0 ≤ v361 ∧ v361 ≤ 2000 - g 0 0 ∧ ∀ (fl : Prop) (hm : JH), jDR fl g hm → jDR fl g363 (jit jmDy (v361).toNat hm) ∧ jRft hm (jit jmDy (v361).toNat hm)))) ∧ ∀ i : Int, 36 ≤ i → i ≤ 83 → g363 i 10 = g i 10) ∧ jFg (v361 < 0 ∨ 2000 - g 0 0 < v361) g g363 := zt362
          have li364 : jLI g363 := ⟨by rw [(ft362 176 0 (by unfold w_X11_days; omega))]; exact li.1, zt362.1.1.1.1⟩
          have dli364 : g363 176 0 ≤ 2000 := li364.1
          have e366 : jw32 (x3 + 1) = x3 + 1 := j32e (by omega) (by omega)
          refine st_xi (N := E.2.2.2.2.1) (by decide) (by decide) rfl (show 0 ≤ jw32 (x3 + 1) by omega) (show jw32 (x3 + 1) < ((E.2.2.2.2.1 : Nat) : Int) by omega) (fun v367 ev367 => ?_)
          replace ev367 : v367 = jxv E (-2) (jw32 (x3 + 1)) := ev367
          have e368 : g363 176 0 = g 176 0 := ft362 176 0 (by unfold w_X11_days; omega)
          refine st_cv (na := 1) (st := [.inl v367, .inr (.inr (.inl 176))]) jo_176 rfl rfl rfl (c_X12_days v367 g363 (by omega)) rfl ?_
          rintro _ _ g370 ⟨rfl, ft369, t369, rfl, ht369, zt369⟩ kt369
          replace kt369 : -2147483648 ≤ t369 ∧ t369 ≤ 2147483647 := kt369
          replace zt369 : ((g370 176 0 ≤ 2000 ∧ P_X12_days v367 g363 g370) ∧ (((v367 < 1 ∨ 2000 - g363 176 0 < v367) ∧ ∀ i k : Int, ¬ i = 219 → g370 i k = g363 i k) ∨ (1 ≤ v367 ∧ v367 ≤ 2000 - g363 176 0 ∧ g370 = jit jmDy (v367).toNat g363))) ∧ (jG9 g363 → jG9 g370) := zt369
          have li371 : jLI g370 := ⟨zt369.1.1.1, jLG_fr (ft369 0 0 (by unfold w_X12_days; omega)) (fun t => ft369 87 t (by unfold w_X12_days; omega)) li364.2⟩
          have dli371 : g370 176 0 ≤ 2000 := li371.1
          have zd373 := zt369.1.1.2
          have zd374 := zt369.1.2
          rw [show v367 = v361 by omega] at zd373 zd374
          have sm372 : jI g370 := pr_days ft362 ft369 zt362.1.1.1.2 zt362.1.1.2 zd373 zd374 sm hbd9 zt362.1.2 zt369.2 zt362.2
          show jGo E l 179 0 229 _ 1410 [.inr (.inr (.inl (-2))), .inr (.inr (.inl 0)), .inr (.inr (.inl 176)), .inl x3] [] 229 jr0 g370
          refine jGo_blk qL_law_1410 ?_
          have e375 : jw32 (x3 + 6) = x3 + 6 := j32e (by omega) (by omega)
          show jGo E l 179 0 229 _ 18 [.inr (.inr (.inl (-2))), .inr (.inr (.inl 0)), .inr (.inr (.inl 176)), .inl (jw32 (x3 + 6))] [] 229 jr0 g370
          exact ih (jw32 (x3 + 6)) g370 (by omega) li371 sm372 (by omega)
        · replace c6 : jand v4 63 = 17 := c6
          show jGo E l 179 0 229 _ 843 [.inr (.inr (.inl (-2))), .inr (.inr (.inl 0)), .inr (.inr (.inl 176)), .inl x3] [] 229 jr0 g
          refine jGo_blk qL_law_843 ?_
          have e376 : jw32 (x3 + 1) = x3 + 1 := j32e (by omega) (by omega)
          refine st_xi (N := E.2.2.2.2.1) (by decide) (by decide) rfl (show 0 ≤ jw32 (x3 + 1) by omega) (show jw32 (x3 + 1) < ((E.2.2.2.2.1 : Nat) : Int) by omega) (fun v377 ev377 => ?_)
          replace ev377 : v377 = jxv E (-2) (jw32 (x3 + 1)) := ev377
          refine st_cv (na := 1) (st := [.inl v377, .inr (.inr (.inl 0))]) jo_0 rfl rfl rfl (c_X11_breakUp v377 g) rfl ?_
          rintro _ _ g379 ⟨rfl, ft378, t378, rfl, ht378, zt378⟩ kt378
          replace kt378 : -2147483648 ≤ t378 ∧ t378 ≤ 2147483647 := kt378
          replace zt378 : (P_X11_breakUp v377 t378 g g379) ∧ jFg (¬ (0 ≤ v377 ∧ v377 < g 29 4 ∧ g (36 + 3 * v377) 3 = 2)) g g379 := zt378
          have li380 : jLI g379 := jLI_fr (ft378 176 0 (by unfold w_X11_breakUp; omega)) (ft378 0 0 (by unfold w_X11_breakUp; omega)) (fun t => ft378 87 t (by unfold w_X11_breakUp; omega)) li
          have dli380 : g379 176 0 ≤ 2000 := li380.1
          have e382 : jw32 (x3 + 1) = x3 + 1 := j32e (by omega) (by omega)
          refine st_xi (N := E.2.2.2.2.1) (by decide) (by decide) rfl (show 0 ≤ jw32 (x3 + 1) by omega) (show jw32 (x3 + 1) < ((E.2.2.2.2.1 : Nat) : Int) by omega) (fun v383 ev383 => ?_)
          replace ev383 : v383 = jxv E (-2) (jw32 (x3 + 1)) := ev383
          refine st_cv (na := 1) (st := [.inl v383, .inr (.inr (.inl 176))]) jo_176 rfl rfl rfl (c_X12_breakUp v383 g379) rfl ?_
          rintro _ _ g385 ⟨rfl, ft384, t384, rfl, ht384, zt384⟩ kt384
          replace kt384 : -2147483648 ≤ t384 ∧ t384 ≤ 2147483647 := kt384
          replace zt384 : (P_X12_breakUp v383 t384 g379 g385) ∧ jRx (¬ (0 ≤ v383 ∧ v383 < g379 176 14 ∧ g379 192 v383 = 2)) g379 g385 := zt384
          have li386 : jLI g385 := jLI_fr (ft384 176 0 (by unfold w_X12_breakUp; omega)) (ft384 0 0 (by unfold w_X12_breakUp; omega)) (fun t => ft384 87 t (by unfold w_X12_breakUp; omega)) li380
          have dli386 : g385 176 0 ≤ 2000 := li386.1
          have za388 := zt384.1
          have zb389 := zt384.2
          rw [show v383 = v377 by omega] at za388 zb389
          have qe390 := pr_breakUp ft378 ft384 zt378.1 za388 sm ((jbf_10_4 jo_29 _).1 (hbd9 29 4)).2 (fun exy => jAh_m zt378.2 (fun b9 => zb389 (jI_bk sm ft378 ((jbf_10_4 jo_29 _).1 (hbd9 29 4)).2 b9)) (fun k9 => ft384 111 k9 (by unfold w_X12_breakUp; omega)) (fun i9 k9 q9 => by unfold jwh3 at q9; exact ft384 i9 k9 (by unfold w_X12_breakUp; omega)) (jI_ah sm))
          have eqe390 := qe390.1
          have sm387 : jI g385 := qe390.2
          clear qe390 za388
          show jGo E l 179 0 229 _ 1410 [.inr (.inr (.inl (-2))), .inr (.inr (.inl 0)), .inr (.inr (.inl 176)), .inl x3] [] 229 jr0 g385
          refine jGo_blk qL_law_1410 ?_
          have e391 : jw32 (x3 + 6) = x3 + 6 := j32e (by omega) (by omega)
          show jGo E l 179 0 229 _ 18 [.inr (.inr (.inl (-2))), .inr (.inr (.inl 0)), .inr (.inr (.inl 176)), .inl (jw32 (x3 + 6))] [] 229 jr0 g385
          exact ih (jw32 (x3 + 6)) g385 (by omega) li386 sm387 (by omega)
        · replace c6 : jand v4 63 = 18 := c6
          show jGo E l 179 0 229 _ 866 [.inr (.inr (.inl (-2))), .inr (.inr (.inl 0)), .inr (.inr (.inl 176)), .inl x3] [] 229 jr0 g
          refine jGo_blk qL_law_866 ?_
          have e392 : jw32 (x3 + 1) = x3 + 1 := j32e (by omega) (by omega)
          refine st_xi (N := E.2.2.2.2.1) (by decide) (by decide) rfl (show 0 ≤ jw32 (x3 + 1) by omega) (show jw32 (x3 + 1) < ((E.2.2.2.2.1 : Nat) : Int) by omega) (fun v393 ev393 => ?_)
          replace ev393 : v393 = jxv E (-2) (jw32 (x3 + 1)) := ev393
          have e394 : jw32 (x3 + 2) = x3 + 2 := j32e (by omega) (by omega)
          refine st_xi (N := E.2.2.2.2.1) (by decide) (by decide) rfl (show 0 ≤ jw32 (x3 + 2) by omega) (show jw32 (x3 + 2) < ((E.2.2.2.2.1 : Nat) : Int) by omega) (fun v395 ev395 => ?_)
          replace ev395 : v395 = jxv E (-2) (jw32 (x3 + 2)) := ev395
          refine st_cv (na := 2) (st := [.inl v395, .inl v393, .inr (.inr (.inl 0))]) jo_0 rfl rfl rfl (c_X11_growth v393 v395 g) rfl ?_
          rintro _ _ g397 ⟨rfl, ft396, t396, rfl, ht396, zt396⟩ kt396
          replace kt396 : -2147483648 ≤ t396 ∧ t396 ≤ 2147483647 := kt396
          replace ht396 : -7 ≤ t396 ∧ t396 ≤ 9 := ht396
          replace zt396 : P_X11_growth v393 v395 t396 g g397 := zt396
          have li398 : jLI g397 := jLI_fr (ft396 176 0 (by unfold w_X11_growth; omega)) (ft396 0 0 (by unfold w_X11_growth; omega)) (fun t => ft396 87 t (by unfold w_X11_growth; omega)) li
          have dli398 : g397 176 0 ≤ 2000 := li398.1
          have e400 : jw32 (x3 + 1) = x3 + 1 := j32e (by omega) (by omega)
          refine st_xi (N := E.2.2.2.2.1) (by decide) (by decide) rfl (show 0 ≤ jw32 (x3 + 1) by omega) (show jw32 (x3 + 1) < ((E.2.2.2.2.1 : Nat) : Int) by omega) (fun v401 ev401 => ?_)
          replace ev401 : v401 = jxv E (-2) (jw32 (x3 + 1)) := ev401
          have e402 : jw32 (x3 + 2) = x3 + 2 := j32e (by omega) (by omega)
          refine st_xi (N := E.2.2.2.2.1) (by decide) (by decide) rfl (show 0 ≤ jw32 (x3 + 2) by omega) (show jw32 (x3 + 2) < ((E.2.2.2.2.1 : Nat) : Int) by omega) (fun v403 ev403 => ?_)
          replace ev403 : v403 = jxv E (-2) (jw32 (x3 + 2)) := ev403
          refine st_cv (na := 2) (st := [.inl v403, .inl v401, .inr (.inr (.inl 176))]) jo_176 rfl rfl rfl (c_X12_growth v401 v403 g397) rfl ?_
          rintro _ _ g405 ⟨rfl, ft404, t404, rfl, ht404, zt404⟩ kt404
          replace kt404 : -2147483648 ≤ t404 ∧ t404 ≤ 2147483647 := kt404
          replace ht404 : -7 ≤ t404 ∧ t404 ≤ 9 := ht404
          replace zt404 : P_X12_growth v401 v403 t404 g397 g405 := zt404
          have li406 : jLI g405 := jLI_fr (ft404 176 0 (by unfold w_X12_growth; omega)) (ft404 0 0 (by unfold w_X12_growth; omega)) (fun t => ft404 87 t (by unfold w_X12_growth; omega)) li398
          have dli406 : g405 176 0 ≤ 2000 := li406.1
          rw [show v401 = v393 by omega, show v403 = v395 by omega] at zt404
          have qe408 := pr_growth ft396 ft404 zt396 zt404 sm
          have eqe408 := qe408.1
          have sm407 : jI g405 := qe408.2
          clear qe408 zt404
          show jGo E l 179 0 229 _ 1410 [.inr (.inr (.inl (-2))), .inr (.inr (.inl 0)), .inr (.inr (.inl 176)), .inl x3] [] 229 jr0 g405
          refine jGo_blk qL_law_1410 ?_
          have e409 : jw32 (x3 + 6) = x3 + 6 := j32e (by omega) (by omega)
          show jGo E l 179 0 229 _ 18 [.inr (.inr (.inl (-2))), .inr (.inr (.inl 0)), .inr (.inr (.inl 176)), .inl (jw32 (x3 + 6))] [] 229 jr0 g405
          exact ih (jw32 (x3 + 6)) g405 (by omega) li406 sm407 (by omega)
        · replace c6 : jand v4 63 = 19 := c6
          show jGo E l 179 0 229 _ 899 [.inr (.inr (.inl (-2))), .inr (.inr (.inl 0)), .inr (.inr (.inl 176)), .inl x3] [] 229 jr0 g
          refine jGo_blk qL_law_899 ?_
          have e410 : jw32 (x3 + 1) = x3 + 1 := j32e (by omega) (by omega)
          refine st_xi (N := E.2.2.2.2.1) (by decide) (by decide) rfl (show 0 ≤ jw32 (x3 + 1) by omega) (show jw32 (x3 + 1) < ((E.2.2.2.2.1 : Nat) : Int) by omega) (fun v411 ev411 => ?_)
          replace ev411 : v411 = jxv E (-2) (jw32 (x3 + 1)) := ev411
          have e412 : jw32 (x3 + 2) = x3 + 2 := j32e (by omega) (by omega)
          refine st_xi (N := E.2.2.2.2.1) (by decide) (by decide) rfl (show 0 ≤ jw32 (x3 + 2) by omega) (show jw32 (x3 + 2) < ((E.2.2.2.2.1 : Nat) : Int) by omega) (fun v413 ev413 => ?_)
          replace ev413 : v413 = jxv E (-2) (jw32 (x3 + 2)) := ev413
          have e414 : jw32 (x3 + 3) = x3 + 3 := j32e (by omega) (by omega)
          refine st_xi (N := E.2.2.2.2.1) (by decide) (by decide) rfl (show 0 ≤ jw32 (x3 + 3) by omega) (show jw32 (x3 + 3) < ((E.2.2.2.2.1 : Nat) : Int) by omega) (fun v415 ev415 => ?_)
          replace ev415 : v415 = jxv E (-2) (jw32 (x3 + 3)) := ev415
          refine st_cv (na := 3) (st := [.inl v415, .inl v413, .inl v411, .inr (.inr (.inl 0))]) jo_0 rfl rfl rfl (c_X11_tree v411 v413 v415 g) rfl ?_
          rintro _ _ g417 ⟨rfl, ft416, t416, rfl, ht416, zt416⟩ kt416
          replace kt416 : -2147483648 ≤ t416 ∧ t416 ≤ 2147483647 := kt416
          replace ht416 : -7 ≤ t416 ∧ t416 ≤ 39 := ht416
          replace zt416 : (∀ t : Int, g417 87 t = g 87 t ∨ (1 ≤ g417 87 t ∧ g417 87 t ≤ 500)) ∧ P_X11_tree v411 v413 v415 t416 g g417 := zt416
          have li418 : jLI g417 := ⟨by rw [(ft416 176 0 (by unfold w_X11_tree; omega))]; exact li.1, jLG_tree (ft416 0 0 (by unfold w_X11_tree; omega)) zt416.1 li.2⟩
          have dli418 : g417 176 0 ≤ 2000 := li418.1
          have e420 : jw32 (x3 + 1) = x3 + 1 := j32e (by omega) (by omega)
          refine st_xi (N := E.2.2.2.2.1) (by decide) (by decide) rfl (show 0 ≤ jw32 (x3 + 1) by omega) (show jw32 (x3 + 1) < ((E.2.2.2.2.1 : Nat) : Int) by omega) (fun v421 ev421 => ?_)
          replace ev421 : v421 = jxv E (-2) (jw32 (x3 + 1)) := ev421
          have e422 : jw32 (x3 + 2) = x3 + 2 := j32e (by omega) (by omega)
          refine st_xi (N := E.2.2.2.2.1) (by decide) (by decide) rfl (show 0 ≤ jw32 (x3 + 2) by omega) (show jw32 (x3 + 2) < ((E.2.2.2.2.1 : Nat) : Int) by omega) (fun v423 ev423 => ?_)
          replace ev423 : v423 = jxv E (-2) (jw32 (x3 + 2)) := ev423
          have e424 : jw32 (x3 + 3) = x3 + 3 := j32e (by omega) (by omega)
          refine st_xi (N := E.2.2.2.2.1) (by decide) (by decide) rfl (show 0 ≤ jw32 (x3 + 3) by omega) (show jw32 (x3 + 3) < ((E.2.2.2.2.1 : Nat) : Int) by omega) (fun v425 ev425 => ?_)
          replace ev425 : v425 = jxv E (-2) (jw32 (x3 + 3)) := ev425
          refine st_cv (na := 3) (st := [.inl v425, .inl v423, .inl v421, .inr (.inr (.inl 176))]) jo_176 rfl rfl rfl (c_X12_tree v421 v423 v425 g417) rfl ?_
          rintro _ _ g427 ⟨rfl, ft426, t426, rfl, ht426, zt426⟩ kt426
          replace kt426 : -2147483648 ≤ t426 ∧ t426 ≤ 2147483647 := kt426
          replace ht426 : -7 ≤ t426 ∧ t426 ≤ 39 := ht426
          replace zt426 : P_X12_tree v421 v423 v425 t426 g417 g427 := zt426
          have li428 : jLI g427 := jLI_fr (ft426 176 0 (by unfold w_X12_tree; omega)) (ft426 0 0 (by unfold w_X12_tree; omega)) (fun t => ft426 87 t (by unfold w_X12_tree; omega)) li418
          have dli428 : g427 176 0 ≤ 2000 := li428.1
          rw [show v421 = v411 by omega, show v423 = v413 by omega, show v425 = v415 by omega] at zt426
          have qe430 := pr_tree ft416 ft426 zt416.2 zt426 sm dd0 ((jbf_3_0 jo_84 _).1 (hbd9 84 0)).1
          have eqe430 := qe430.1
          have sm429 : jI g427 := qe430.2
          clear qe430 zt426
          show jGo E l 179 0 229 _ 1410 [.inr (.inr (.inl (-2))), .inr (.inr (.inl 0)), .inr (.inr (.inl 176)), .inl x3] [] 229 jr0 g427
          refine jGo_blk qL_law_1410 ?_
          have e431 : jw32 (x3 + 6) = x3 + 6 := j32e (by omega) (by omega)
          show jGo E l 179 0 229 _ 18 [.inr (.inr (.inl (-2))), .inr (.inr (.inl 0)), .inr (.inr (.inl 176)), .inl (jw32 (x3 + 6))] [] 229 jr0 g427
          exact ih (jw32 (x3 + 6)) g427 (by omega) li428 sm429 (by omega)
        · replace c6 : jand v4 63 = 20 := c6
          show jGo E l 179 0 229 _ 942 [.inr (.inr (.inl (-2))), .inr (.inr (.inl 0)), .inr (.inr (.inl 176)), .inl x3] [] 229 jr0 g
          refine jGo_blk qL_law_942 ?_
          have e432 : jw32 (x3 + 1) = x3 + 1 := j32e (by omega) (by omega)
          refine st_xi (N := E.2.2.2.2.1) (by decide) (by decide) rfl (show 0 ≤ jw32 (x3 + 1) by omega) (show jw32 (x3 + 1) < ((E.2.2.2.2.1 : Nat) : Int) by omega) (fun v433 ev433 => ?_)
          replace ev433 : v433 = jxv E (-2) (jw32 (x3 + 1)) := ev433
          have e434 : jw32 (x3 + 2) = x3 + 2 := j32e (by omega) (by omega)
          refine st_xi (N := E.2.2.2.2.1) (by decide) (by decide) rfl (show 0 ≤ jw32 (x3 + 2) by omega) (show jw32 (x3 + 2) < ((E.2.2.2.2.1 : Nat) : Int) by omega) (fun v435 ev435 => ?_)
          replace ev435 : v435 = jxv E (-2) (jw32 (x3 + 2)) := ev435
          have e436 : jw32 (x3 + 3) = x3 + 3 := j32e (by omega) (by omega)
          refine st_xi (N := E.2.2.2.2.1) (by decide) (by decide) rfl (show 0 ≤ jw32 (x3 + 3) by omega) (show jw32 (x3 + 3) < ((E.2.2.2.2.1 : Nat) : Int) by omega) (fun v437 ev437 => ?_)
          replace ev437 : v437 = jxv E (-2) (jw32 (x3 + 3)) := ev437
          have e438 : jw32 (x3 + 4) = x3 + 4 := j32e (by omega) (by omega)
          refine st_xi (N := E.2.2.2.2.1) (by decide) (by decide) rfl (show 0 ≤ jw32 (x3 + 4) by omega) (show jw32 (x3 + 4) < ((E.2.2.2.2.1 : Nat) : Int) by omega) (fun v439 ev439 => ?_)
          replace ev439 : v439 = jxv E (-2) (jw32 (x3 + 4)) := ev439
          have e440 : jw32 (x3 + 5) = x3 + 5 := j32e (by omega) (by omega)
          refine st_xi (N := E.2.2.2.2.1) (by decide) (by decide) rfl (show 0 ≤ jw32 (x3 + 5) by omega) (show jw32 (x3 + 5) < ((E.2.2.2.2.1 : Nat) : Int) by omega) (fun v441 ev441 => ?_)
          replace ev441 : v441 = jxv E (-2) (jw32 (x3 + 5)) := ev441
          refine st_cv (na := 5) (st := [.inl v441, .inl v439, .inl v437, .inl v435, .inl v433, .inr (.inr (.inl 0))]) jo_0 rfl rfl rfl (c_X11_part v433 v435 v437 v439 v441 g) rfl ?_
          rintro _ _ g443 ⟨rfl, ft442, t442, rfl, ht442, zt442⟩ kt442
          replace kt442 : -2147483648 ≤ t442 ∧ t442 ≤ 2147483647 := kt442
          replace ht442 : -7 ≤ t442 ∧ t442 ≤ 5 := ht442
          replace zt442 : P_X11_part v433 v435 v437 v439 v441 t442 g g443 := zt442
          have li444 : jLI g443 := jLI_fr (ft442 176 0 (by unfold w_X11_part; omega)) (ft442 0 0 (by unfold w_X11_part; omega)) (fun t => ft442 87 t (by unfold w_X11_part; omega)) li
          have dli444 : g443 176 0 ≤ 2000 := li444.1
          have e446 : jw32 (x3 + 1) = x3 + 1 := j32e (by omega) (by omega)
          refine st_xi (N := E.2.2.2.2.1) (by decide) (by decide) rfl (show 0 ≤ jw32 (x3 + 1) by omega) (show jw32 (x3 + 1) < ((E.2.2.2.2.1 : Nat) : Int) by omega) (fun v447 ev447 => ?_)
          replace ev447 : v447 = jxv E (-2) (jw32 (x3 + 1)) := ev447
          have e448 : jw32 (x3 + 2) = x3 + 2 := j32e (by omega) (by omega)
          refine st_xi (N := E.2.2.2.2.1) (by decide) (by decide) rfl (show 0 ≤ jw32 (x3 + 2) by omega) (show jw32 (x3 + 2) < ((E.2.2.2.2.1 : Nat) : Int) by omega) (fun v449 ev449 => ?_)
          replace ev449 : v449 = jxv E (-2) (jw32 (x3 + 2)) := ev449
          have e450 : jw32 (x3 + 3) = x3 + 3 := j32e (by omega) (by omega)
          refine st_xi (N := E.2.2.2.2.1) (by decide) (by decide) rfl (show 0 ≤ jw32 (x3 + 3) by omega) (show jw32 (x3 + 3) < ((E.2.2.2.2.1 : Nat) : Int) by omega) (fun v451 ev451 => ?_)
          replace ev451 : v451 = jxv E (-2) (jw32 (x3 + 3)) := ev451
          have e452 : jw32 (x3 + 4) = x3 + 4 := j32e (by omega) (by omega)
          refine st_xi (N := E.2.2.2.2.1) (by decide) (by decide) rfl (show 0 ≤ jw32 (x3 + 4) by omega) (show jw32 (x3 + 4) < ((E.2.2.2.2.1 : Nat) : Int) by omega) (fun v453 ev453 => ?_)
          replace ev453 : v453 = jxv E (-2) (jw32 (x3 + 4)) := ev453
          have e454 : jw32 (x3 + 5) = x3 + 5 := j32e (by omega) (by omega)
          refine st_xi (N := E.2.2.2.2.1) (by decide) (by decide) rfl (show 0 ≤ jw32 (x3 + 5) by omega) (show jw32 (x3 + 5) < ((E.2.2.2.2.1 : Nat) : Int) by omega) (fun v455 ev455 => ?_)
          replace ev455 : v455 = jxv E (-2) (jw32 (x3 + 5)) := ev455
          refine st_cv (na := 5) (st := [.inl v455, .inl v453, .inl v451, .inl v449, .inl v447, .inr (.inr (.inl 176))]) jo_176 rfl rfl rfl (c_X12_part v447 v449 v451 v453 v455 g443) rfl ?_
          rintro _ _ g457 ⟨rfl, ft456, t456, rfl, ht456, zt456⟩ kt456
          replace kt456 : -2147483648 ≤ t456 ∧ t456 ≤ 2147483647 := kt456
          replace ht456 : -7 ≤ t456 ∧ t456 ≤ 5 := ht456
          replace zt456 : P_X12_part v447 v449 v451 v453 v455 t456 g443 g457 := zt456
          have li458 : jLI g457 := jLI_fr (ft456 176 0 (by unfold w_X12_part; omega)) (ft456 0 0 (by unfold w_X12_part; omega)) (fun t => ft456 87 t (by unfold w_X12_part; omega)) li444
          have dli458 : g457 176 0 ≤ 2000 := li458.1
          rw [show v447 = v433 by omega, show v449 = v435 by omega, show v451 = v437 by omega, show v453 = v439 by omega, show v455 = v441 by omega] at zt456
          have qe460 := pr_part ft442 ft456 zt442 zt456 sm (fun k => (jba_92 k _).1 (hbd9 92 k))
          have eqe460 := qe460.1
          have sm459 : jI g457 := qe460.2
          clear qe460 zt456
          show jGo E l 179 0 229 _ 1410 [.inr (.inr (.inl (-2))), .inr (.inr (.inl 0)), .inr (.inr (.inl 176)), .inl x3] [] 229 jr0 g457
          refine jGo_blk qL_law_1410 ?_
          have e461 : jw32 (x3 + 6) = x3 + 6 := j32e (by omega) (by omega)
          show jGo E l 179 0 229 _ 18 [.inr (.inr (.inl (-2))), .inr (.inr (.inl 0)), .inr (.inr (.inl 176)), .inl (jw32 (x3 + 6))] [] 229 jr0 g457
          exact ih (jw32 (x3 + 6)) g457 (by omega) li458 sm459 (by omega)
        · replace c6 : jand v4 63 = 21 := c6
          show jGo E l 179 0 229 _ 1005 [.inr (.inr (.inl (-2))), .inr (.inr (.inl 0)), .inr (.inr (.inl 176)), .inl x3] [] 229 jr0 g
          refine jGo_blk qL_law_1005 ?_
          have e462 : jw32 (x3 + 1) = x3 + 1 := j32e (by omega) (by omega)
          refine st_xi (N := E.2.2.2.2.1) (by decide) (by decide) rfl (show 0 ≤ jw32 (x3 + 1) by omega) (show jw32 (x3 + 1) < ((E.2.2.2.2.1 : Nat) : Int) by omega) (fun v463 ev463 => ?_)
          replace ev463 : v463 = jxv E (-2) (jw32 (x3 + 1)) := ev463
          have e464 : jw32 (x3 + 2) = x3 + 2 := j32e (by omega) (by omega)
          refine st_xi (N := E.2.2.2.2.1) (by decide) (by decide) rfl (show 0 ≤ jw32 (x3 + 2) by omega) (show jw32 (x3 + 2) < ((E.2.2.2.2.1 : Nat) : Int) by omega) (fun v465 ev465 => ?_)
          replace ev465 : v465 = jxv E (-2) (jw32 (x3 + 2)) := ev465
          refine st_cv (na := 2) (st := [.inl v465, .inl v463, .inr (.inr (.inl 0))]) jo_0 rfl rfl rfl (c_X11_match v463 v465 g (jLG_ok li.2)) rfl ?_
          rintro _ _ g467 ⟨rfl, ft466, t466, rfl, ht466, zt466⟩ kt466
          replace kt466 : -2147483648 ≤ t466 ∧ t466 ≤ 2147483647 := kt466
          replace zt466 : P_X11_match v463 v465 t466 g := zt466
          have li468 : jLI g467 := jLI_fr (ft466 176 0 (by unfold w_X11_match; omega)) (ft466 0 0 (by unfold w_X11_match; omega)) (fun t => ft466 87 t (by unfold w_X11_match; omega)) li
          have dli468 : g467 176 0 ≤ 2000 := li468.1
          have e470 : jw32 (x3 + 1) = x3 + 1 := j32e (by omega) (by omega)
          refine st_xi (N := E.2.2.2.2.1) (by decide) (by decide) rfl (show 0 ≤ jw32 (x3 + 1) by omega) (show jw32 (x3 + 1) < ((E.2.2.2.2.1 : Nat) : Int) by omega) (fun v471 ev471 => ?_)
          replace ev471 : v471 = jxv E (-2) (jw32 (x3 + 1)) := ev471
          have e472 : jw32 (x3 + 2) = x3 + 2 := j32e (by omega) (by omega)
          refine st_xi (N := E.2.2.2.2.1) (by decide) (by decide) rfl (show 0 ≤ jw32 (x3 + 2) by omega) (show jw32 (x3 + 2) < ((E.2.2.2.2.1 : Nat) : Int) by omega) (fun v473 ev473 => ?_)
          replace ev473 : v473 = jxv E (-2) (jw32 (x3 + 2)) := ev473
          refine st_cv (na := 2) (st := [.inl v473, .inl v471, .inr (.inr (.inl 176))]) jo_176 rfl rfl rfl (c_X12_match v471 v473 g467 (jM7_fr (fun t => ft466 207 t (by unfold w_X11_match; omega)) (jI_7 sm dli))) rfl ?_
          rintro _ _ g475 ⟨rfl, ft474, t474, rfl, ht474, zt474⟩ kt474
          replace kt474 : -2147483648 ≤ t474 ∧ t474 ≤ 2147483647 := kt474
          replace zt474 : P_X12_match v471 v473 t474 g467 := zt474
          have li476 : jLI g475 := jLI_fr (ft474 176 0 (by unfold w_X12_match; omega)) (ft474 0 0 (by unfold w_X12_match; omega)) (fun t => ft474 87 t (by unfold w_X12_match; omega)) li468
          have dli476 : g475 176 0 ≤ 2000 := li476.1
          rw [show v471 = v463 by omega, show v473 = v465 by omega] at zt474
          have qe478 := pr_match ft466 ft474 zt466 zt474 sm ((jbf_3_0 jo_84 _).1 (hbd9 84 0)).2 dli
          have eqe478 := qe478.1
          have sm477 : jI g475 := qe478.2
          clear qe478 zt474
          show jGo E l 179 0 229 _ 1410 [.inr (.inr (.inl (-2))), .inr (.inr (.inl 0)), .inr (.inr (.inl 176)), .inl x3] [] 229 jr0 g475
          refine jGo_blk qL_law_1410 ?_
          have e479 : jw32 (x3 + 6) = x3 + 6 := j32e (by omega) (by omega)
          show jGo E l 179 0 229 _ 18 [.inr (.inr (.inl (-2))), .inr (.inr (.inl 0)), .inr (.inr (.inl 176)), .inl (jw32 (x3 + 6))] [] 229 jr0 g475
          exact ih (jw32 (x3 + 6)) g475 (by omega) li476 sm477 (by omega)
        · replace c6 : jand v4 63 = 22 := c6
          show jGo E l 179 0 229 _ 1038 [.inr (.inr (.inl (-2))), .inr (.inr (.inl 0)), .inr (.inr (.inl 176)), .inl x3] [] 229 jr0 g
          refine jGo_blk qL_law_1038 ?_
          have e480 : jw32 (x3 + 1) = x3 + 1 := j32e (by omega) (by omega)
          refine st_xi (N := E.2.2.2.2.1) (by decide) (by decide) rfl (show 0 ≤ jw32 (x3 + 1) by omega) (show jw32 (x3 + 1) < ((E.2.2.2.2.1 : Nat) : Int) by omega) (fun v481 ev481 => ?_)
          replace ev481 : v481 = jxv E (-2) (jw32 (x3 + 1)) := ev481
          refine st_cv (na := 1) (st := [.inl v481, .inr (.inr (.inl 0))]) jo_0 rfl rfl rfl (c_X11_fell v481 g (jLG_ok li.2)) rfl ?_
          rintro _ _ g483 ⟨rfl, ft482, t482, rfl, ht482, zt482⟩ kt482
          replace kt482 : -2147483648 ≤ t482 ∧ t482 ≤ 2147483647 := kt482
          replace zt482 : (∀ i k : Int, 36 ≤ i → i ≤ 83 → ¬ k = 10 → g483 i k = g i k) ∧ P_X11_fell v481 t482 g g483 := zt482
          have li484 : jLI g483 := jLI_fr (ft482 176 0 (by unfold w_X11_fell; omega)) (ft482 0 0 (by unfold w_X11_fell; omega)) (fun t => ft482 87 t (by unfold w_X11_fell; omega)) li
          have dli484 : g483 176 0 ≤ 2000 := li484.1
          have e486 : jw32 (x3 + 1) = x3 + 1 := j32e (by omega) (by omega)
          refine st_xi (N := E.2.2.2.2.1) (by decide) (by decide) rfl (show 0 ≤ jw32 (x3 + 1) by omega) (show jw32 (x3 + 1) < ((E.2.2.2.2.1 : Nat) : Int) by omega) (fun v487 ev487 => ?_)
          replace ev487 : v487 = jxv E (-2) (jw32 (x3 + 1)) := ev487
          refine st_cv (na := 1) (st := [.inl v487, .inr (.inr (.inl 176))]) jo_176 rfl rfl rfl (c_X12_fell v487 g483 (jM7_fr (fun t => ft482 207 t (by unfold w_X11_fell; omega)) (jI_7 sm dli))) rfl ?_
          rintro _ _ g489 ⟨rfl, ft488, t488, rfl, ht488, zt488⟩ kt488
          replace kt488 : -2147483648 ≤ t488 ∧ t488 ≤ 2147483647 := kt488
          replace zt488 : P_X12_fell v487 t488 g483 g489 := zt488
          have li490 : jLI g489 := jLI_fr (ft488 176 0 (by unfold w_X12_fell; omega)) (ft488 0 0 (by unfold w_X12_fell; omega)) (fun t => ft488 87 t (by unfold w_X12_fell; omega)) li484
          have dli490 : g489 176 0 ≤ 2000 := li490.1
          rw [show v487 = v481 by omega] at zt488
          have qe492 := pr_fell ft482 ft488 zt482.1 zt482.2 zt488 sm ((jbf_3_0 jo_84 _).1 (hbd9 84 0)).2 dli (fun k => ((jba_192 k _).1 (hbd9 192 k)).1) ((jbf_10_4 jo_29 _).1 (hbd9 29 4)).2
          have eqe492 := qe492.1
          have sm491 : jI g489 := qe492.2
          clear qe492 zt488
          show jGo E l 179 0 229 _ 1410 [.inr (.inr (.inl (-2))), .inr (.inr (.inl 0)), .inr (.inr (.inl 176)), .inl x3] [] 229 jr0 g489
          refine jGo_blk qL_law_1410 ?_
          have e493 : jw32 (x3 + 6) = x3 + 6 := j32e (by omega) (by omega)
          show jGo E l 179 0 229 _ 18 [.inr (.inr (.inl (-2))), .inr (.inr (.inl 0)), .inr (.inr (.inl 176)), .inl (jw32 (x3 + 6))] [] 229 jr0 g489
          exact ih (jw32 (x3 + 6)) g489 (by omega) li490 sm491 (by omega)
        · replace c6 : jand v4 63 = 23 := c6
          show jGo E l 179 0 229 _ 1061 [.inr (.inr (.inl (-2))), .inr (.inr (.inl 0)), .inr (.inr (.inl 176)), .inl x3] [] 229 jr0 g
          refine jGo_blk qL_law_1061 ?_
          have e494 : jw32 (x3 + 1) = x3 + 1 := j32e (by omega) (by omega)
          refine st_xi (N := E.2.2.2.2.1) (by decide) (by decide) rfl (show 0 ≤ jw32 (x3 + 1) by omega) (show jw32 (x3 + 1) < ((E.2.2.2.2.1 : Nat) : Int) by omega) (fun v495 ev495 => ?_)
          replace ev495 : v495 = jxv E (-2) (jw32 (x3 + 1)) := ev495
          have e496 : jw32 (x3 + 2) = x3 + 2 := j32e (by omega) (by omega)
          refine st_xi (N := E.2.2.2.2.1) (by decide) (by decide) rfl (show 0 ≤ jw32 (x3 + 2) by omega) (show jw32 (x3 + 2) < ((E.2.2.2.2.1 : Nat) : Int) by omega) (fun v497 ev497 => ?_)
          replace ev497 : v497 = jxv E (-2) (jw32 (x3 + 2)) := ev497
          refine st_cv (na := 2) (st := [.inl v497, .inl v495, .inr (.inr (.inl 0))]) jo_0 rfl rfl rfl (c_X11_treeFor v495 v497 g) rfl ?_
          rintro _ _ g499 ⟨rfl, ft498, t498, rfl, ht498, zt498⟩ kt498
          replace kt498 : -2147483648 ≤ t498 ∧ t498 ≤ 2147483647 := kt498
          replace ht498 : -9 ≤ t498 ∧ t498 ≤ 39 := ht498
          replace zt498 : P_X11_treeFor v495 v497 t498 g := zt498
          have li500 : jLI g499 := jLI_fr (ft498 176 0 (by unfold w_X11_treeFor; omega)) (ft498 0 0 (by unfold w_X11_treeFor; omega)) (fun t => ft498 87 t (by unfold w_X11_treeFor; omega)) li
          have dli500 : g499 176 0 ≤ 2000 := li500.1
          have e502 : jw32 (x3 + 1) = x3 + 1 := j32e (by omega) (by omega)
          refine st_xi (N := E.2.2.2.2.1) (by decide) (by decide) rfl (show 0 ≤ jw32 (x3 + 1) by omega) (show jw32 (x3 + 1) < ((E.2.2.2.2.1 : Nat) : Int) by omega) (fun v503 ev503 => ?_)
          replace ev503 : v503 = jxv E (-2) (jw32 (x3 + 1)) := ev503
          have e504 : jw32 (x3 + 2) = x3 + 2 := j32e (by omega) (by omega)
          refine st_xi (N := E.2.2.2.2.1) (by decide) (by decide) rfl (show 0 ≤ jw32 (x3 + 2) by omega) (show jw32 (x3 + 2) < ((E.2.2.2.2.1 : Nat) : Int) by omega) (fun v505 ev505 => ?_)
          replace ev505 : v505 = jxv E (-2) (jw32 (x3 + 2)) := ev505
          refine st_cv (na := 2) (st := [.inl v505, .inl v503, .inr (.inr (.inl 176))]) jo_176 rfl rfl rfl (c_X12_treeFor v503 v505 g499) rfl ?_
          rintro _ _ g507 ⟨rfl, ft506, t506, rfl, ht506, zt506⟩ kt506
          replace kt506 : -2147483648 ≤ t506 ∧ t506 ≤ 2147483647 := kt506
          replace ht506 : -9 ≤ t506 ∧ t506 ≤ 39 := ht506
          replace zt506 : P_X12_treeFor v503 v505 t506 g499 := zt506
          have li508 : jLI g507 := jLI_fr (ft506 176 0 (by unfold w_X12_treeFor; omega)) (ft506 0 0 (by unfold w_X12_treeFor; omega)) (fun t => ft506 87 t (by unfold w_X12_treeFor; omega)) li500
          have dli508 : g507 176 0 ≤ 2000 := li508.1
          rw [show v503 = v495 by omega, show v505 = v497 by omega] at zt506
          have qe510 := pr_treeFor ft498 ft506 zt498 zt506 sm
          have eqe510 := qe510.1
          have sm509 : jI g507 := qe510.2
          clear qe510 zt506
          show jGo E l 179 0 229 _ 1410 [.inr (.inr (.inl (-2))), .inr (.inr (.inl 0)), .inr (.inr (.inl 176)), .inl x3] [] 229 jr0 g507
          refine jGo_blk qL_law_1410 ?_
          have e511 : jw32 (x3 + 6) = x3 + 6 := j32e (by omega) (by omega)
          show jGo E l 179 0 229 _ 18 [.inr (.inr (.inl (-2))), .inr (.inr (.inl 0)), .inr (.inr (.inl 176)), .inl (jw32 (x3 + 6))] [] 229 jr0 g507
          exact ih (jw32 (x3 + 6)) g507 (by omega) li508 sm509 (by omega)
        · replace c6 : jand v4 63 = 24 := c6
          show jGo E l 179 0 229 _ 1094 [.inr (.inr (.inl (-2))), .inr (.inr (.inl 0)), .inr (.inr (.inl 176)), .inl x3] [] 229 jr0 g
          refine jGo_blk qL_law_1094 ?_
          have e512 : jw32 (x3 + 1) = x3 + 1 := j32e (by omega) (by omega)
          refine st_xi (N := E.2.2.2.2.1) (by decide) (by decide) rfl (show 0 ≤ jw32 (x3 + 1) by omega) (show jw32 (x3 + 1) < ((E.2.2.2.2.1 : Nat) : Int) by omega) (fun v513 ev513 => ?_)
          replace ev513 : v513 = jxv E (-2) (jw32 (x3 + 1)) := ev513
          have e514 : jw32 (x3 + 2) = x3 + 2 := j32e (by omega) (by omega)
          refine st_xi (N := E.2.2.2.2.1) (by decide) (by decide) rfl (show 0 ≤ jw32 (x3 + 2) by omega) (show jw32 (x3 + 2) < ((E.2.2.2.2.1 : Nat) : Int) by omega) (fun v515 ev515 => ?_)
          replace ev515 : v515 = jxv E (-2) (jw32 (x3 + 2)) := ev515
          refine st_cv (na := 2) (st := [.inl v515, .inl v513, .inr (.inr (.inl 0))]) jo_0 rfl rfl rfl (c_X11_treeOf v513 v515 g) rfl ?_
          rintro _ _ g517 ⟨rfl, ft516, t516, rfl, ht516, zt516⟩ kt516
          replace kt516 : -2147483648 ≤ t516 ∧ t516 ≤ 2147483647 := kt516
          replace zt516 : P_X11_treeOf v513 v515 t516 g := zt516
          have li518 : jLI g517 := jLI_fr (ft516 176 0 (by unfold w_X11_treeOf; omega)) (ft516 0 0 (by unfold w_X11_treeOf; omega)) (fun t => ft516 87 t (by unfold w_X11_treeOf; omega)) li
          have dli518 : g517 176 0 ≤ 2000 := li518.1
          have e520 : jw32 (x3 + 1) = x3 + 1 := j32e (by omega) (by omega)
          refine st_xi (N := E.2.2.2.2.1) (by decide) (by decide) rfl (show 0 ≤ jw32 (x3 + 1) by omega) (show jw32 (x3 + 1) < ((E.2.2.2.2.1 : Nat) : Int) by omega) (fun v521 ev521 => ?_)
          replace ev521 : v521 = jxv E (-2) (jw32 (x3 + 1)) := ev521
          have e522 : jw32 (x3 + 2) = x3 + 2 := j32e (by omega) (by omega)
          refine st_xi (N := E.2.2.2.2.1) (by decide) (by decide) rfl (show 0 ≤ jw32 (x3 + 2) by omega) (show jw32 (x3 + 2) < ((E.2.2.2.2.1 : Nat) : Int) by omega) (fun v523 ev523 => ?_)
          replace ev523 : v523 = jxv E (-2) (jw32 (x3 + 2)) := ev523
          refine st_cv (na := 2) (st := [.inl v523, .inl v521, .inr (.inr (.inl 176))]) jo_176 rfl rfl rfl (c_X12_treeOf v521 v523 g517) rfl ?_
          rintro _ _ g525 ⟨rfl, ft524, t524, rfl, ht524, zt524⟩ kt524
          replace kt524 : -2147483648 ≤ t524 ∧ t524 ≤ 2147483647 := kt524
          replace zt524 : P_X12_treeOf v521 v523 t524 g517 := zt524
          have li526 : jLI g525 := jLI_fr (ft524 176 0 (by unfold w_X12_treeOf; omega)) (ft524 0 0 (by unfold w_X12_treeOf; omega)) (fun t => ft524 87 t (by unfold w_X12_treeOf; omega)) li518
          have dli526 : g525 176 0 ≤ 2000 := li526.1
          rw [show v521 = v513 by omega, show v523 = v515 by omega] at zt524
          have qe528 := pr_treeOf ft516 ft524 zt516 zt524 sm
          have eqe528 := qe528.1
          have sm527 : jI g525 := qe528.2
          clear qe528 zt524
          show jGo E l 179 0 229 _ 1410 [.inr (.inr (.inl (-2))), .inr (.inr (.inl 0)), .inr (.inr (.inl 176)), .inl x3] [] 229 jr0 g525
          refine jGo_blk qL_law_1410 ?_
          have e529 : jw32 (x3 + 6) = x3 + 6 := j32e (by omega) (by omega)
          show jGo E l 179 0 229 _ 18 [.inr (.inr (.inl (-2))), .inr (.inr (.inl 0)), .inr (.inr (.inl 176)), .inl (jw32 (x3 + 6))] [] 229 jr0 g525
          exact ih (jw32 (x3 + 6)) g525 (by omega) li526 sm527 (by omega)
        · replace c6 : jand v4 63 = 25 := c6
          show jGo E l 179 0 229 _ 1127 [.inr (.inr (.inl (-2))), .inr (.inr (.inl 0)), .inr (.inr (.inl 176)), .inl x3] [] 229 jr0 g
          refine jGo_blk qL_law_1127 ?_
          have e530 : jw32 (x3 + 1) = x3 + 1 := j32e (by omega) (by omega)
          refine st_xi (N := E.2.2.2.2.1) (by decide) (by decide) rfl (show 0 ≤ jw32 (x3 + 1) by omega) (show jw32 (x3 + 1) < ((E.2.2.2.2.1 : Nat) : Int) by omega) (fun v531 ev531 => ?_)
          replace ev531 : v531 = jxv E (-2) (jw32 (x3 + 1)) := ev531
          have e532 : jw32 (x3 + 2) = x3 + 2 := j32e (by omega) (by omega)
          refine st_xi (N := E.2.2.2.2.1) (by decide) (by decide) rfl (show 0 ≤ jw32 (x3 + 2) by omega) (show jw32 (x3 + 2) < ((E.2.2.2.2.1 : Nat) : Int) by omega) (fun v533 ev533 => ?_)
          replace ev533 : v533 = jxv E (-2) (jw32 (x3 + 2)) := ev533
          refine st_cv (na := 2) (st := [.inl v533, .inl v531, .inr (.inr (.inl 0))]) jo_0 rfl rfl rfl (c_X11_count v531 v533 g) rfl ?_
          rintro _ _ g535 ⟨rfl, ft534, t534, rfl, ht534, zt534⟩ kt534
          replace kt534 : -2147483648 ≤ t534 ∧ t534 ≤ 2147483647 := kt534
          replace zt534 : (P_X11_count v531 v533 t534 g g535) ∧ jFg (2000000000 < t534) g g535 := zt534
          have li536 : jLI g535 := jLI_fr (ft534 176 0 (by unfold w_X11_count; omega)) (ft534 0 0 (by unfold w_X11_count; omega)) (fun t => ft534 87 t (by unfold w_X11_count; omega)) li
          have dli536 : g535 176 0 ≤ 2000 := li536.1
          have e538 : jw32 (x3 + 1) = x3 + 1 := j32e (by omega) (by omega)
          refine st_xi (N := E.2.2.2.2.1) (by decide) (by decide) rfl (show 0 ≤ jw32 (x3 + 1) by omega) (show jw32 (x3 + 1) < ((E.2.2.2.2.1 : Nat) : Int) by omega) (fun v539 ev539 => ?_)
          replace ev539 : v539 = jxv E (-2) (jw32 (x3 + 1)) := ev539
          have e540 : jw32 (x3 + 2) = x3 + 2 := j32e (by omega) (by omega)
          refine st_xi (N := E.2.2.2.2.1) (by decide) (by decide) rfl (show 0 ≤ jw32 (x3 + 2) by omega) (show jw32 (x3 + 2) < ((E.2.2.2.2.1 : Nat) : Int) by omega) (fun v541 ev541 => ?_)
          replace ev541 : v541 = jxv E (-2) (jw32 (x3 + 2)) := ev541
          have e542 : g535 176 0 = g 176 0 := ft534 176 0 (by unfold w_X11_count; omega)
          refine st_cv (na := 2) (st := [.inl v541, .inl v539, .inr (.inr (.inl 176))]) jo_176 rfl rfl rfl (c_X12_count v539 v541 g535 (by omega)) rfl ?_
          rintro _ _ g544 ⟨rfl, ft543, t543, rfl, ht543, zt543⟩ kt543
          replace kt543 : -2147483648 ≤ t543 ∧ t543 ≤ 2147483647 := kt543
          replace zt543 : P_X12_count v539 v541 t543 g535 g544 := zt543
          have li545 : jLI g544 := jLI_fr (ft543 176 0 (by unfold w_X12_count; omega)) (ft543 0 0 (by unfold w_X12_count; omega)) (fun t => ft543 87 t (by unfold w_X12_count; omega)) li536
          have dli545 : g544 176 0 ≤ 2000 := li545.1
          rw [show v539 = v531 by omega, show v541 = v533 by omega] at zt543
          have qe547 := pr_count ft534 ft543 zt534.1 zt543 sm ((jbf_5_0 jo_101 _).1 (hbd9 101 0)).1 (fun exy => jAh_m zt534.2 (fun b9 => (rx_count ft534 zt543 sm) (by omega)) (fun k9 => ft543 111 k9 (by unfold w_X12_count; omega)) (fun i9 k9 q9 => by unfold jwh3 at q9; exact ft543 i9 k9 (by unfold w_X12_count; omega)) (jI_ah sm))
          have eqe547 := qe547.1
          have sm546 : jI g544 := qe547.2
          clear qe547 zt543
          show jGo E l 179 0 229 _ 1410 [.inr (.inr (.inl (-2))), .inr (.inr (.inl 0)), .inr (.inr (.inl 176)), .inl x3] [] 229 jr0 g544
          refine jGo_blk qL_law_1410 ?_
          have e548 : jw32 (x3 + 6) = x3 + 6 := j32e (by omega) (by omega)
          show jGo E l 179 0 229 _ 18 [.inr (.inr (.inl (-2))), .inr (.inr (.inl 0)), .inr (.inr (.inl 176)), .inl (jw32 (x3 + 6))] [] 229 jr0 g544
          exact ih (jw32 (x3 + 6)) g544 (by omega) li545 sm546 (by omega)
        · replace c6 : jand v4 63 = 26 := c6
          show jGo E l 179 0 229 _ 1160 [.inr (.inr (.inl (-2))), .inr (.inr (.inl 0)), .inr (.inr (.inl 176)), .inl x3] [] 229 jr0 g
          refine jGo_blk qL_law_1160 ?_
          have e549 : jw32 (x3 + 1) = x3 + 1 := j32e (by omega) (by omega)
          refine st_xi (N := E.2.2.2.2.1) (by decide) (by decide) rfl (show 0 ≤ jw32 (x3 + 1) by omega) (show jw32 (x3 + 1) < ((E.2.2.2.2.1 : Nat) : Int) by omega) (fun v550 ev550 => ?_)
          replace ev550 : v550 = jxv E (-2) (jw32 (x3 + 1)) := ev550
          have e551 : jw32 (x3 + 2) = x3 + 2 := j32e (by omega) (by omega)
          refine st_xi (N := E.2.2.2.2.1) (by decide) (by decide) rfl (show 0 ≤ jw32 (x3 + 2) by omega) (show jw32 (x3 + 2) < ((E.2.2.2.2.1 : Nat) : Int) by omega) (fun v552 ev552 => ?_)
          replace ev552 : v552 = jxv E (-2) (jw32 (x3 + 2)) := ev552
          refine st_cv (na := 2) (st := [.inl v552, .inl v550, .inr (.inr (.inl 0))]) jo_0 rfl rfl rfl (c_X11_gap v550 v552 g) rfl ?_
          rintro _ _ g554 ⟨rfl, ft553, t553, rfl, ht553, zt553⟩ kt553
          replace kt553 : -2147483648 ≤ t553 ∧ t553 ≤ 2147483647 := kt553
          replace zt553 : P_X11_gap v550 v552 t553 g := zt553
          have li555 : jLI g554 := jLI_fr (ft553 176 0 (by unfold w_X11_gap; omega)) (ft553 0 0 (by unfold w_X11_gap; omega)) (fun t => ft553 87 t (by unfold w_X11_gap; omega)) li
          have dli555 : g554 176 0 ≤ 2000 := li555.1
          have e557 : jw32 (x3 + 1) = x3 + 1 := j32e (by omega) (by omega)
          refine st_xi (N := E.2.2.2.2.1) (by decide) (by decide) rfl (show 0 ≤ jw32 (x3 + 1) by omega) (show jw32 (x3 + 1) < ((E.2.2.2.2.1 : Nat) : Int) by omega) (fun v558 ev558 => ?_)
          replace ev558 : v558 = jxv E (-2) (jw32 (x3 + 1)) := ev558
          have e559 : jw32 (x3 + 2) = x3 + 2 := j32e (by omega) (by omega)
          refine st_xi (N := E.2.2.2.2.1) (by decide) (by decide) rfl (show 0 ≤ jw32 (x3 + 2) by omega) (show jw32 (x3 + 2) < ((E.2.2.2.2.1 : Nat) : Int) by omega) (fun v560 ev560 => ?_)
          replace ev560 : v560 = jxv E (-2) (jw32 (x3 + 2)) := ev560
          refine st_cv (na := 2) (st := [.inl v560, .inl v558, .inr (.inr (.inl 176))]) jo_176 rfl rfl rfl (c_X12_gap v558 v560 g554) rfl ?_
          rintro _ _ g562 ⟨rfl, ft561, t561, rfl, ht561, zt561⟩ kt561
          replace kt561 : -2147483648 ≤ t561 ∧ t561 ≤ 2147483647 := kt561
          replace zt561 : P_X12_gap v558 v560 t561 g554 := zt561
          have li563 : jLI g562 := jLI_fr (ft561 176 0 (by unfold w_X12_gap; omega)) (ft561 0 0 (by unfold w_X12_gap; omega)) (fun t => ft561 87 t (by unfold w_X12_gap; omega)) li555
          have dli563 : g562 176 0 ≤ 2000 := li563.1
          rw [show v558 = v550 by omega, show v560 = v552 by omega] at zt561
          have qe565 := pr_gap ft553 ft561 zt553 zt561 sm
          have eqe565 := qe565.1
          have sm564 : jI g562 := qe565.2
          clear qe565 zt561
          show jGo E l 179 0 229 _ 1410 [.inr (.inr (.inl (-2))), .inr (.inr (.inl 0)), .inr (.inr (.inl 176)), .inl x3] [] 229 jr0 g562
          refine jGo_blk qL_law_1410 ?_
          have e566 : jw32 (x3 + 6) = x3 + 6 := j32e (by omega) (by omega)
          show jGo E l 179 0 229 _ 18 [.inr (.inr (.inl (-2))), .inr (.inr (.inl 0)), .inr (.inr (.inl 176)), .inl (jw32 (x3 + 6))] [] 229 jr0 g562
          exact ih (jw32 (x3 + 6)) g562 (by omega) li563 sm564 (by omega)
        · replace c6 : jand v4 63 = 27 := c6
          show jGo E l 179 0 229 _ 1193 [.inr (.inr (.inl (-2))), .inr (.inr (.inl 0)), .inr (.inr (.inl 176)), .inl x3] [] 229 jr0 g
          refine jGo_blk qL_law_1193 ?_
          have e567 : jw32 (x3 + 1) = x3 + 1 := j32e (by omega) (by omega)
          refine st_xi (N := E.2.2.2.2.1) (by decide) (by decide) rfl (show 0 ≤ jw32 (x3 + 1) by omega) (show jw32 (x3 + 1) < ((E.2.2.2.2.1 : Nat) : Int) by omega) (fun v568 ev568 => ?_)
          replace ev568 : v568 = jxv E (-2) (jw32 (x3 + 1)) := ev568
          refine st_cv (na := 1) (st := [.inl v568, .inr (.inr (.inl 0))]) jo_0 rfl rfl rfl (c_X11_worst v568 g) rfl ?_
          rintro _ _ g570 ⟨rfl, ft569, t569, rfl, ht569, zt569⟩ kt569
          replace kt569 : -2147483648 ≤ t569 ∧ t569 ≤ 2147483647 := kt569
          replace ht569 : -9 ≤ t569 ∧ t569 ≤ 39 := ht569
          replace zt569 : P_X11_worst v568 t569 g := zt569
          have li571 : jLI g570 := jLI_fr (ft569 176 0 (by unfold w_X11_worst; omega)) (ft569 0 0 (by unfold w_X11_worst; omega)) (fun t => ft569 87 t (by unfold w_X11_worst; omega)) li
          have dli571 : g570 176 0 ≤ 2000 := li571.1
          have e573 : jw32 (x3 + 1) = x3 + 1 := j32e (by omega) (by omega)
          refine st_xi (N := E.2.2.2.2.1) (by decide) (by decide) rfl (show 0 ≤ jw32 (x3 + 1) by omega) (show jw32 (x3 + 1) < ((E.2.2.2.2.1 : Nat) : Int) by omega) (fun v574 ev574 => ?_)
          replace ev574 : v574 = jxv E (-2) (jw32 (x3 + 1)) := ev574
          refine st_cv (na := 1) (st := [.inl v574, .inr (.inr (.inl 176)), .inl t569]) jo_176 rfl rfl rfl (c_X12_worst v574 g570) rfl ?_
          rintro _ _ g576 ⟨rfl, ft575, t575, rfl, ht575, zt575⟩ kt575
          replace kt575 : -2147483648 ≤ t575 ∧ t575 ≤ 2147483647 := kt575
          replace ht575 : -9 ≤ t575 ∧ t575 ≤ 39 := ht575
          replace zt575 : P_X12_worst v574 t575 g570 := zt575
          have li577 : jLI g576 := jLI_fr (ft575 176 0 (by unfold w_X12_worst; omega)) (ft575 0 0 (by unfold w_X12_worst; omega)) (fun t => ft575 87 t (by unfold w_X12_worst; omega)) li571
          have dli577 : g576 176 0 ≤ 2000 := li577.1
          rw [show v574 = v568 by omega] at zt575
          have qe579 := pr_worst ft569 ft575 zt569 zt575 sm ((jbf_5_0 jo_101 _).1 (hbd9 101 0)).1
          have eqe579 := qe579.1
          have sm578 : jI g576 := qe579.2
          clear qe579 zt575
          refine And.intro (fun c580 => ?_) (fun c580 => ?_)
          · replace c580 : t569 = t575 := c580
            show jGo E l 179 0 229 _ 1410 [.inr (.inr (.inl (-2))), .inr (.inr (.inl 0)), .inr (.inr (.inl 176)), .inl x3] [] 229 jr0 g576
            refine jGo_blk qL_law_1410 ?_
            have e581 : jw32 (x3 + 6) = x3 + 6 := j32e (by omega) (by omega)
            show jGo E l 179 0 229 _ 18 [.inr (.inr (.inl (-2))), .inr (.inr (.inl 0)), .inr (.inr (.inl 176)), .inl (jw32 (x3 + 6))] [] 229 jr0 g576
            exact ih (jw32 (x3 + 6)) g576 (by omega) li577 sm578 (by omega)
          · replace c580 : ¬ t569 = t575 := by first | exact c580 | exact Int.not_le.mp c580 | exact Int.not_lt.mp c580 | exact Decidable.not_not.mp c580
            exfalso; omega
        · replace c6 : jand v4 63 = 28 := c6
          show jGo E l 179 0 229 _ 1216 [.inr (.inr (.inl (-2))), .inr (.inr (.inl 0)), .inr (.inr (.inl 176)), .inl x3] [] 229 jr0 g
          refine jGo_blk qL_law_1216 ?_
          have e582 : jw32 (x3 + 1) = x3 + 1 := j32e (by omega) (by omega)
          refine st_xi (N := E.2.2.2.2.1) (by decide) (by decide) rfl (show 0 ≤ jw32 (x3 + 1) by omega) (show jw32 (x3 + 1) < ((E.2.2.2.2.1 : Nat) : Int) by omega) (fun v583 ev583 => ?_)
          replace ev583 : v583 = jxv E (-2) (jw32 (x3 + 1)) := ev583
          refine st_cv (na := 1) (st := [.inl v583, .inr (.inr (.inl 0))]) jo_0 rfl rfl rfl (c_X11_ready v583 g) rfl ?_
          rintro _ _ g585 ⟨rfl, ft584, t584, rfl, ht584, zt584⟩ kt584
          replace kt584 : -2147483648 ≤ t584 ∧ t584 ≤ 2147483647 := kt584
          replace zt584 : P_X11_ready v583 t584 g g585 := zt584
          have li586 : jLI g585 := jLI_fr (ft584 176 0 (by unfold w_X11_ready; omega)) (ft584 0 0 (by unfold w_X11_ready; omega)) (fun t => ft584 87 t (by unfold w_X11_ready; omega)) li
          have dli586 : g585 176 0 ≤ 2000 := li586.1
          have e588 : jw32 (x3 + 1) = x3 + 1 := j32e (by omega) (by omega)
          refine st_xi (N := E.2.2.2.2.1) (by decide) (by decide) rfl (show 0 ≤ jw32 (x3 + 1) by omega) (show jw32 (x3 + 1) < ((E.2.2.2.2.1 : Nat) : Int) by omega) (fun v589 ev589 => ?_)
          replace ev589 : v589 = jxv E (-2) (jw32 (x3 + 1)) := ev589
          have e590 : g585 176 0 = g 176 0 := ft584 176 0 (by unfold w_X11_ready; omega)
          refine st_cv (na := 1) (st := [.inl v589, .inr (.inr (.inl 176))]) jo_176 rfl rfl rfl (c_X12_ready v589 g585 (by omega)) rfl ?_
          rintro _ _ g592 ⟨rfl, ft591, t591, rfl, ht591, zt591⟩ kt591
          replace kt591 : -2147483648 ≤ t591 ∧ t591 ≤ 2147483647 := kt591
          replace zt591 : ((g592 176 0 = g585 176 0) ∧ ∀ L k : Int, jlv L k → g592 L k = g585 L k) ∧ P_X12_ready v589 t591 g585 := zt591
          have li593 : jLI g592 := ⟨by rw [show g592 176 0 = g585 176 0 from zt591.1.1]; exact li586.1, jLG_fr (ft591 0 0 (by unfold w_X12_ready; omega)) (fun t => ft591 87 t (by unfold w_X12_ready; omega)) li586.2⟩
          have dli593 : g592 176 0 ≤ 2000 := li593.1
          rw [show v589 = v583 by omega] at zt591
          have qe595 := pr_ready ft584 ft591 zt584 zt591 sm hbd9 dli
          have eqe595 := qe595.1
          have sm594 : jI g592 := qe595.2
          clear qe595 zt591
          show jGo E l 179 0 229 _ 1410 [.inr (.inr (.inl (-2))), .inr (.inr (.inl 0)), .inr (.inr (.inl 176)), .inl x3] [] 229 jr0 g592
          refine jGo_blk qL_law_1410 ?_
          have e596 : jw32 (x3 + 6) = x3 + 6 := j32e (by omega) (by omega)
          show jGo E l 179 0 229 _ 18 [.inr (.inr (.inl (-2))), .inr (.inr (.inl 0)), .inr (.inr (.inl 176)), .inl (jw32 (x3 + 6))] [] 229 jr0 g592
          exact ih (jw32 (x3 + 6)) g592 (by omega) li593 sm594 (by omega)
        · replace c6 : jand v4 63 = 29 := c6
          show jGo E l 179 0 229 _ 1239 [.inr (.inr (.inl (-2))), .inr (.inr (.inl 0)), .inr (.inr (.inl 176)), .inl x3] [] 229 jr0 g
          refine jGo_blk qL_law_1239 ?_
          have e597 : jw32 (x3 + 1) = x3 + 1 := j32e (by omega) (by omega)
          refine st_xi (N := E.2.2.2.2.1) (by decide) (by decide) rfl (show 0 ≤ jw32 (x3 + 1) by omega) (show jw32 (x3 + 1) < ((E.2.2.2.2.1 : Nat) : Int) by omega) (fun v598 ev598 => ?_)
          replace ev598 : v598 = jxv E (-2) (jw32 (x3 + 1)) := ev598
          refine st_cv (na := 1) (st := [.inl v598, .inr (.inr (.inl 0))]) jo_0 rfl rfl rfl (c_X11_late v598 g) rfl ?_
          rintro _ _ g600 ⟨rfl, ft599, t599, rfl, ht599, zt599⟩ kt599
          replace kt599 : -2147483648 ≤ t599 ∧ t599 ≤ 2147483647 := kt599
          replace zt599 : P_X11_late v598 t599 g g600 := zt599
          have li601 : jLI g600 := jLI_fr (ft599 176 0 (by unfold w_X11_late; omega)) (ft599 0 0 (by unfold w_X11_late; omega)) (fun t => ft599 87 t (by unfold w_X11_late; omega)) li
          have dli601 : g600 176 0 ≤ 2000 := li601.1
          have e603 : jw32 (x3 + 1) = x3 + 1 := j32e (by omega) (by omega)
          refine st_xi (N := E.2.2.2.2.1) (by decide) (by decide) rfl (show 0 ≤ jw32 (x3 + 1) by omega) (show jw32 (x3 + 1) < ((E.2.2.2.2.1 : Nat) : Int) by omega) (fun v604 ev604 => ?_)
          replace ev604 : v604 = jxv E (-2) (jw32 (x3 + 1)) := ev604
          have e605 : g600 176 0 = g 176 0 := ft599 176 0 (by unfold w_X11_late; omega)
          refine st_cv (na := 1) (st := [.inl v604, .inr (.inr (.inl 176))]) jo_176 rfl rfl rfl (c_X12_late v604 g600 (by omega)) rfl ?_
          rintro _ _ g607 ⟨rfl, ft606, t606, rfl, ht606, zt606⟩ kt606
          replace kt606 : -2147483648 ≤ t606 ∧ t606 ≤ 2147483647 := kt606
          replace zt606 : ((g607 176 0 = g600 176 0) ∧ ∀ L k : Int, jlv L k → g607 L k = g600 L k) ∧ P_X12_late v604 t606 g600 := zt606
          have li608 : jLI g607 := ⟨by rw [show g607 176 0 = g600 176 0 from zt606.1.1]; exact li601.1, jLG_fr (ft606 0 0 (by unfold w_X12_late; omega)) (fun t => ft606 87 t (by unfold w_X12_late; omega)) li601.2⟩
          have dli608 : g607 176 0 ≤ 2000 := li608.1
          rw [show v604 = v598 by omega] at zt606
          have qe610 := pr_late ft599 ft606 zt599 zt606 sm hbd9 dli
          have eqe610 := qe610.1
          have sm609 : jI g607 := qe610.2
          clear qe610 zt606
          show jGo E l 179 0 229 _ 1410 [.inr (.inr (.inl (-2))), .inr (.inr (.inl 0)), .inr (.inr (.inl 176)), .inl x3] [] 229 jr0 g607
          refine jGo_blk qL_law_1410 ?_
          have e611 : jw32 (x3 + 6) = x3 + 6 := j32e (by omega) (by omega)
          show jGo E l 179 0 229 _ 18 [.inr (.inr (.inl (-2))), .inr (.inr (.inl 0)), .inr (.inr (.inl 176)), .inl (jw32 (x3 + 6))] [] 229 jr0 g607
          exact ih (jw32 (x3 + 6)) g607 (by omega) li608 sm609 (by omega)
        · replace c6 : jand v4 63 = 30 := c6
          show jGo E l 179 0 229 _ 1262 [.inr (.inr (.inl (-2))), .inr (.inr (.inl 0)), .inr (.inr (.inl 176)), .inl x3] [] 229 jr0 g
          refine jGo_blk qL_law_1262 ?_
          refine st_cv (na := 0) (st := [.inr (.inr (.inl 0))]) jo_0 rfl rfl rfl (c_X11_least g) rfl ?_
          rintro _ _ g613 ⟨rfl, ft612, t612, rfl, ht612, zt612⟩ kt612
          replace kt612 : -2147483648 ≤ t612 ∧ t612 ≤ 2147483647 := kt612
          replace zt612 : ((t612 = -3 ∧ 5 < (jull (jcS g) (g 29 4).toNat).length) ∨ ((jull (jcS g) (g 29 4).toNat).length ≤ 5 ∧ ¬ g613 111 11 = 0 ∧ ¬ g613 111 9 = 0 ∧ t612 = g613 111 0)) ∧ jAP g g613 := zt612
          have li614 : jLI g613 := jLI_fr (ft612 176 0 (by unfold w_X11_least; omega)) (ft612 0 0 (by unfold w_X11_least; omega)) (fun t => ft612 87 t (by unfold w_X11_least; omega)) li
          have dli614 : g613 176 0 ≤ 2000 := li614.1
          have e616 : g613 176 0 = g 176 0 := ft612 176 0 (by unfold w_X11_least; omega)
          refine st_cv (na := 0) (st := [.inr (.inr (.inl 176))]) jo_176 rfl rfl rfl (c_X12_least g613 (by omega)) rfl ?_
          rintro _ _ g618 ⟨rfl, ft617, t617, rfl, ht617, zt617⟩ kt617
          replace kt617 : -2147483648 ≤ t617 ∧ t617 ≤ 2147483647 := kt617
          replace zt617 : ((g618 176 0 = g613 176 0) ∧ (((t617 = -3 ∧ 5 < (jUL g613).length) ∨ ((jUL g613).length ≤ 5 ∧ ∃ o : Nat → Int, jRLs g613 t617 o)))) ∧ ∀ L k : Int, jlv L k → g618 L k = g613 L k := zt617
          have li619 : jLI g618 := ⟨by rw [show g618 176 0 = g613 176 0 from zt617.1.1]; exact li614.1, jLG_fr (ft617 0 0 (by unfold w_X12_least; omega)) (fun t => ft617 87 t (by unfold w_X12_least; omega)) li614.2⟩
          have dli619 : g618 176 0 ≤ 2000 := li619.1
          have qe621 := pr_least ft612 ft617 zt612 zt617 sm hbd9 dli
          have eqe621 := qe621.1
          have sm620 : jI g618 := qe621.2
          clear qe621 zt617
          show jGo E l 179 0 229 _ 1410 [.inr (.inr (.inl (-2))), .inr (.inr (.inl 0)), .inr (.inr (.inl 176)), .inl x3] [] 229 jr0 g618
          refine jGo_blk qL_law_1410 ?_
          have e622 : jw32 (x3 + 6) = x3 + 6 := j32e (by omega) (by omega)
          show jGo E l 179 0 229 _ 18 [.inr (.inr (.inl (-2))), .inr (.inr (.inl 0)), .inr (.inr (.inl 176)), .inl (jw32 (x3 + 6))] [] 229 jr0 g618
          exact ih (jw32 (x3 + 6)) g618 (by omega) li619 sm620 (by omega)
        · replace c6 : jand v4 63 = 31 := c6
          show jGo E l 179 0 229 _ 1275 [.inr (.inr (.inl (-2))), .inr (.inr (.inl 0)), .inr (.inr (.inl 176)), .inl x3] [] 229 jr0 g
          refine jGo_blk qL_law_1275 ?_
          have e623 : jw32 (x3 + 1) = x3 + 1 := j32e (by omega) (by omega)
          refine st_xi (N := E.2.2.2.2.1) (by decide) (by decide) rfl (show 0 ≤ jw32 (x3 + 1) by omega) (show jw32 (x3 + 1) < ((E.2.2.2.2.1 : Nat) : Int) by omega) (fun v624 ev624 => ?_)
          replace ev624 : v624 = jxv E (-2) (jw32 (x3 + 1)) := ev624
          refine st_cv (na := 1) (st := [.inl v624, .inr (.inr (.inl 0))]) jo_0 rfl rfl rfl (c_X11_order v624 g) rfl ?_
          rintro _ _ g626 ⟨rfl, ft625, t625, rfl, ht625, zt625⟩ kt625
          replace kt625 : -2147483648 ≤ t625 ∧ t625 ≤ 2147483647 := kt625
          replace ht625 : -9 ≤ t625 ∧ t625 ≤ 15 := ht625
          replace zt625 : ((t625 = -3 ∧ 5 < (jull (jcS g) (g 29 4).toNat).length) ∨ ((jull (jcS g) (g 29 4).toNat).length ≤ 5 ∧ ¬ g626 111 11 = 0 ∧ ¬ g626 111 9 = 0 ∧ ((0 ≤ v624 ∧ v624 < g626 111 2 ∧ t625 = g626 112 v624) ∨ (¬ (0 ≤ v624 ∧ v624 < g626 111 2) ∧ t625 = -9)))) ∧ jAP g g626 := zt625
          have li627 : jLI g626 := jLI_fr (ft625 176 0 (by unfold w_X11_order; omega)) (ft625 0 0 (by unfold w_X11_order; omega)) (fun t => ft625 87 t (by unfold w_X11_order; omega)) li
          have dli627 : g626 176 0 ≤ 2000 := li627.1
          have e629 : jw32 (x3 + 1) = x3 + 1 := j32e (by omega) (by omega)
          refine st_xi (N := E.2.2.2.2.1) (by decide) (by decide) rfl (show 0 ≤ jw32 (x3 + 1) by omega) (show jw32 (x3 + 1) < ((E.2.2.2.2.1 : Nat) : Int) by omega) (fun v630 ev630 => ?_)
          replace ev630 : v630 = jxv E (-2) (jw32 (x3 + 1)) := ev630
          have e631 : g626 176 0 = g 176 0 := ft625 176 0 (by unfold w_X11_order; omega)
          refine st_cv (na := 1) (st := [.inl v630, .inr (.inr (.inl 176))]) jo_176 rfl rfl rfl (c_X12_order v630 g626 (by omega)) rfl ?_
          rintro _ _ g633 ⟨rfl, ft632, t632, rfl, ht632, zt632⟩ kt632
          replace kt632 : -2147483648 ≤ t632 ∧ t632 ≤ 2147483647 := kt632
          replace ht632 : -9 ≤ t632 ∧ t632 ≤ 15 := ht632
          replace zt632 : ((g633 176 0 = g626 176 0) ∧ (((t632 = -3 ∧ 5 < (jUL g626).length) ∨ ((jUL g626).length ≤ 5 ∧ ((¬ (0 ≤ v630 ∧ v630 < ((jUL g626).length : Int)) ∧ t632 = -9) ∨ (0 ≤ v630 ∧ v630 < ((jUL g626).length : Int) ∧ ∃ (t : Int) (o : Nat → Int), jRLs g626 t o ∧ t632 = o v630.toNat)))))) ∧ ∀ L k : Int, jlv L k → g633 L k = g626 L k := zt632
          have li634 : jLI g633 := ⟨by rw [show g633 176 0 = g626 176 0 from zt632.1.1]; exact li627.1, jLG_fr (ft632 0 0 (by unfold w_X12_order; omega)) (fun t => ft632 87 t (by unfold w_X12_order; omega)) li627.2⟩
          have dli634 : g633 176 0 ≤ 2000 := li634.1
          rw [show v630 = v624 by omega] at zt632
          have qe636 := pr_order ft625 ft632 zt625 zt632 sm hbd9 dli
          have eqe636 := qe636.1
          have sm635 : jI g633 := qe636.2
          clear qe636 zt632
          show jGo E l 179 0 229 _ 1410 [.inr (.inr (.inl (-2))), .inr (.inr (.inl 0)), .inr (.inr (.inl 176)), .inl x3] [] 229 jr0 g633
          refine jGo_blk qL_law_1410 ?_
          have e637 : jw32 (x3 + 6) = x3 + 6 := j32e (by omega) (by omega)
          show jGo E l 179 0 229 _ 18 [.inr (.inr (.inl (-2))), .inr (.inr (.inl 0)), .inr (.inr (.inl 176)), .inl (jw32 (x3 + 6))] [] 229 jr0 g633
          exact ih (jw32 (x3 + 6)) g633 (by omega) li634 sm635 (by omega)
        · replace c6 : jand v4 63 = 32 := c6
          show jGo E l 179 0 229 _ 1298 [.inr (.inr (.inl (-2))), .inr (.inr (.inl 0)), .inr (.inr (.inl 176)), .inl x3] [] 229 jr0 g
          refine jGo_blk qL_law_1298 ?_
          have e638 : jw32 (x3 + 1) = x3 + 1 := j32e (by omega) (by omega)
          refine st_xi (N := E.2.2.2.2.1) (by decide) (by decide) rfl (show 0 ≤ jw32 (x3 + 1) by omega) (show jw32 (x3 + 1) < ((E.2.2.2.2.1 : Nat) : Int) by omega) (fun v639 ev639 => ?_)
          replace ev639 : v639 = jxv E (-2) (jw32 (x3 + 1)) := ev639
          have e640 : jw32 (x3 + 2) = x3 + 2 := j32e (by omega) (by omega)
          refine st_xi (N := E.2.2.2.2.1) (by decide) (by decide) rfl (show 0 ≤ jw32 (x3 + 2) by omega) (show jw32 (x3 + 2) < ((E.2.2.2.2.1 : Nat) : Int) by omega) (fun v641 ev641 => ?_)
          replace ev641 : v641 = jxv E (-2) (jw32 (x3 + 2)) := ev641
          refine st_cv (na := 2) (st := [.inl v641, .inl v639, .inr (.inr (.inl 0))]) jo_0 rfl rfl rfl (c_X11_hullOf v639 v641 g) rfl ?_
          rintro _ _ g643 ⟨rfl, ft642, t642, rfl, ht642, zt642⟩ kt642
          replace kt642 : -2147483648 ≤ t642 ∧ t642 ≤ 2147483647 := kt642
          replace zt642 : P_X11_hullOf v639 v641 t642 g := zt642
          have li644 : jLI g643 := jLI_fr (ft642 176 0 (by unfold w_X11_hullOf; omega)) (ft642 0 0 (by unfold w_X11_hullOf; omega)) (fun t => ft642 87 t (by unfold w_X11_hullOf; omega)) li
          have dli644 : g643 176 0 ≤ 2000 := li644.1
          have e646 : jw32 (x3 + 1) = x3 + 1 := j32e (by omega) (by omega)
          refine st_xi (N := E.2.2.2.2.1) (by decide) (by decide) rfl (show 0 ≤ jw32 (x3 + 1) by omega) (show jw32 (x3 + 1) < ((E.2.2.2.2.1 : Nat) : Int) by omega) (fun v647 ev647 => ?_)
          replace ev647 : v647 = jxv E (-2) (jw32 (x3 + 1)) := ev647
          have e648 : jw32 (x3 + 2) = x3 + 2 := j32e (by omega) (by omega)
          refine st_xi (N := E.2.2.2.2.1) (by decide) (by decide) rfl (show 0 ≤ jw32 (x3 + 2) by omega) (show jw32 (x3 + 2) < ((E.2.2.2.2.1 : Nat) : Int) by omega) (fun v649 ev649 => ?_)
          replace ev649 : v649 = jxv E (-2) (jw32 (x3 + 2)) := ev649
          refine st_cv (na := 2) (st := [.inl v649, .inl v647, .inr (.inr (.inl 176))]) jo_176 rfl rfl rfl (c_X12_hullOf v647 v649 g643) rfl ?_
          rintro _ _ g651 ⟨rfl, ft650, t650, rfl, ht650, zt650⟩ kt650
          replace kt650 : -2147483648 ≤ t650 ∧ t650 ≤ 2147483647 := kt650
          replace zt650 : P_X12_hullOf v647 v649 t650 g643 := zt650
          have li652 : jLI g651 := jLI_fr (ft650 176 0 (by unfold w_X12_hullOf; omega)) (ft650 0 0 (by unfold w_X12_hullOf; omega)) (fun t => ft650 87 t (by unfold w_X12_hullOf; omega)) li644
          have dli652 : g651 176 0 ≤ 2000 := li652.1
          rw [show v647 = v639 by omega, show v649 = v641 by omega] at zt650
          have qe654 := pr_hullOf ft642 ft650 zt642 zt650 sm
          have eqe654 := qe654.1
          have sm653 : jI g651 := qe654.2
          clear qe654 zt650
          show jGo E l 179 0 229 _ 1410 [.inr (.inr (.inl (-2))), .inr (.inr (.inl 0)), .inr (.inr (.inl 176)), .inl x3] [] 229 jr0 g651
          refine jGo_blk qL_law_1410 ?_
          have e655 : jw32 (x3 + 6) = x3 + 6 := j32e (by omega) (by omega)
          show jGo E l 179 0 229 _ 18 [.inr (.inr (.inl (-2))), .inr (.inr (.inl 0)), .inr (.inr (.inl 176)), .inl (jw32 (x3 + 6))] [] 229 jr0 g651
          exact ih (jw32 (x3 + 6)) g651 (by omega) li652 sm653 (by omega)
        · replace c6 : jand v4 63 = 33 := c6
          show jGo E l 179 0 229 _ 1331 [.inr (.inr (.inl (-2))), .inr (.inr (.inl 0)), .inr (.inr (.inl 176)), .inl x3] [] 229 jr0 g
          refine jGo_blk qL_law_1331 ?_
          have e656 : jw32 (x3 + 1) = x3 + 1 := j32e (by omega) (by omega)
          refine st_xi (N := E.2.2.2.2.1) (by decide) (by decide) rfl (show 0 ≤ jw32 (x3 + 1) by omega) (show jw32 (x3 + 1) < ((E.2.2.2.2.1 : Nat) : Int) by omega) (fun v657 ev657 => ?_)
          replace ev657 : v657 = jxv E (-2) (jw32 (x3 + 1)) := ev657
          have e658 : jw32 (x3 + 2) = x3 + 2 := j32e (by omega) (by omega)
          refine st_xi (N := E.2.2.2.2.1) (by decide) (by decide) rfl (show 0 ≤ jw32 (x3 + 2) by omega) (show jw32 (x3 + 2) < ((E.2.2.2.2.1 : Nat) : Int) by omega) (fun v659 ev659 => ?_)
          replace ev659 : v659 = jxv E (-2) (jw32 (x3 + 2)) := ev659
          refine st_cv (na := 2) (st := [.inl v659, .inl v657, .inr (.inr (.inl 0))]) jo_0 rfl rfl rfl (c_X11_basinOf v657 v659 g) rfl ?_
          rintro _ _ g661 ⟨rfl, ft660, t660, rfl, ht660, zt660⟩ kt660
          replace kt660 : -2147483648 ≤ t660 ∧ t660 ≤ 2147483647 := kt660
          replace zt660 : P_X11_basinOf v657 v659 t660 g := zt660
          have li662 : jLI g661 := jLI_fr (ft660 176 0 (by unfold w_X11_basinOf; omega)) (ft660 0 0 (by unfold w_X11_basinOf; omega)) (fun t => ft660 87 t (by unfold w_X11_basinOf; omega)) li
          have dli662 : g661 176 0 ≤ 2000 := li662.1
          have e664 : jw32 (x3 + 1) = x3 + 1 := j32e (by omega) (by omega)
          refine st_xi (N := E.2.2.2.2.1) (by decide) (by decide) rfl (show 0 ≤ jw32 (x3 + 1) by omega) (show jw32 (x3 + 1) < ((E.2.2.2.2.1 : Nat) : Int) by omega) (fun v665 ev665 => ?_)
          replace ev665 : v665 = jxv E (-2) (jw32 (x3 + 1)) := ev665
          have e666 : jw32 (x3 + 2) = x3 + 2 := j32e (by omega) (by omega)
          refine st_xi (N := E.2.2.2.2.1) (by decide) (by decide) rfl (show 0 ≤ jw32 (x3 + 2) by omega) (show jw32 (x3 + 2) < ((E.2.2.2.2.1 : Nat) : Int) by omega) (fun v667 ev667 => ?_)
          replace ev667 : v667 = jxv E (-2) (jw32 (x3 + 2)) := ev667
          refine st_cv (na := 2) (st := [.inl v667, .inl v665, .inr (.inr (.inl 176))]) jo_176 rfl rfl rfl (c_X12_basinOf v665 v667 g661) rfl ?_
          rintro _ _ g669 ⟨rfl, ft668, t668, rfl, ht668, zt668⟩ kt668
          replace kt668 : -2147483648 ≤ t668 ∧ t668 ≤ 2147483647 := kt668
          replace zt668 : P_X12_basinOf v665 v667 t668 g661 := zt668
          have li670 : jLI g669 := jLI_fr (ft668 176 0 (by unfold w_X12_basinOf; omega)) (ft668 0 0 (by unfold w_X12_basinOf; omega)) (fun t => ft668 87 t (by unfold w_X12_basinOf; omega)) li662
          have dli670 : g669 176 0 ≤ 2000 := li670.1
          rw [show v665 = v657 by omega, show v667 = v659 by omega] at zt668
          have qe672 := pr_basinOf ft660 ft668 zt660 zt668 sm
          have eqe672 := qe672.1
          have sm671 : jI g669 := qe672.2
          clear qe672 zt668
          show jGo E l 179 0 229 _ 1410 [.inr (.inr (.inl (-2))), .inr (.inr (.inl 0)), .inr (.inr (.inl 176)), .inl x3] [] 229 jr0 g669
          refine jGo_blk qL_law_1410 ?_
          have e673 : jw32 (x3 + 6) = x3 + 6 := j32e (by omega) (by omega)
          show jGo E l 179 0 229 _ 18 [.inr (.inr (.inl (-2))), .inr (.inr (.inl 0)), .inr (.inr (.inl 176)), .inl (jw32 (x3 + 6))] [] 229 jr0 g669
          exact ih (jw32 (x3 + 6)) g669 (by omega) li670 sm671 (by omega)
        · replace c6 : jand v4 63 = 34 := c6
          show jGo E l 179 0 229 _ 1364 [.inr (.inr (.inl (-2))), .inr (.inr (.inl 0)), .inr (.inr (.inl 176)), .inl x3] [] 229 jr0 g
          refine jGo_blk qL_law_1364 ?_
          have e674 : jw32 (x3 + 1) = x3 + 1 := j32e (by omega) (by omega)
          refine st_xi (N := E.2.2.2.2.1) (by decide) (by decide) rfl (show 0 ≤ jw32 (x3 + 1) by omega) (show jw32 (x3 + 1) < ((E.2.2.2.2.1 : Nat) : Int) by omega) (fun v675 ev675 => ?_)
          replace ev675 : v675 = jxv E (-2) (jw32 (x3 + 1)) := ev675
          refine st_cv (na := 1) (st := [.inl v675, .inr (.inr (.inl 0))]) jo_0 rfl rfl rfl (c_X11_stock v675 g) rfl ?_
          rintro _ _ g677 ⟨rfl, ft676, t676, rfl, ht676, zt676⟩ kt676
          replace kt676 : -2147483648 ≤ t676 ∧ t676 ≤ 2147483647 := kt676
          replace zt676 : P_X11_stock v675 t676 g := zt676
          have li678 : jLI g677 := jLI_fr (ft676 176 0 (by unfold w_X11_stock; omega)) (ft676 0 0 (by unfold w_X11_stock; omega)) (fun t => ft676 87 t (by unfold w_X11_stock; omega)) li
          have dli678 : g677 176 0 ≤ 2000 := li678.1
          have e680 : jw32 (x3 + 1) = x3 + 1 := j32e (by omega) (by omega)
          refine st_xi (N := E.2.2.2.2.1) (by decide) (by decide) rfl (show 0 ≤ jw32 (x3 + 1) by omega) (show jw32 (x3 + 1) < ((E.2.2.2.2.1 : Nat) : Int) by omega) (fun v681 ev681 => ?_)
          replace ev681 : v681 = jxv E (-2) (jw32 (x3 + 1)) := ev681
          refine st_cv (na := 1) (st := [.inl v681, .inr (.inr (.inl 176))]) jo_176 rfl rfl rfl (c_X12_stock v681 g677) rfl ?_
          rintro _ _ g683 ⟨rfl, ft682, t682, rfl, ht682, zt682⟩ kt682
          replace kt682 : -2147483648 ≤ t682 ∧ t682 ≤ 2147483647 := kt682
          replace zt682 : P_X12_stock v681 t682 g677 := zt682
          have li684 : jLI g683 := jLI_fr (ft682 176 0 (by unfold w_X12_stock; omega)) (ft682 0 0 (by unfold w_X12_stock; omega)) (fun t => ft682 87 t (by unfold w_X12_stock; omega)) li678
          have dli684 : g683 176 0 ≤ 2000 := li684.1
          rw [show v681 = v675 by omega] at zt682
          have qe686 := pr_stock ft676 ft682 zt676 zt682 sm
          have eqe686 := qe686.1
          have sm685 : jI g683 := qe686.2
          clear qe686 zt682
          show jGo E l 179 0 229 _ 1410 [.inr (.inr (.inl (-2))), .inr (.inr (.inl 0)), .inr (.inr (.inl 176)), .inl x3] [] 229 jr0 g683
          refine jGo_blk qL_law_1410 ?_
          have e687 : jw32 (x3 + 6) = x3 + 6 := j32e (by omega) (by omega)
          show jGo E l 179 0 229 _ 18 [.inr (.inr (.inl (-2))), .inr (.inr (.inl 0)), .inr (.inr (.inl 176)), .inl (jw32 (x3 + 6))] [] 229 jr0 g683
          exact ih (jw32 (x3 + 6)) g683 (by omega) li684 sm685 (by omega)
        · replace c6 : jand v4 63 = 35 := c6
          show jGo E l 179 0 229 _ 1387 [.inr (.inr (.inl (-2))), .inr (.inr (.inl 0)), .inr (.inr (.inl 176)), .inl x3] [] 229 jr0 g
          refine jGo_blk qL_law_1387 ?_
          have e688 : jw32 (x3 + 1) = x3 + 1 := j32e (by omega) (by omega)
          refine st_xi (N := E.2.2.2.2.1) (by decide) (by decide) rfl (show 0 ≤ jw32 (x3 + 1) by omega) (show jw32 (x3 + 1) < ((E.2.2.2.2.1 : Nat) : Int) by omega) (fun v689 ev689 => ?_)
          replace ev689 : v689 = jxv E (-2) (jw32 (x3 + 1)) := ev689
          refine st_cv (na := 1) (st := [.inl v689, .inr (.inr (.inl 0))]) jo_0 rfl rfl rfl (c_X11_told v689 g) rfl ?_
          rintro _ _ _ ⟨rfl, rfl, t690, rfl, ht690, zt690⟩ kt690
          replace kt690 : -2147483648 ≤ t690 ∧ t690 ≤ 2147483647 := kt690
          have e692 : jw32 (x3 + 1) = x3 + 1 := j32e (by omega) (by omega)
          refine st_xi (N := E.2.2.2.2.1) (by decide) (by decide) rfl (show 0 ≤ jw32 (x3 + 1) by omega) (show jw32 (x3 + 1) < ((E.2.2.2.2.1 : Nat) : Int) by omega) (fun v693 ev693 => ?_)
          replace ev693 : v693 = jxv E (-2) (jw32 (x3 + 1)) := ev693
          refine st_cv (na := 1) (st := [.inl v693, .inr (.inr (.inl 176))]) jo_176 rfl rfl rfl (c_X12_told v693 g) rfl ?_
          rintro _ _ _ ⟨rfl, rfl, t694, rfl, ht694, zt694⟩ kt694
          replace kt694 : -2147483648 ≤ t694 ∧ t694 ≤ 2147483647 := kt694
          show jGo E l 179 0 229 _ 1410 [.inr (.inr (.inl (-2))), .inr (.inr (.inl 0)), .inr (.inr (.inl 176)), .inl x3] [] 229 jr0 g
          refine jGo_blk qL_law_1410 ?_
          have e696 : jw32 (x3 + 6) = x3 + 6 := j32e (by omega) (by omega)
          show jGo E l 179 0 229 _ 18 [.inr (.inr (.inl (-2))), .inr (.inr (.inl 0)), .inr (.inr (.inl 176)), .inl (jw32 (x3 + 6))] [] 229 jr0 g
          exact ih (jw32 (x3 + 6)) g (by omega) li sm (by omega)
