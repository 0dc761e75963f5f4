/-! ===== THE LAW'S LOOP (by program) ===== -/
def jLI (h : JH) : Prop := h 176 0 ≤ 2000 ∧ jLG 0 h
theorem jLI_fr {h g : JH} (e : g 176 0 = h 176 0) (e0 : g 0 0 = h 0 0) (e87 : ∀ t : Int, g 87 t = h 87 t) (q : jLI h) : jLI g := ⟨by rw [e]; exact q.1, jLG_fr e0 e87 q.2⟩
def jlRT : JR := fun v _ _ _ => v = some (.inl 1)
theorem st_alx {E : JE} {K : JK} {ls s : List JV} {n : Nat} {r h : JH} (kk : ∀ v, v = ((E.2.2.2.2.1 : Nat) : Int) → K ls (.inl v :: s) n r h) : jaln E K ls (.inr (.inr (.inl (-2))) :: s) n r h := ⟨fun q => absurd q (by decide), fun _ => ⟨rfl, kk _ rfl⟩⟩
set_option maxHeartbeats 40000000 in
set_option maxRecDepth 20000 in
theorem law_loop {E : JE} {l : Launch} (hE : E.2.2.2.2.1 ≤ 3072) : ∀ N : Nat, ∀ (x3 : Int) (g : JH), (0 ≤ x3 ∧ x3 ≤ 3072) → jLI g → jI g → 3072 - x3 < (N : Int) → jGo E l 179 0 229 jlRT 18 [.inr (.inr (.inl (-2))), .inr (.inr (.inl 0)), .inr (.inr (.inl 176)), .inl x3] [] 229 jr0 g := by
  intro N
  induction N with
  | zero => exact fun x3 g hi _ _ hN => absurd hN (by omega)
  | succ N ih =>
      intro x3 g hi li sm hN
      have dli : g 176 0 ≤ 2000 := li.1
      have dd0 : 0 ≤ g 0 0 := li.2.1
      refine jGo_bd (fun hbd9 => ?_)
      refine jGo_blk qL_law_18 ?_
      refine st_alx (fun v1 ev1 => ?_)
      replace ev1 : v1 = ((E.2.2.2.2.1 : Nat) : Int) := ev1
      have bv1 : 0 ≤ v1 ∧ v1 ≤ 3072 := by omega
      have e2 : jw32 (v1 - 6) = v1 - 6 := j32e (by omega) (by omega)
      refine And.intro (fun c3 => ?_) (fun c3 => ?_)
      · replace c3 : jw32 (v1 - 6) < x3 := c3
        show jGo E l 179 0 229 _ 1416 [.inr (.inr (.inl (-2))), .inr (.inr (.inl 0)), .inr (.inr (.inl 176)), .inl x3] [] 229 jr0 g
        refine jGo_blk qL_law_1416 ?_
        exact st_r1 (ls := []) (Or.inr rfl) rfl
      · replace c3 : x3 ≤ jw32 (v1 - 6) := by first | exact c3 | exact Int.not_le.mp c3 | exact Int.not_lt.mp c3 | exact Decidable.not_not.mp c3
        refine st_xi (N := E.2.2.2.2.1) (by decide) (by decide) rfl (show 0 ≤ x3 by omega) (show x3 < ((E.2.2.2.2.1 : Nat) : Int) by omega) (fun v4 ev4 => ?_)
        replace ev4 : v4 = jxv E (-2) x3 := ev4
        have e5 := jand_le2 v4 63 (by omega) (by omega)
        refine And.intro (fun c6 => ?_) (And.intro (fun c6 => ?_) (And.intro (fun c6 => ?_) (And.intro (fun c6 => ?_) (And.intro (fun c6 => ?_) (And.intro (fun c6 => ?_) (And.intro (fun c6 => ?_) (And.intro (fun c6 => ?_) (And.intro (fun c6 => ?_) (And.intro (fun c6 => ?_) (And.intro (fun c6 => ?_) (And.intro (fun c6 => ?_) (And.intro (fun c6 => ?_) (And.intro (fun c6 => ?_) (And.intro (fun c6 => ?_) (And.intro (fun c6 => ?_) (And.intro (fun c6 => ?_) (And.intro (fun c6 => ?_) (And.intro (fun c6 => ?_) (And.intro (fun c6 => ?_) (And.intro (fun c6 => ?_) (And.intro (fun c6 => ?_) (And.intro (fun c6 => ?_) (And.intro (fun c6 => ?_) (And.intro (fun c6 => ?_) (And.intro (fun c6 => ?_) (And.intro (fun c6 => ?_) (And.intro (fun c6 => ?_) (And.intro (fun c6 => ?_) (And.intro (fun c6 => ?_) (And.intro (fun c6 => ?_) (And.intro (fun c6 => ?_) (And.intro (fun c6 => ?_) (And.intro (fun c6 => ?_) (And.intro (fun c6 => ?_) (And.intro (fun c6 => ?_) (And.intro (fun c6 => ?_) (trivial)))))))))))))))))))))))))))))))))))))
        · replace c6 : jand v4 63 < 0 ∨ 35 < jand v4 63 := c6
          show jGo E l 179 0 229 _ 1410 [.inr (.inr (.inl (-2))), .inr (.inr (.inl 0)), .inr (.inr (.inl 176)), .inl x3] [] 229 jr0 g
          refine jGo_blk qL_law_1410 ?_
          have e7 : jw32 (x3 + 6) = x3 + 6 := j32e (by omega) (by omega)
          show jGo E l 179 0 229 _ 18 [.inr (.inr (.inl (-2))), .inr (.inr (.inl 0)), .inr (.inr (.inl 176)), .inl (jw32 (x3 + 6))] [] 229 jr0 g
          exact ih (jw32 (x3 + 6)) g (by omega) li sm (by omega)
        · replace c6 : jand v4 63 = 0 := c6
          show jGo E l 179 0 229 _ 192 [.inr (.inr (.inl (-2))), .inr (.inr (.inl 0)), .inr (.inr (.inl 176)), .inl x3] [] 229 jr0 g
          refine jGo_blk qL_law_192 ?_
          have e8 : jw32 (x3 + 1) = x3 + 1 := j32e (by omega) (by omega)
          refine st_xi (N := E.2.2.2.2.1) (by decide) (by decide) rfl (show 0 ≤ jw32 (x3 + 1) by omega) (show jw32 (x3 + 1) < ((E.2.2.2.2.1 : Nat) : Int) by omega) (fun v9 ev9 => ?_)
          replace ev9 : v9 = jxv E (-2) (jw32 (x3 + 1)) := ev9
          have e10 : jw32 (x3 + 2) = x3 + 2 := j32e (by omega) (by omega)
          refine st_xi (N := E.2.2.2.2.1) (by decide) (by decide) rfl (show 0 ≤ jw32 (x3 + 2) by omega) (show jw32 (x3 + 2) < ((E.2.2.2.2.1 : Nat) : Int) by omega) (fun v11 ev11 => ?_)
          replace ev11 : v11 = jxv E (-2) (jw32 (x3 + 2)) := ev11
          refine st_cv (na := 2) (st := [.inl v11, .inl v9, .inr (.inr (.inl 0))]) jo_0 rfl rfl rfl (c_X11_hands v9 v11 g) rfl ?_
          rintro _ _ g13 ⟨rfl, ft12, t12, rfl, ht12, zt12⟩ kt12
          replace kt12 : -2147483648 ≤ t12 ∧ t12 ≤ 2147483647 := kt12
          replace ht12 : -7 ≤ t12 ∧ t12 ≤ 400 := ht12
          replace zt12 : (P_X11_hands v9 v11 t12 g g13) ∧ jFg (t12 < 0) g g13 := zt12
          have li14 : jLI g13 := jLI_fr (ft12 176 0 (by unfold w_X11_hands; omega)) (ft12 0 0 (by unfold w_X11_hands; omega)) (fun t => ft12 87 t (by unfold w_X11_hands; omega)) li
          have dli14 : g13 176 0 ≤ 2000 := li14.1
          have e16 : jw32 (x3 + 1) = x3 + 1 := j32e (by omega) (by omega)
          refine st_xi (N := E.2.2.2.2.1) (by decide) (by decide) rfl (show 0 ≤ jw32 (x3 + 1) by omega) (show jw32 (x3 + 1) < ((E.2.2.2.2.1 : Nat) : Int) by omega) (fun v17 ev17 => ?_)
          replace ev17 : v17 = jxv E (-2) (jw32 (x3 + 1)) := ev17
          have e18 : jw32 (x3 + 2) = x3 + 2 := j32e (by omega) (by omega)
          refine st_xi (N := E.2.2.2.2.1) (by decide) (by decide) rfl (show 0 ≤ jw32 (x3 + 2) by omega) (show jw32 (x3 + 2) < ((E.2.2.2.2.1 : Nat) : Int) by omega) (fun v19 ev19 => ?_)
          replace ev19 : v19 = jxv E (-2) (jw32 (x3 + 2)) := ev19
          refine st_cv (na := 2) (st := [.inl v19, .inl v17, .inr (.inr (.inl 176))]) jo_176 rfl rfl rfl (c_X12_hands v17 v19 g13) rfl ?_
          rintro _ _ g21 ⟨rfl, ft20, t20, rfl, ht20, zt20⟩ kt20
          replace kt20 : -2147483648 ≤ t20 ∧ t20 ≤ 2147483647 := kt20
          replace ht20 : -7 ≤ t20 ∧ t20 ≤ 400 := ht20
          replace zt20 : (P_X12_hands v17 v19 t20 g13 g21) ∧ jRx (t20 < 0) g13 g21 := zt20
          have li22 : jLI g21 := jLI_fr (ft20 176 0 (by unfold w_X12_hands; omega)) (ft20 0 0 (by unfold w_X12_hands; omega)) (fun t => ft20 87 t (by unfold w_X12_hands; omega)) li14
          have dli22 : g21 176 0 ≤ 2000 := li22.1
          have za24 := zt20.1
          have zb25 := zt20.2
          rw [show v17 = v9 by omega, show v19 = v11 by omega] at za24
          have qe26 := pr_hands ft12 ft20 zt12.1 za24 sm (fun exy => jAh_m zt12.2 (fun b9 => zb25 (by omega)) (fun k9 => ft20 111 k9 (by unfold w_X12_hands; omega)) (fun i9 k9 q9 => by unfold jwh3 at q9; exact ft20 i9 k9 (by unfold w_X12_hands; omega)) (jI_ah sm))
          have eqe26 := qe26.1
          have sm23 : jI g21 := qe26.2
          clear qe26 za24
          show jGo E l 179 0 229 _ 1410 [.inr (.inr (.inl (-2))), .inr (.inr (.inl 0)), .inr (.inr (.inl 176)), .inl x3] [] 229 jr0 g21
          refine jGo_blk qL_law_1410 ?_
          have e27 : jw32 (x3 + 6) = x3 + 6 := j32e (by omega) (by omega)
          show jGo E l 179 0 229 _ 18 [.inr (.inr (.inl (-2))), .inr (.inr (.inl 0)), .inr (.inr (.inl 176)), .inl (jw32 (x3 + 6))] [] 229 jr0 g21
          exact ih (jw32 (x3 + 6)) g21 (by omega) li22 sm23 (by omega)
        · replace c6 : jand v4 63 = 1 := c6
          show jGo E l 179 0 229 _ 225 [.inr (.inr (.inl (-2))), .inr (.inr (.inl 0)), .inr (.inr (.inl 176)), .inl x3] [] 229 jr0 g
          refine jGo_blk qL_law_225 ?_
          have e28 : jw32 (x3 + 1) = x3 + 1 := j32e (by omega) (by omega)
          refine st_xi (N := E.2.2.2.2.1) (by decide) (by decide) rfl (show 0 ≤ jw32 (x3 + 1) by omega) (show jw32 (x3 + 1) < ((E.2.2.2.2.1 : Nat) : Int) by omega) (fun v29 ev29 => ?_)
          replace ev29 : v29 = jxv E (-2) (jw32 (x3 + 1)) := ev29
          have e30 : jw32 (x3 + 2) = x3 + 2 := j32e (by omega) (by omega)
          refine st_xi (N := E.2.2.2.2.1) (by decide) (by decide) rfl (show 0 ≤ jw32 (x3 + 2) by omega) (show jw32 (x3 + 2) < ((E.2.2.2.2.1 : Nat) : Int) by omega) (fun v31 ev31 => ?_)
          replace ev31 : v31 = jxv E (-2) (jw32 (x3 + 2)) := ev31
          refine st_cv (na := 2) (st := [.inl v31, .inl v29, .inr (.inr (.inl 0))]) jo_0 rfl rfl rfl (c_X11_bring v29 v31 g) rfl ?_
          rintro _ _ g33 ⟨rfl, ft32, t32, rfl, ht32, zt32⟩ kt32
          replace kt32 : -2147483648 ≤ t32 ∧ t32 ≤ 2147483647 := kt32
          replace zt32 : (P_X11_bring v29 v31 t32 g g33) ∧ jFg (t32 < 0) g g33 := zt32
          have li34 : jLI g33 := jLI_fr (ft32 176 0 (by unfold w_X11_bring; omega)) (ft32 0 0 (by unfold w_X11_bring; omega)) (fun t => ft32 87 t (by unfold w_X11_bring; omega)) li
          have dli34 : g33 176 0 ≤ 2000 := li34.1
          have e36 : jw32 (x3 + 1) = x3 + 1 := j32e (by omega) (by omega)
          refine st_xi (N := E.2.2.2.2.1) (by decide) (by decide) rfl (show 0 ≤ jw32 (x3 + 1) by omega) (show jw32 (x3 + 1) < ((E.2.2.2.2.1 : Nat) : Int) by omega) (fun v37 ev37 => ?_)
          replace ev37 : v37 = jxv E (-2) (jw32 (x3 + 1)) := ev37
          have e38 : jw32 (x3 + 2) = x3 + 2 := j32e (by omega) (by omega)
          refine st_xi (N := E.2.2.2.2.1) (by decide) (by decide) rfl (show 0 ≤ jw32 (x3 + 2) by omega) (show jw32 (x3 + 2) < ((E.2.2.2.2.1 : Nat) : Int) by omega) (fun v39 ev39 => ?_)
          replace ev39 : v39 = jxv E (-2) (jw32 (x3 + 2)) := ev39
          refine st_cv (na := 2) (st := [.inl v39, .inl v37, .inr (.inr (.inl 176))]) jo_176 rfl rfl rfl (c_X12_bring v37 v39 g33) rfl ?_
          rintro _ _ g41 ⟨rfl, ft40, t40, rfl, ht40, zt40⟩ kt40
          replace kt40 : -2147483648 ≤ t40 ∧ t40 ≤ 2147483647 := kt40
          replace zt40 : P_X12_bring v37 v39 t40 g33 g41 := zt40
          have li42 : jLI g41 := jLI_fr (ft40 176 0 (by unfold w_X12_bring; omega)) (ft40 0 0 (by unfold w_X12_bring; omega)) (fun t => ft40 87 t (by unfold w_X12_bring; omega)) li34
          have dli42 : g41 176 0 ≤ 2000 := li42.1
          rw [show v37 = v29 by omega, show v39 = v31 by omega] at zt40
          have qe44 := pr_bring ft32 ft40 zt32.1 zt40 sm (fun exy => jAh_m zt32.2 (fun b9 => (rx_bring ft32 zt40 sm) (by omega)) (fun k9 => ft40 111 k9 (by unfold w_X12_bring; omega)) (fun i9 k9 q9 => by unfold jwh3 at q9; exact ft40 i9 k9 (by unfold w_X12_bring; omega)) (jI_ah sm))
          have eqe44 := qe44.1
          have sm43 : jI g41 := qe44.2
          clear qe44 zt40
          show jGo E l 179 0 229 _ 1410 [.inr (.inr (.inl (-2))), .inr (.inr (.inl 0)), .inr (.inr (.inl 176)), .inl x3] [] 229 jr0 g41
          refine jGo_blk qL_law_1410 ?_
          have e45 : jw32 (x3 + 6) = x3 + 6 := j32e (by omega) (by omega)
          show jGo E l 179 0 229 _ 18 [.inr (.inr (.inl (-2))), .inr (.inr (.inl 0)), .inr (.inr (.inl 176)), .inl (jw32 (x3 + 6))] [] 229 jr0 g41
          exact ih (jw32 (x3 + 6)) g41 (by omega) li42 sm43 (by omega)
        · replace c6 : jand v4 63 = 2 := c6
          show jGo E l 179 0 229 _ 258 [.inr (.inr (.inl (-2))), .inr (.inr (.inl 0)), .inr (.inr (.inl 176)), .inl x3] [] 229 jr0 g
          refine jGo_blk qL_law_258 ?_
          have e46 : jw32 (x3 + 1) = x3 + 1 := j32e (by omega) (by omega)
          refine st_xi (N := E.2.2.2.2.1) (by decide) (by decide) rfl (show 0 ≤ jw32 (x3 + 1) by omega) (show jw32 (x3 + 1) < ((E.2.2.2.2.1 : Nat) : Int) by omega) (fun v47 ev47 => ?_)
          replace ev47 : v47 = jxv E (-2) (jw32 (x3 + 1)) := ev47
          have e48 : jw32 (x3 + 2) = x3 + 2 := j32e (by omega) (by omega)
          refine st_xi (N := E.2.2.2.2.1) (by decide) (by decide) rfl (show 0 ≤ jw32 (x3 + 2) by omega) (show jw32 (x3 + 2) < ((E.2.2.2.2.1 : Nat) : Int) by omega) (fun v49 ev49 => ?_)
          replace ev49 : v49 = jxv E (-2) (jw32 (x3 + 2)) := ev49
          refine st_cv (na := 2) (st := [.inl v49, .inl v47, .inr (.inr (.inl 0))]) jo_0 rfl rfl rfl (c_X11_row v47 v49 g) rfl ?_
          rintro _ _ g51 ⟨rfl, ft50, t50, rfl, ht50, zt50⟩ kt50
          replace kt50 : -2147483648 ≤ t50 ∧ t50 ≤ 2147483647 := kt50
          replace ht50 : -7 ≤ t50 ∧ t50 ≤ 30 := ht50
          replace zt50 : (P_X11_row v47 v49 t50 g g51) ∧ jFg (t50 < 0) g g51 := zt50
          have li52 : jLI g51 := jLI_fr (ft50 176 0 (by unfold w_X11_row; omega)) (ft50 0 0 (by unfold w_X11_row; omega)) (fun t => ft50 87 t (by unfold w_X11_row; omega)) li
          have dli52 : g51 176 0 ≤ 2000 := li52.1
          have e54 : jw32 (x3 + 1) = x3 + 1 := j32e (by omega) (by omega)
          refine st_xi (N := E.2.2.2.2.1) (by decide) (by decide) rfl (show 0 ≤ jw32 (x3 + 1) by omega) (show jw32 (x3 + 1) < ((E.2.2.2.2.1 : Nat) : Int) by omega) (fun v55 ev55 => ?_)
          replace ev55 : v55 = jxv E (-2) (jw32 (x3 + 1)) := ev55
          have e56 : jw32 (x3 + 2) = x3 + 2 := j32e (by omega) (by omega)
          refine st_xi (N := E.2.2.2.2.1) (by decide) (by decide) rfl (show 0 ≤ jw32 (x3 + 2) by omega) (show jw32 (x3 + 2) < ((E.2.2.2.2.1 : Nat) : Int) by omega) (fun v57 ev57 => ?_)
          replace ev57 : v57 = jxv E (-2) (jw32 (x3 + 2)) := ev57
          refine st_cv (na := 2) (st := [.inl v57, .inl v55, .inr (.inr (.inl 176))]) jo_176 rfl rfl rfl (c_X12_row v55 v57 g51) rfl ?_
          rintro _ _ g59 ⟨rfl, ft58, t58, rfl, ht58, zt58⟩ kt58
          replace kt58 : -2147483648 ≤ t58 ∧ t58 ≤ 2147483647 := kt58
          replace ht58 : -7 ≤ t58 ∧ t58 ≤ 30 := ht58
          replace zt58 : (P_X12_row v55 v57 t58 g51 g59) ∧ jRx (t58 < 0) g51 g59 := zt58
          have li60 : jLI g59 := jLI_fr (ft58 176 0 (by unfold w_X12_row; omega)) (ft58 0 0 (by unfold w_X12_row; omega)) (fun t => ft58 87 t (by unfold w_X12_row; omega)) li52
          have dli60 : g59 176 0 ≤ 2000 := li60.1
          have za62 := zt58.1
          have zb63 := zt58.2
          rw [show v55 = v47 by omega, show v57 = v49 by omega] at za62
          have qe64 := pr_row ft50 ft58 zt50.1 za62 sm (fun exy => jAh_m zt50.2 (fun b9 => zb63 (by omega)) (fun k9 => ft58 111 k9 (by unfold w_X12_row; omega)) (fun i9 k9 q9 => by unfold jwh3 at q9; exact ft58 i9 k9 (by unfold w_X12_row; omega)) (jI_ah sm))
          have eqe64 := qe64.1
          have sm61 : jI g59 := qe64.2
          clear qe64 za62
          show jGo E l 179 0 229 _ 1410 [.inr (.inr (.inl (-2))), .inr (.inr (.inl 0)), .inr (.inr (.inl 176)), .inl x3] [] 229 jr0 g59
          refine jGo_blk qL_law_1410 ?_
          have e65 : jw32 (x3 + 6) = x3 + 6 := j32e (by omega) (by omega)
          show jGo E l 179 0 229 _ 18 [.inr (.inr (.inl (-2))), .inr (.inr (.inl 0)), .inr (.inr (.inl 176)), .inl (jw32 (x3 + 6))] [] 229 jr0 g59
          exact ih (jw32 (x3 + 6)) g59 (by omega) li60 sm61 (by omega)
        · replace c6 : jand v4 63 = 3 := c6
          show jGo E l 179 0 229 _ 291 [.inr (.inr (.inl (-2))), .inr (.inr (.inl 0)), .inr (.inr (.inl 176)), .inl x3] [] 229 jr0 g
          refine jGo_blk qL_law_291 ?_
          have e66 : jw32 (x3 + 1) = x3 + 1 := j32e (by omega) (by omega)
          refine st_xi (N := E.2.2.2.2.1) (by decide) (by decide) rfl (show 0 ≤ jw32 (x3 + 1) by omega) (show jw32 (x3 + 1) < ((E.2.2.2.2.1 : Nat) : Int) by omega) (fun v67 ev67 => ?_)
          replace ev67 : v67 = jxv E (-2) (jw32 (x3 + 1)) := ev67
          refine st_cv (na := 1) (st := [.inl v67, .inr (.inr (.inl 0))]) jo_0 rfl rfl rfl (c_X11_lose v67 g) rfl ?_
          rintro _ _ g69 ⟨rfl, ft68, t68, rfl, ht68, zt68⟩ kt68
          replace kt68 : -2147483648 ≤ t68 ∧ t68 ≤ 2147483647 := kt68
          replace ht68 : -7 ≤ t68 ∧ t68 ≤ 1 := ht68
          replace zt68 : (P_X11_lose v67 t68 g g69) ∧ jFg (t68 ≤ 0) g g69 := zt68
          have li70 : jLI g69 := jLI_fr (ft68 176 0 (by unfold w_X11_lose; omega)) (ft68 0 0 (by unfold w_X11_lose; omega)) (fun t => ft68 87 t (by unfold w_X11_lose; omega)) li
          have dli70 : g69 176 0 ≤ 2000 := li70.1
          have e72 : jw32 (x3 + 1) = x3 + 1 := j32e (by omega) (by omega)
          refine st_xi (N := E.2.2.2.2.1) (by decide) (by decide) rfl (show 0 ≤ jw32 (x3 + 1) by omega) (show jw32 (x3 + 1) < ((E.2.2.2.2.1 : Nat) : Int) by omega) (fun v73 ev73 => ?_)
          replace ev73 : v73 = jxv E (-2) (jw32 (x3 + 1)) := ev73
          refine st_cv (na := 1) (st := [.inl v73, .inr (.inr (.inl 176))]) jo_176 rfl rfl rfl (c_X12_lose v73 g69) rfl ?_
          rintro _ _ g75 ⟨rfl, ft74, t74, rfl, ht74, zt74⟩ kt74
          replace kt74 : -2147483648 ≤ t74 ∧ t74 ≤ 2147483647 := kt74
          replace ht74 : -7 ≤ t74 ∧ t74 ≤ 1 := ht74
          replace zt74 : (P_X12_lose v73 t74 g69 g75) ∧ jRx (t74 ≤ 0) g69 g75 := zt74
          have li76 : jLI g75 := jLI_fr (ft74 176 0 (by unfold w_X12_lose; omega)) (ft74 0 0 (by unfold w_X12_lose; omega)) (fun t => ft74 87 t (by unfold w_X12_lose; omega)) li70
          have dli76 : g75 176 0 ≤ 2000 := li76.1
          have za78 := zt74.1
          have zb79 := zt74.2
          rw [show v73 = v67 by omega] at za78
          have qe80 := pr_lose ft68 ft74 zt68.1 za78 sm (fun exy => jAh_m zt68.2 (fun b9 => zb79 (by omega)) (fun k9 => ft74 111 k9 (by unfold w_X12_lose; omega)) (fun i9 k9 q9 => by unfold jwh3 at q9; exact ft74 i9 k9 (by unfold w_X12_lose; omega)) (jI_ah sm))
          have eqe80 := qe80.1
          have sm77 : jI g75 := qe80.2
          clear qe80 za78
          show jGo E l 179 0 229 _ 1410 [.inr (.inr (.inl (-2))), .inr (.inr (.inl 0)), .inr (.inr (.inl 176)), .inl x3] [] 229 jr0 g75
          refine jGo_blk qL_law_1410 ?_
          have e81 : jw32 (x3 + 6) = x3 + 6 := j32e (by omega) (by omega)
          show jGo E l 179 0 229 _ 18 [.inr (.inr (.inl (-2))), .inr (.inr (.inl 0)), .inr (.inr (.inl 176)), .inl (jw32 (x3 + 6))] [] 229 jr0 g75
          exact ih (jw32 (x3 + 6)) g75 (by omega) li76 sm77 (by omega)
        · replace c6 : jand v4 63 = 4 := c6
          show jGo E l 179 0 229 _ 314 [.inr (.inr (.inl (-2))), .inr (.inr (.inl 0)), .inr (.inr (.inl 176)), .inl x3] [] 229 jr0 g
          refine jGo_blk qL_law_314 ?_
          have e82 : jw32 (x3 + 1) = x3 + 1 := j32e (by omega) (by omega)
          refine st_xi (N := E.2.2.2.2.1) (by decide) (by decide) rfl (show 0 ≤ jw32 (x3 + 1) by omega) (show jw32 (x3 + 1) < ((E.2.2.2.2.1 : Nat) : Int) by omega) (fun v83 ev83 => ?_)
          replace ev83 : v83 = jxv E (-2) (jw32 (x3 + 1)) := ev83
          have e84 : jw32 (x3 + 2) = x3 + 2 := j32e (by omega) (by omega)
          refine st_xi (N := E.2.2.2.2.1) (by decide) (by decide) rfl (show 0 ≤ jw32 (x3 + 2) by omega) (show jw32 (x3 + 2) < ((E.2.2.2.2.1 : Nat) : Int) by omega) (fun v85 ev85 => ?_)
          replace ev85 : v85 = jxv E (-2) (jw32 (x3 + 2)) := ev85
          have e86 : jw32 (x3 + 3) = x3 + 3 := j32e (by omega) (by omega)
          refine st_xi (N := E.2.2.2.2.1) (by decide) (by decide) rfl (show 0 ≤ jw32 (x3 + 3) by omega) (show jw32 (x3 + 3) < ((E.2.2.2.2.1 : Nat) : Int) by omega) (fun v87 ev87 => ?_)
          replace ev87 : v87 = jxv E (-2) (jw32 (x3 + 3)) := ev87
          refine st_cv (na := 3) (st := [.inl v87, .inl v85, .inl v83, .inr (.inr (.inl 0))]) jo_0 rfl rfl rfl (c_X11_put v83 v85 v87 g) rfl ?_
          rintro _ _ g89 ⟨rfl, ft88, t88, rfl, ht88, zt88⟩ kt88
          replace kt88 : -2147483648 ≤ t88 ∧ t88 ≤ 2147483647 := kt88
          replace ht88 : -7 ≤ t88 ∧ t88 ≤ 400 := ht88
          replace zt88 : (P_X11_put v83 v85 v87 t88 g g89) ∧ jFg (t88 < 0) g g89 := zt88
          have li90 : jLI g89 := jLI_fr (ft88 176 0 (by unfold w_X11_put; omega)) (ft88 0 0 (by unfold w_X11_put; omega)) (fun t => ft88 87 t (by unfold w_X11_put; omega)) li
          have dli90 : g89 176 0 ≤ 2000 := li90.1
          have e92 : jw32 (x3 + 1) = x3 + 1 := j32e (by omega) (by omega)
          refine st_xi (N := E.2.2.2.2.1) (by decide) (by decide) rfl (show 0 ≤ jw32 (x3 + 1) by omega) (show jw32 (x3 + 1) < ((E.2.2.2.2.1 : Nat) : Int) by omega) (fun v93 ev93 => ?_)
          replace ev93 : v93 = jxv E (-2) (jw32 (x3 + 1)) := ev93
          have e94 : jw32 (x3 + 2) = x3 + 2 := j32e (by omega) (by omega)
          refine st_xi (N := E.2.2.2.2.1) (by decide) (by decide) rfl (show 0 ≤ jw32 (x3 + 2) by omega) (show jw32 (x3 + 2) < ((E.2.2.2.2.1 : Nat) : Int) by omega) (fun v95 ev95 => ?_)
          replace ev95 : v95 = jxv E (-2) (jw32 (x3 + 2)) := ev95
          have e96 : jw32 (x3 + 3) = x3 + 3 := j32e (by omega) (by omega)
          refine st_xi (N := E.2.2.2.2.1) (by decide) (by decide) rfl (show 0 ≤ jw32 (x3 + 3) by omega) (show jw32 (x3 + 3) < ((E.2.2.2.2.1 : Nat) : Int) by omega) (fun v97 ev97 => ?_)
          replace ev97 : v97 = jxv E (-2) (jw32 (x3 + 3)) := ev97
          refine st_cv (na := 3) (st := [.inl v97, .inl v95, .inl v93, .inr (.inr (.inl 176))]) jo_176 rfl rfl rfl (c_X12_put v93 v95 v97 g89) rfl ?_
          rintro _ _ g99 ⟨rfl, ft98, t98, rfl, ht98, zt98⟩ kt98
          replace kt98 : -2147483648 ≤ t98 ∧ t98 ≤ 2147483647 := kt98
          replace ht98 : -7 ≤ t98 ∧ t98 ≤ 400 := ht98
          replace zt98 : (P_X12_put v93 v95 v97 t98 g89 g99) ∧ jRx (t98 < 0) g89 g99 := zt98
          have li100 : jLI g99 := jLI_fr (ft98 176 0 (by unfold w_X12_put; omega)) (ft98 0 0 (by unfold w_X12_put; omega)) (fun t => ft98 87 t (by unfold w_X12_put; omega)) li90
          have dli100 : g99 176 0 ≤ 2000 := li100.1
          have za102 := zt98.1
          have zb103 := zt98.2
          rw [show v93 = v83 by omega, show v95 = v85 by omega, show v97 = v87 by omega] at za102
          have qe104 := pr_put ft88 ft98 zt88.1 za102 sm (fun exy => jAh_m zt88.2 (fun b9 => zb103 (by omega)) (fun k9 => ft98 111 k9 (by unfold w_X12_put; omega)) (fun i9 k9 q9 => by unfold jwh3 at q9; exact ft98 i9 k9 (by unfold w_X12_put; omega)) (jI_ah sm))
          have eqe104 := qe104.1
          have sm101 : jI g99 := qe104.2
          clear qe104 za102
          show jGo E l 179 0 229 _ 1410 [.inr (.inr (.inl (-2))), .inr (.inr (.inl 0)), .inr (.inr (.inl 176)), .inl x3] [] 229 jr0 g99
          refine jGo_blk qL_law_1410 ?_
          have e105 : jw32 (x3 + 6) = x3 + 6 := j32e (by omega) (by omega)
          show jGo E l 179 0 229 _ 18 [.inr (.inr (.inl (-2))), .inr (.inr (.inl 0)), .inr (.inr (.inl 176)), .inl (jw32 (x3 + 6))] [] 229 jr0 g99
          exact ih (jw32 (x3 + 6)) g99 (by omega) li100 sm101 (by omega)
        · replace c6 : jand v4 63 = 5 := c6
          show jGo E l 179 0 229 _ 357 [.inr (.inr (.inl (-2))), .inr (.inr (.inl 0)), .inr (.inr (.inl 176)), .inl x3] [] 229 jr0 g
          refine jGo_blk qL_law_357 ?_
          have e106 : jw32 (x3 + 1) = x3 + 1 := j32e (by omega) (by omega)
          refine st_xi (N := E.2.2.2.2.1) (by decide) (by decide) rfl (show 0 ≤ jw32 (x3 + 1) by omega) (show jw32 (x3 + 1) < ((E.2.2.2.2.1 : Nat) : Int) by omega) (fun v107 ev107 => ?_)
          replace ev107 : v107 = jxv E (-2) (jw32 (x3 + 1)) := ev107
          have e108 : jw32 (x3 + 2) = x3 + 2 := j32e (by omega) (by omega)
          refine st_xi (N := E.2.2.2.2.1) (by decide) (by decide) rfl (show 0 ≤ jw32 (x3 + 2) by omega) (show jw32 (x3 + 2) < ((E.2.2.2.2.1 : Nat) : Int) by omega) (fun v109 ev109 => ?_)
          replace ev109 : v109 = jxv E (-2) (jw32 (x3 + 2)) := ev109
          have e110 : jw32 (x3 + 3) = x3 + 3 := j32e (by omega) (by omega)
          refine st_xi (N := E.2.2.2.2.1) (by decide) (by decide) rfl (show 0 ≤ jw32 (x3 + 3) by omega) (show jw32 (x3 + 3) < ((E.2.2.2.2.1 : Nat) : Int) by omega) (fun v111 ev111 => ?_)
          replace ev111 : v111 = jxv E (-2) (jw32 (x3 + 3)) := ev111
          have e112 : jw32 (x3 + 4) = x3 + 4 := j32e (by omega) (by omega)
          refine st_xi (N := E.2.2.2.2.1) (by decide) (by decide) rfl (show 0 ≤ jw32 (x3 + 4) by omega) (show jw32 (x3 + 4) < ((E.2.2.2.2.1 : Nat) : Int) by omega) (fun v113 ev113 => ?_)
          replace ev113 : v113 = jxv E (-2) (jw32 (x3 + 4)) := ev113
          have e114 : jw32 (x3 + 5) = x3 + 5 := j32e (by omega) (by omega)
          refine st_xi (N := E.2.2.2.2.1) (by decide) (by decide) rfl (show 0 ≤ jw32 (x3 + 5) by omega) (show jw32 (x3 + 5) < ((E.2.2.2.2.1 : Nat) : Int) by omega) (fun v115 ev115 => ?_)
          replace ev115 : v115 = jxv E (-2) (jw32 (x3 + 5)) := ev115
          refine st_cv (na := 5) (st := [.inl v115, .inl v113, .inl v111, .inl v109, .inl v107, .inr (.inr (.inl 0))]) jo_0 rfl rfl rfl (c_X11_copy v107 v109 v111 v113 v115 g) rfl ?_
          rintro _ _ g117 ⟨rfl, ft116, t116, rfl, ht116, zt116⟩ kt116
          replace kt116 : -2147483648 ≤ t116 ∧ t116 ≤ 2147483647 := kt116
          replace zt116 : (P_X11_copy v107 v109 v111 v113 v115 t116 g g117) ∧ jFg (t116 < 0) g g117 := zt116
          have li118 : jLI g117 := jLI_fr (ft116 176 0 (by unfold w_X11_copy; omega)) (ft116 0 0 (by unfold w_X11_copy; omega)) (fun t => ft116 87 t (by unfold w_X11_copy; omega)) li
          have dli118 : g117 176 0 ≤ 2000 := li118.1
          have e120 : jw32 (x3 + 1) = x3 + 1 := j32e (by omega) (by omega)
          refine st_xi (N := E.2.2.2.2.1) (by decide) (by decide) rfl (show 0 ≤ jw32 (x3 + 1) by omega) (show jw32 (x3 + 1) < ((E.2.2.2.2.1 : Nat) : Int) by omega) (fun v121 ev121 => ?_)
          replace ev121 : v121 = jxv E (-2) (jw32 (x3 + 1)) := ev121
          have e122 : jw32 (x3 + 2) = x3 + 2 := j32e (by omega) (by omega)
          refine st_xi (N := E.2.2.2.2.1) (by decide) (by decide) rfl (show 0 ≤ jw32 (x3 + 2) by omega) (show jw32 (x3 + 2) < ((E.2.2.2.2.1 : Nat) : Int) by omega) (fun v123 ev123 => ?_)
          replace ev123 : v123 = jxv E (-2) (jw32 (x3 + 2)) := ev123
          have e124 : jw32 (x3 + 3) = x3 + 3 := j32e (by omega) (by omega)
          refine st_xi (N := E.2.2.2.2.1) (by decide) (by decide) rfl (show 0 ≤ jw32 (x3 + 3) by omega) (show jw32 (x3 + 3) < ((E.2.2.2.2.1 : Nat) : Int) by omega) (fun v125 ev125 => ?_)
          replace ev125 : v125 = jxv E (-2) (jw32 (x3 + 3)) := ev125
          have e126 : jw32 (x3 + 4) = x3 + 4 := j32e (by omega) (by omega)
          refine st_xi (N := E.2.2.2.2.1) (by decide) (by decide) rfl (show 0 ≤ jw32 (x3 + 4) by omega) (show jw32 (x3 + 4) < ((E.2.2.2.2.1 : Nat) : Int) by omega) (fun v127 ev127 => ?_)
          replace ev127 : v127 = jxv E (-2) (jw32 (x3 + 4)) := ev127
          have e128 : jw32 (x3 + 5) = x3 + 5 := j32e (by omega) (by omega)
          refine st_xi (N := E.2.2.2.2.1) (by decide) (by decide) rfl (show 0 ≤ jw32 (x3 + 5) by omega) (show jw32 (x3 + 5) < ((E.2.2.2.2.1 : Nat) : Int) by omega) (fun v129 ev129 => ?_)
          replace ev129 : v129 = jxv E (-2) (jw32 (x3 + 5)) := ev129
          refine st_cv (na := 5) (st := [.inl v129, .inl v127, .inl v125, .inl v123, .inl v121, .inr (.inr (.inl 176))]) jo_176 rfl rfl rfl (c_X12_copy v121 v123 v125 v127 v129 g117) rfl ?_
          rintro _ _ g131 ⟨rfl, ft130, t130, rfl, ht130, zt130⟩ kt130
          replace kt130 : -2147483648 ≤ t130 ∧ t130 ≤ 2147483647 := kt130
          replace ht130 : -7 ≤ t130 ∧ t130 ≤ 30 := ht130
          replace zt130 : (P_X12_copy v121 v123 v125 v127 v129 t130 g117 g131) ∧ jRx (t130 < 0) g117 g131 := zt130
          have li132 : jLI g131 := jLI_fr (ft130 176 0 (by unfold w_X12_copy; omega)) (ft130 0 0 (by unfold w_X12_copy; omega)) (fun t => ft130 87 t (by unfold w_X12_copy; omega)) li118
          have dli132 : g131 176 0 ≤ 2000 := li132.1
          have za134 := zt130.1
          have zb135 := zt130.2
          rw [show v121 = v107 by omega, show v123 = v109 by omega, show v125 = v111 by omega, show v127 = v113 by omega, show v129 = v115 by omega] at za134
          have qe136 := pr_copy ft116 ft130 zt116.1 za134 sm (fun exy => jAh_m zt116.2 (fun b9 => zb135 (by omega)) (fun k9 => ft130 111 k9 (by unfold w_X12_copy; omega)) (fun i9 k9 q9 => by unfold jwh3 at q9; exact ft130 i9 k9 (by unfold w_X12_copy; omega)) (jI_ah sm))
          have eqe136 := qe136.1
          have sm133 : jI g131 := qe136.2
          clear qe136 za134
          show jGo E l 179 0 229 _ 1410 [.inr (.inr (.inl (-2))), .inr (.inr (.inl 0)), .inr (.inr (.inl 176)), .inl x3] [] 229 jr0 g131
          refine jGo_blk qL_law_1410 ?_
          have e137 : jw32 (x3 + 6) = x3 + 6 := j32e (by omega) (by omega)
          show jGo E l 179 0 229 _ 18 [.inr (.inr (.inl (-2))), .inr (.inr (.inl 0)), .inr (.inr (.inl 176)), .inl (jw32 (x3 + 6))] [] 229 jr0 g131
          exact ih (jw32 (x3 + 6)) g131 (by omega) li132 sm133 (by omega)
        · replace c6 : jand v4 63 = 6 := c6
          show jGo E l 179 0 229 _ 420 [.inr (.inr (.inl (-2))), .inr (.inr (.inl 0)), .inr (.inr (.inl 176)), .inl x3] [] 229 jr0 g
          refine jGo_blk qL_law_420 ?_
          have e138 : jw32 (x3 + 1) = x3 + 1 := j32e (by omega) (by omega)
          refine st_xi (N := E.2.2.2.2.1) (by decide) (by decide) rfl (show 0 ≤ jw32 (x3 + 1) by omega) (show jw32 (x3 + 1) < ((E.2.2.2.2.1 : Nat) : Int) by omega) (fun v139 ev139 => ?_)
          replace ev139 : v139 = jxv E (-2) (jw32 (x3 + 1)) := ev139
          have e140 : jw32 (x3 + 2) = x3 + 2 := j32e (by omega) (by omega)
          refine st_xi (N := E.2.2.2.2.1) (by decide) (by decide) rfl (show 0 ≤ jw32 (x3 + 2) by omega) (show jw32 (x3 + 2) < ((E.2.2.2.2.1 : Nat) : Int) by omega) (fun v141 ev141 => ?_)
          replace ev141 : v141 = jxv E (-2) (jw32 (x3 + 2)) := ev141
          refine st_cv (na := 2) (st := [.inl v141, .inl v139, .inr (.inr (.inl 0))]) jo_0 rfl rfl rfl (c_X11_lead v139 v141 g) rfl ?_
          rintro _ _ g143 ⟨rfl, ft142, t142, rfl, ht142, zt142⟩ kt142
          replace kt142 : -2147483648 ≤ t142 ∧ t142 ≤ 2147483647 := kt142
          replace ht142 : -1 ≤ t142 ∧ t142 ≤ 2000000007 := ht142
          replace zt142 : (P_X11_lead v139 v141 t142 g g143) ∧ jFg (2000000000 < t142) g g143 := zt142
          have li144 : jLI g143 := jLI_fr (ft142 176 0 (by unfold w_X11_lead; omega)) (ft142 0 0 (by unfold w_X11_lead; omega)) (fun t => ft142 87 t (by unfold w_X11_lead; omega)) li
          have dli144 : g143 176 0 ≤ 2000 := li144.1
          have e146 : jw32 (x3 + 1) = x3 + 1 := j32e (by omega) (by omega)
          refine st_xi (N := E.2.2.2.2.1) (by decide) (by decide) rfl (show 0 ≤ jw32 (x3 + 1) by omega) (show jw32 (x3 + 1) < ((E.2.2.2.2.1 : Nat) : Int) by omega) (fun v147 ev147 => ?_)
          replace ev147 : v147 = jxv E (-2) (jw32 (x3 + 1)) := ev147
          have e148 : jw32 (x3 + 2) = x3 + 2 := j32e (by omega) (by omega)
          refine st_xi (N := E.2.2.2.2.1) (by decide) (by decide) rfl (show 0 ≤ jw32 (x3 + 2) by omega) (show jw32 (x3 + 2) < ((E.2.2.2.2.1 : Nat) : Int) by omega) (fun v149 ev149 => ?_)
          replace ev149 : v149 = jxv E (-2) (jw32 (x3 + 2)) := ev149
          refine st_cv (na := 2) (st := [.inl v149, .inl v147, .inr (.inr (.inl 176)), .inl t142]) jo_176 rfl rfl rfl (c_X12_lead v147 v149 g143) rfl ?_
          rintro _ _ g151 ⟨rfl, ft150, t150, rfl, ht150, zt150⟩ kt150
          replace kt150 : -2147483648 ≤ t150 ∧ t150 ≤ 2147483647 := kt150
          replace ht150 : -1 ≤ t150 ∧ t150 ≤ 2000000007 := ht150
          replace zt150 : (P_X12_lead v147 v149 t150 g143 g151) ∧ jRx (2000000000 < t150) g143 g151 := zt150
          have li152 : jLI g151 := jLI_fr (ft150 176 0 (by unfold w_X12_lead; omega)) (ft150 0 0 (by unfold w_X12_lead; omega)) (fun t => ft150 87 t (by unfold w_X12_lead; omega)) li144
          have dli152 : g151 176 0 ≤ 2000 := li152.1
          have za154 := zt150.1
          have zb155 := zt150.2
          rw [show v147 = v139 by omega, show v149 = v141 by omega] at za154
          have qe156 := pr_lead ft142 ft150 zt142.1 za154 sm (fun exy => jAh_m zt142.2 (fun b9 => zb155 (by omega)) (fun k9 => ft150 111 k9 (by unfold w_X12_lead; omega)) (fun i9 k9 q9 => by unfold jwh3 at q9; exact ft150 i9 k9 (by unfold w_X12_lead; omega)) (jI_ah sm))
          have eqe156 := qe156.1
          have sm153 : jI g151 := qe156.2
          clear qe156 za154
          refine And.intro (fun c157 => ?_) (fun c157 => ?_)
          · replace c157 : t142 = t150 := c157
            show jGo E l 179 0 229 _ 1410 [.inr (.inr (.inl (-2))), .inr (.inr (.inl 0)), .inr (.inr (.inl 176)), .inl x3] [] 229 jr0 g151
            refine jGo_blk qL_law_1410 ?_
            have e158 : jw32 (x3 + 6) = x3 + 6 := j32e (by omega) (by omega)
            show jGo E l 179 0 229 _ 18 [.inr (.inr (.inl (-2))), .inr (.inr (.inl 0)), .inr (.inr (.inl 176)), .inl (jw32 (x3 + 6))] [] 229 jr0 g151
            exact ih (jw32 (x3 + 6)) g151 (by omega) li152 sm153 (by omega)
          · replace c157 : ¬ t142 = t150 := by first | exact c157 | exact Int.not_le.mp c157 | exact Int.not_lt.mp c157 | exact Decidable.not_not.mp c157
            exfalso; omega
        · replace c6 : jand v4 63 = 7 := c6
          show jGo E l 179 0 229 _ 453 [.inr (.inr (.inl (-2))), .inr (.inr (.inl 0)), .inr (.inr (.inl 176)), .inl x3] [] 229 jr0 g
          refine jGo_blk qL_law_453 ?_
          have e159 : jw32 (x3 + 1) = x3 + 1 := j32e (by omega) (by omega)
          refine st_xi (N := E.2.2.2.2.1) (by decide) (by decide) rfl (show 0 ≤ jw32 (x3 + 1) by omega) (show jw32 (x3 + 1) < ((E.2.2.2.2.1 : Nat) : Int) by omega) (fun v160 ev160 => ?_)
          replace ev160 : v160 = jxv E (-2) (jw32 (x3 + 1)) := ev160
          have e161 : jw32 (x3 + 2) = x3 + 2 := j32e (by omega) (by omega)
          refine st_xi (N := E.2.2.2.2.1) (by decide) (by decide) rfl (show 0 ≤ jw32 (x3 + 2) by omega) (show jw32 (x3 + 2) < ((E.2.2.2.2.1 : Nat) : Int) by omega) (fun v162 ev162 => ?_)
          replace ev162 : v162 = jxv E (-2) (jw32 (x3 + 2)) := ev162
          refine st_cv (na := 2) (st := [.inl v162, .inl v160, .inr (.inr (.inl 0))]) jo_0 rfl rfl rfl (c_X11_handsOn v160 v162 g) rfl ?_
          rintro _ _ g164 ⟨rfl, ft163, t163, rfl, ht163, zt163⟩ kt163
          replace kt163 : -2147483648 ≤ t163 ∧ t163 ≤ 2147483647 := kt163
          replace ht163 : -7 ≤ t163 ∧ t163 ≤ 400 := ht163
          replace zt163 : P_X11_handsOn v160 v162 t163 g := zt163
          have li165 : jLI g164 := jLI_fr (ft163 176 0 (by unfold w_X11_handsOn; omega)) (ft163 0 0 (by unfold w_X11_handsOn; omega)) (fun t => ft163 87 t (by unfold w_X11_handsOn; omega)) li
          have dli165 : g164 176 0 ≤ 2000 := li165.1
          have e167 : jw32 (x3 + 1) = x3 + 1 := j32e (by omega) (by omega)
          refine st_xi (N := E.2.2.2.2.1) (by decide) (by decide) rfl (show 0 ≤ jw32 (x3 + 1) by omega) (show jw32 (x3 + 1) < ((E.2.2.2.2.1 : Nat) : Int) by omega) (fun v168 ev168 => ?_)
          replace ev168 : v168 = jxv E (-2) (jw32 (x3 + 1)) := ev168
          have e169 : jw32 (x3 + 2) = x3 + 2 := j32e (by omega) (by omega)
          refine st_xi (N := E.2.2.2.2.1) (by decide) (by decide) rfl (show 0 ≤ jw32 (x3 + 2) by omega) (show jw32 (x3 + 2) < ((E.2.2.2.2.1 : Nat) : Int) by omega) (fun v170 ev170 => ?_)
          replace ev170 : v170 = jxv E (-2) (jw32 (x3 + 2)) := ev170
          refine st_cv (na := 2) (st := [.inl v170, .inl v168, .inr (.inr (.inl 176))]) jo_176 rfl rfl rfl (c_X12_handsOn v168 v170 g164) rfl ?_
          rintro _ _ g172 ⟨rfl, ft171, t171, rfl, ht171, zt171⟩ kt171
          replace kt171 : -2147483648 ≤ t171 ∧ t171 ≤ 2147483647 := kt171
          replace ht171 : -7 ≤ t171 ∧ t171 ≤ 400 := ht171
          replace zt171 : P_X12_handsOn v168 v170 t171 g164 := zt171
          have li173 : jLI g172 := jLI_fr (ft171 176 0 (by unfold w_X12_handsOn; omega)) (ft171 0 0 (by unfold w_X12_handsOn; omega)) (fun t => ft171 87 t (by unfold w_X12_handsOn; omega)) li165
          have dli173 : g172 176 0 ≤ 2000 := li173.1
          rw [show v168 = v160 by omega, show v170 = v162 by omega] at zt171
          have qe175 := pr_handsOn ft163 ft171 zt163 zt171 sm
          have eqe175 := qe175.1
          have sm174 : jI g172 := qe175.2
          clear qe175 zt171
          show jGo E l 179 0 229 _ 1410 [.inr (.inr (.inl (-2))), .inr (.inr (.inl 0)), .inr (.inr (.inl 176)), .inl x3] [] 229 jr0 g172
          refine jGo_blk qL_law_1410 ?_
          have e176 : jw32 (x3 + 6) = x3 + 6 := j32e (by omega) (by omega)
          show jGo E l 179 0 229 _ 18 [.inr (.inr (.inl (-2))), .inr (.inr (.inl 0)), .inr (.inr (.inl 176)), .inl (jw32 (x3 + 6))] [] 229 jr0 g172
          exact ih (jw32 (x3 + 6)) g172 (by omega) li173 sm174 (by omega)
        · replace c6 : jand v4 63 = 8 := c6
          show jGo E l 179 0 229 _ 486 [.inr (.inr (.inl (-2))), .inr (.inr (.inl 0)), .inr (.inr (.inl 176)), .inl x3] [] 229 jr0 g
          refine jGo_blk qL_law_486 ?_
          have e177 : jw32 (x3 + 1) = x3 + 1 := j32e (by omega) (by omega)
          refine st_xi (N := E.2.2.2.2.1) (by decide) (by decide) rfl (show 0 ≤ jw32 (x3 + 1) by omega) (show jw32 (x3 + 1) < ((E.2.2.2.2.1 : Nat) : Int) by omega) (fun v178 ev178 => ?_)
          replace ev178 : v178 = jxv E (-2) (jw32 (x3 + 1)) := ev178
          have e179 : jw32 (x3 + 2) = x3 + 2 := j32e (by omega) (by omega)
          refine st_xi (N := E.2.2.2.2.1) (by decide) (by decide) rfl (show 0 ≤ jw32 (x3 + 2) by omega) (show jw32 (x3 + 2) < ((E.2.2.2.2.1 : Nat) : Int) by omega) (fun v180 ev180 => ?_)
          replace ev180 : v180 = jxv E (-2) (jw32 (x3 + 2)) := ev180
          have e181 : jw32 (x3 + 3) = x3 + 3 := j32e (by omega) (by omega)
          refine st_xi (N := E.2.2.2.2.1) (by decide) (by decide) rfl (show 0 ≤ jw32 (x3 + 3) by omega) (show jw32 (x3 + 3) < ((E.2.2.2.2.1 : Nat) : Int) by omega) (fun v182 ev182 => ?_)
          replace ev182 : v182 = jxv E (-2) (jw32 (x3 + 3)) := ev182
          have e183 : jw32 (x3 + 4) = x3 + 4 := j32e (by omega) (by omega)
          refine st_xi (N := E.2.2.2.2.1) (by decide) (by decide) rfl (show 0 ≤ jw32 (x3 + 4) by omega) (show jw32 (x3 + 4) < ((E.2.2.2.2.1 : Nat) : Int) by omega) (fun v184 ev184 => ?_)
          replace ev184 : v184 = jxv E (-2) (jw32 (x3 + 4)) := ev184
          refine st_cv (na := 4) (st := [.inl v184, .inl v182, .inl v180, .inl v178, .inr (.inr (.inl 0))]) jo_0 rfl rfl rfl (c_X11_decree v178 v180 v182 v184 g) rfl ?_
          rintro _ _ g186 ⟨rfl, ft185, t185, rfl, ht185, zt185⟩ kt185
          replace kt185 : -2147483648 ≤ t185 ∧ t185 ≤ 2147483647 := kt185
          replace ht185 : -7 ≤ t185 ∧ t185 ≤ 39 := ht185
          replace zt185 : (P_X11_decree v178 v180 v182 v184 t185 g g186) ∧ jFg (t185 < 0) g g186 := zt185
          have li187 : jLI g186 := jLI_fr (ft185 176 0 (by unfold w_X11_decree; omega)) (ft185 0 0 (by unfold w_X11_decree; omega)) (fun t => ft185 87 t (by unfold w_X11_decree; omega)) li
          have dli187 : g186 176 0 ≤ 2000 := li187.1
          have e189 : jw32 (x3 + 1) = x3 + 1 := j32e (by omega) (by omega)
          refine st_xi (N := E.2.2.2.2.1) (by decide) (by decide) rfl (show 0 ≤ jw32 (x3 + 1) by omega) (show jw32 (x3 + 1) < ((E.2.2.2.2.1 : Nat) : Int) by omega) (fun v190 ev190 => ?_)
          replace ev190 : v190 = jxv E (-2) (jw32 (x3 + 1)) := ev190
          have e191 : jw32 (x3 + 2) = x3 + 2 := j32e (by omega) (by omega)
          refine st_xi (N := E.2.2.2.2.1) (by decide) (by decide) rfl (show 0 ≤ jw32 (x3 + 2) by omega) (show jw32 (x3 + 2) < ((E.2.2.2.2.1 : Nat) : Int) by omega) (fun v192 ev192 => ?_)
          replace ev192 : v192 = jxv E (-2) (jw32 (x3 + 2)) := ev192
          have e193 : jw32 (x3 + 3) = x3 + 3 := j32e (by omega) (by omega)
          refine st_xi (N := E.2.2.2.2.1) (by decide) (by decide) rfl (show 0 ≤ jw32 (x3 + 3) by omega) (show jw32 (x3 + 3) < ((E.2.2.2.2.1 : Nat) : Int) by omega) (fun v194 ev194 => ?_)
          replace ev194 : v194 = jxv E (-2) (jw32 (x3 + 3)) := ev194
          have e195 : jw32 (x3 + 4) = x3 + 4 := j32e (by omega) (by omega)
          refine st_xi (N := E.2.2.2.2.1) (by decide) (by decide) rfl (show 0 ≤ jw32 (x3 + 4) by omega) (show jw32 (x3 + 4) < ((E.2.2.2.2.1 : Nat) : Int) by omega) (fun v196 ev196 => ?_)
          replace ev196 : v196 = jxv E (-2) (jw32 (x3 + 4)) := ev196
          refine st_cv (na := 4) (st := [.inl v196, .inl v194, .inl v192, .inl v190, .inr (.inr (.inl 176))]) jo_176 rfl rfl rfl (c_X12_decree v190 v192 v194 v196 g186) rfl ?_
          rintro _ _ g198 ⟨rfl, ft197, t197, rfl, ht197, zt197⟩ kt197
          replace kt197 : -2147483648 ≤ t197 ∧ t197 ≤ 2147483647 := kt197
          replace ht197 : -7 ≤ t197 ∧ t197 ≤ 39 := ht197
          replace zt197 : (P_X12_decree v190 v192 v194 v196 t197 g186 g198) ∧ jRx (t197 < 0) g186 g198 := zt197
          have li199 : jLI g198 := jLI_fr (ft197 176 0 (by unfold w_X12_decree; omega)) (ft197 0 0 (by unfold w_X12_decree; omega)) (fun t => ft197 87 t (by unfold w_X12_decree; omega)) li187
          have dli199 : g198 176 0 ≤ 2000 := li199.1
          have za201 := zt197.1
          have zb202 := zt197.2
          rw [show v190 = v178 by omega, show v192 = v180 by omega, show v194 = v182 by omega, show v196 = v184 by omega] at za201
          have qe203 := pr_decree ft185 ft197 zt185.1 za201 sm dd0 (fun exy => jAh_m zt185.2 (fun b9 => zb202 (by omega)) (fun k9 => ft197 111 k9 (by unfold w_X12_decree; omega)) (fun i9 k9 q9 => by unfold jwh3 at q9; exact ft197 i9 k9 (by unfold w_X12_decree; omega)) (jI_ah sm))
          have eqe203 := qe203.1
          have sm200 : jI g198 := qe203.2
          clear qe203 za201
          show jGo E l 179 0 229 _ 1410 [.inr (.inr (.inl (-2))), .inr (.inr (.inl 0)), .inr (.inr (.inl 176)), .inl x3] [] 229 jr0 g198
          refine jGo_blk qL_law_1410 ?_
          have e204 : jw32 (x3 + 6) = x3 + 6 := j32e (by omega) (by omega)
          show jGo E l 179 0 229 _ 18 [.inr (.inr (.inl (-2))), .inr (.inr (.inl 0)), .inr (.inr (.inl 176)), .inl (jw32 (x3 + 6))] [] 229 jr0 g198
          exact ih (jw32 (x3 + 6)) g198 (by omega) li199 sm200 (by omega)
        · replace c6 : jand v4 63 = 9 := c6
          show jGo E l 179 0 229 _ 539 [.inr (.inr (.inl (-2))), .inr (.inr (.inl 0)), .inr (.inr (.inl 176)), .inl x3] [] 229 jr0 g
          refine jGo_blk qL_law_539 ?_
          have e205 : jw32 (x3 + 1) = x3 + 1 := j32e (by omega) (by omega)
          refine st_xi (N := E.2.2.2.2.1) (by decide) (by decide) rfl (show 0 ≤ jw32 (x3 + 1) by omega) (show jw32 (x3 + 1) < ((E.2.2.2.2.1 : Nat) : Int) by omega) (fun v206 ev206 => ?_)
          replace ev206 : v206 = jxv E (-2) (jw32 (x3 + 1)) := ev206
          have e207 : jw32 (x3 + 2) = x3 + 2 := j32e (by omega) (by omega)
          refine st_xi (N := E.2.2.2.2.1) (by decide) (by decide) rfl (show 0 ≤ jw32 (x3 + 2) by omega) (show jw32 (x3 + 2) < ((E.2.2.2.2.1 : Nat) : Int) by omega) (fun v208 ev208 => ?_)
          replace ev208 : v208 = jxv E (-2) (jw32 (x3 + 2)) := ev208
          have e209 : jw32 (x3 + 3) = x3 + 3 := j32e (by omega) (by omega)
          refine st_xi (N := E.2.2.2.2.1) (by decide) (by decide) rfl (show 0 ≤ jw32 (x3 + 3) by omega) (show jw32 (x3 + 3) < ((E.2.2.2.2.1 : Nat) : Int) by omega) (fun v210 ev210 => ?_)
          replace ev210 : v210 = jxv E (-2) (jw32 (x3 + 3)) := ev210
          refine st_cv (na := 3) (st := [.inl v210, .inl v208, .inl v206, .inr (.inr (.inl 0))]) jo_0 rfl rfl rfl (c_X11_force v206 v208 v210 g) rfl ?_
          rintro _ _ g212 ⟨rfl, ft211, t211, rfl, ht211, zt211⟩ kt211
          replace kt211 : -2147483648 ≤ t211 ∧ t211 ≤ 2147483647 := kt211
          replace ht211 : -7 ≤ t211 ∧ t211 ≤ 200 := ht211
          replace zt211 : P_X11_force v206 v208 v210 t211 g := zt211
          have li213 : jLI g212 := jLI_fr (ft211 176 0 (by unfold w_X11_force; omega)) (ft211 0 0 (by unfold w_X11_force; omega)) (fun t => ft211 87 t (by unfold w_X11_force; omega)) li
          have dli213 : g212 176 0 ≤ 2000 := li213.1
          have e215 : jw32 (x3 + 1) = x3 + 1 := j32e (by omega) (by omega)
          refine st_xi (N := E.2.2.2.2.1) (by decide) (by decide) rfl (show 0 ≤ jw32 (x3 + 1) by omega) (show jw32 (x3 + 1) < ((E.2.2.2.2.1 : Nat) : Int) by omega) (fun v216 ev216 => ?_)
          replace ev216 : v216 = jxv E (-2) (jw32 (x3 + 1)) := ev216
          have e217 : jw32 (x3 + 2) = x3 + 2 := j32e (by omega) (by omega)
          refine st_xi (N := E.2.2.2.2.1) (by decide) (by decide) rfl (show 0 ≤ jw32 (x3 + 2) by omega) (show jw32 (x3 + 2) < ((E.2.2.2.2.1 : Nat) : Int) by omega) (fun v218 ev218 => ?_)
          replace ev218 : v218 = jxv E (-2) (jw32 (x3 + 2)) := ev218
          have e219 : jw32 (x3 + 3) = x3 + 3 := j32e (by omega) (by omega)
          refine st_xi (N := E.2.2.2.2.1) (by decide) (by decide) rfl (show 0 ≤ jw32 (x3 + 3) by omega) (show jw32 (x3 + 3) < ((E.2.2.2.2.1 : Nat) : Int) by omega) (fun v220 ev220 => ?_)
          replace ev220 : v220 = jxv E (-2) (jw32 (x3 + 3)) := ev220
          refine st_cv (na := 3) (st := [.inl v220, .inl v218, .inl v216, .inr (.inr (.inl 176))]) jo_176 rfl rfl rfl (c_X12_force v216 v218 v220 g212) rfl ?_
          rintro _ _ g222 ⟨rfl, ft221, t221, rfl, ht221, zt221⟩ kt221
          replace kt221 : -2147483648 ≤ t221 ∧ t221 ≤ 2147483647 := kt221
          replace ht221 : -7 ≤ t221 ∧ t221 ≤ 200 := ht221
          replace zt221 : P_X12_force v216 v218 v220 t221 g212 := zt221
          have li223 : jLI g222 := jLI_fr (ft221 176 0 (by unfold w_X12_force; omega)) (ft221 0 0 (by unfold w_X12_force; omega)) (fun t => ft221 87 t (by unfold w_X12_force; omega)) li213
          have dli223 : g222 176 0 ≤ 2000 := li223.1
          rw [show v216 = v206 by omega, show v218 = v208 by omega, show v220 = v210 by omega] at zt221
          have qe225 := pr_force ft211 ft221 zt211 zt221 sm
          have eqe225 := qe225.1
          have sm224 : jI g222 := qe225.2
          clear qe225 zt221
          show jGo E l 179 0 229 _ 1410 [.inr (.inr (.inl (-2))), .inr (.inr (.inl 0)), .inr (.inr (.inl 176)), .inl x3] [] 229 jr0 g222
          refine jGo_blk qL_law_1410 ?_
          have e226 : jw32 (x3 + 6) = x3 + 6 := j32e (by omega) (by omega)
          show jGo E l 179 0 229 _ 18 [.inr (.inr (.inl (-2))), .inr (.inr (.inl 0)), .inr (.inr (.inl 176)), .inl (jw32 (x3 + 6))] [] 229 jr0 g222
          exact ih (jw32 (x3 + 6)) g222 (by omega) li223 sm224 (by omega)
        · replace c6 : jand v4 63 = 10 := c6
          show jGo E l 179 0 229 _ 582 [.inr (.inr (.inl (-2))), .inr (.inr (.inl 0)), .inr (.inr (.inl 176)), .inl x3] [] 229 jr0 g
          refine jGo_blk qL_law_582 ?_
          have e227 : jw32 (x3 + 1) = x3 + 1 := j32e (by omega) (by omega)
          refine st_xi (N := E.2.2.2.2.1) (by decide) (by decide) rfl (show 0 ≤ jw32 (x3 + 1) by omega) (show jw32 (x3 + 1) < ((E.2.2.2.2.1 : Nat) : Int) by omega) (fun v228 ev228 => ?_)
          replace ev228 : v228 = jxv E (-2) (jw32 (x3 + 1)) := ev228
          have e229 : jw32 (x3 + 2) = x3 + 2 := j32e (by omega) (by omega)
          refine st_xi (N := E.2.2.2.2.1) (by decide) (by decide) rfl (show 0 ≤ jw32 (x3 + 2) by omega) (show jw32 (x3 + 2) < ((E.2.2.2.2.1 : Nat) : Int) by omega) (fun v230 ev230 => ?_)
          replace ev230 : v230 = jxv E (-2) (jw32 (x3 + 2)) := ev230
          have e231 : jw32 (x3 + 3) = x3 + 3 := j32e (by omega) (by omega)
          refine st_xi (N := E.2.2.2.2.1) (by decide) (by decide) rfl (show 0 ≤ jw32 (x3 + 3) by omega) (show jw32 (x3 + 3) < ((E.2.2.2.2.1 : Nat) : Int) by omega) (fun v232 ev232 => ?_)
          replace ev232 : v232 = jxv E (-2) (jw32 (x3 + 3)) := ev232
          have e233 : jw32 (x3 + 4) = x3 + 4 := j32e (by omega) (by omega)
          refine st_xi (N := E.2.2.2.2.1) (by decide) (by decide) rfl (show 0 ≤ jw32 (x3 + 4) by omega) (show jw32 (x3 + 4) < ((E.2.2.2.2.1 : Nat) : Int) by omega) (fun v234 ev234 => ?_)
          replace ev234 : v234 = jxv E (-2) (jw32 (x3 + 4)) := ev234
          refine st_cv (na := 4) (st := [.inl v234, .inl v232, .inl v230, .inl v228, .inr (.inr (.inl 0))]) jo_0 rfl rfl rfl (c_X11_task v228 v230 v232 v234 g) rfl ?_
          rintro _ _ g236 ⟨rfl, ft235, t235, rfl, ht235, zt235⟩ kt235
          replace kt235 : -2147483648 ≤ t235 ∧ t235 ≤ 2147483647 := kt235
          replace ht235 : -7 ≤ t235 ∧ t235 ≤ 2000 := ht235
          replace zt235 : (P_X11_task v228 v230 v232 v234 t235 g g236) ∧ jFg (t235 < 0) g g236 := zt235
          have li237 : jLI g236 := jLI_fr (ft235 176 0 (by unfold w_X11_task; omega)) (ft235 0 0 (by unfold w_X11_task; omega)) (fun t => ft235 87 t (by unfold w_X11_task; omega)) li
          have dli237 : g236 176 0 ≤ 2000 := li237.1
          have e239 : jw32 (x3 + 1) = x3 + 1 := j32e (by omega) (by omega)
          refine st_xi (N := E.2.2.2.2.1) (by decide) (by decide) rfl (show 0 ≤ jw32 (x3 + 1) by omega) (show jw32 (x3 + 1) < ((E.2.2.2.2.1 : Nat) : Int) by omega) (fun v240 ev240 => ?_)
          replace ev240 : v240 = jxv E (-2) (jw32 (x3 + 1)) := ev240
          have e241 : jw32 (x3 + 2) = x3 + 2 := j32e (by omega) (by omega)
          refine st_xi (N := E.2.2.2.2.1) (by decide) (by decide) rfl (show 0 ≤ jw32 (x3 + 2) by omega) (show jw32 (x3 + 2) < ((E.2.2.2.2.1 : Nat) : Int) by omega) (fun v242 ev242 => ?_)
          replace ev242 : v242 = jxv E (-2) (jw32 (x3 + 2)) := ev242
          have e243 : jw32 (x3 + 3) = x3 + 3 := j32e (by omega) (by omega)
          refine st_xi (N := E.2.2.2.2.1) (by decide) (by decide) rfl (show 0 ≤ jw32 (x3 + 3) by omega) (show jw32 (x3 + 3) < ((E.2.2.2.2.1 : Nat) : Int) by omega) (fun v244 ev244 => ?_)
          replace ev244 : v244 = jxv E (-2) (jw32 (x3 + 3)) := ev244
          have e245 : jw32 (x3 + 4) = x3 + 4 := j32e (by omega) (by omega)
          refine st_xi (N := E.2.2.2.2.1) (by decide) (by decide) rfl (show 0 ≤ jw32 (x3 + 4) by omega) (show jw32 (x3 + 4) < ((E.2.2.2.2.1 : Nat) : Int) by omega) (fun v246 ev246 => ?_)
          replace ev246 : v246 = jxv E (-2) (jw32 (x3 + 4)) := ev246
          refine st_cv (na := 4) (st := [.inl v246, .inl v244, .inl v242, .inl v240, .inr (.inr (.inl 176))]) jo_176 rfl rfl rfl (c_X12_task v240 v242 v244 v246 g236) rfl ?_
          rintro _ _ g248 ⟨rfl, ft247, t247, rfl, ht247, zt247⟩ kt247
          replace kt247 : -2147483648 ≤ t247 ∧ t247 ≤ 2147483647 := kt247
          replace ht247 : -7 ≤ t247 ∧ t247 ≤ 2000 := ht247
          replace zt247 : (P_X12_task v240 v242 v244 v246 t247 g236 g248) ∧ jRx (t247 < 0) g236 g248 := zt247
          have li249 : jLI g248 := jLI_fr (ft247 176 0 (by unfold w_X12_task; omega)) (ft247 0 0 (by unfold w_X12_task; omega)) (fun t => ft247 87 t (by unfold w_X12_task; omega)) li237
          have dli249 : g248 176 0 ≤ 2000 := li249.1
          have za251 := zt247.1
          have zb252 := zt247.2
          rw [show v240 = v228 by omega, show v242 = v230 by omega, show v244 = v232 by omega, show v246 = v234 by omega] at za251
          have qe253 := pr_task ft235 ft247 zt235.1 za251 sm (fun exy => jAh_m zt235.2 (fun b9 => zb252 (by omega)) (fun k9 => ft247 111 k9 (by unfold w_X12_task; omega)) (fun i9 k9 q9 => by unfold jwh3 at q9; exact ft247 i9 k9 (by unfold w_X12_task; omega)) (jI_ah sm))
          have eqe253 := qe253.1
          have sm250 : jI g248 := qe253.2
          clear qe253 za251
          show jGo E l 179 0 229 _ 1410 [.inr (.inr (.inl (-2))), .inr (.inr (.inl 0)), .inr (.inr (.inl 176)), .inl x3] [] 229 jr0 g248
          refine jGo_blk qL_law_1410 ?_
          have e254 : jw32 (x3 + 6) = x3 + 6 := j32e (by omega) (by omega)
          show jGo E l 179 0 229 _ 18 [.inr (.inr (.inl (-2))), .inr (.inr (.inl 0)), .inr (.inr (.inl 176)), .inl (jw32 (x3 + 6))] [] 229 jr0 g248
          exact ih (jw32 (x3 + 6)) g248 (by omega) li249 sm250 (by omega)
        · replace c6 : jand v4 63 = 11 := c6
          show jGo E l 179 0 229 _ 635 [.inr (.inr (.inl (-2))), .inr (.inr (.inl 0)), .inr (.inr (.inl 176)), .inl x3] [] 229 jr0 g
          refine jGo_blk qL_law_635 ?_
          have e255 : jw32 (x3 + 1) = x3 + 1 := j32e (by omega) (by omega)
          refine st_xi (N := E.2.2.2.2.1) (by decide) (by decide) rfl (show 0 ≤ jw32 (x3 + 1) by omega) (show jw32 (x3 + 1) < ((E.2.2.2.2.1 : Nat) : Int) by omega) (fun v256 ev256 => ?_)
          replace ev256 : v256 = jxv E (-2) (jw32 (x3 + 1)) := ev256
          have e257 : jw32 (x3 + 2) = x3 + 2 := j32e (by omega) (by omega)
          refine st_xi (N := E.2.2.2.2.1) (by decide) (by decide) rfl (show 0 ≤ jw32 (x3 + 2) by omega) (show jw32 (x3 + 2) < ((E.2.2.2.2.1 : Nat) : Int) by omega) (fun v258 ev258 => ?_)
          replace ev258 : v258 = jxv E (-2) (jw32 (x3 + 2)) := ev258
          have e259 : jw32 (x3 + 3) = x3 + 3 := j32e (by omega) (by omega)
          refine st_xi (N := E.2.2.2.2.1) (by decide) (by decide) rfl (show 0 ≤ jw32 (x3 + 3) by omega) (show jw32 (x3 + 3) < ((E.2.2.2.2.1 : Nat) : Int) by omega) (fun v260 ev260 => ?_)
          replace ev260 : v260 = jxv E (-2) (jw32 (x3 + 3)) := ev260
          have e261 : jw32 (x3 + 4) = x3 + 4 := j32e (by omega) (by omega)
          refine st_xi (N := E.2.2.2.2.1) (by decide) (by decide) rfl (show 0 ≤ jw32 (x3 + 4) by omega) (show jw32 (x3 + 4) < ((E.2.2.2.2.1 : Nat) : Int) by omega) (fun v262 ev262 => ?_)
          replace ev262 : v262 = jxv E (-2) (jw32 (x3 + 4)) := ev262
          refine st_cv (na := 4) (st := [.inl v262, .inl v260, .inl v258, .inl v256, .inr (.inr (.inl 0))]) jo_0 rfl rfl rfl (c_X11_needs v256 v258 v260 v262 g) rfl ?_
          rintro _ _ g264 ⟨rfl, ft263, t263, rfl, ht263, zt263⟩ kt263
          replace kt263 : -2147483648 ≤ t263 ∧ t263 ≤ 2147483647 := kt263
          replace ht263 : -7 ≤ t263 ∧ t263 ≤ 500 := ht263
          replace zt263 : (P_X11_needs v256 v258 v260 v262 t263 g g264) ∧ jFg (t263 < 0) g g264 := zt263
          have li265 : jLI g264 := jLI_fr (ft263 176 0 (by unfold w_X11_needs; omega)) (ft263 0 0 (by unfold w_X11_needs; omega)) (fun t => ft263 87 t (by unfold w_X11_needs; omega)) li
          have dli265 : g264 176 0 ≤ 2000 := li265.1
          have e267 : jw32 (x3 + 1) = x3 + 1 := j32e (by omega) (by omega)
          refine st_xi (N := E.2.2.2.2.1) (by decide) (by decide) rfl (show 0 ≤ jw32 (x3 + 1) by omega) (show jw32 (x3 + 1) < ((E.2.2.2.2.1 : Nat) : Int) by omega) (fun v268 ev268 => ?_)
          replace ev268 : v268 = jxv E (-2) (jw32 (x3 + 1)) := ev268
          have e269 : jw32 (x3 + 2) = x3 + 2 := j32e (by omega) (by omega)
          refine st_xi (N := E.2.2.2.2.1) (by decide) (by decide) rfl (show 0 ≤ jw32 (x3 + 2) by omega) (show jw32 (x3 + 2) < ((E.2.2.2.2.1 : Nat) : Int) by omega) (fun v270 ev270 => ?_)
          replace ev270 : v270 = jxv E (-2) (jw32 (x3 + 2)) := ev270
          have e271 : jw32 (x3 + 3) = x3 + 3 := j32e (by omega) (by omega)
          refine st_xi (N := E.2.2.2.2.1) (by decide) (by decide) rfl (show 0 ≤ jw32 (x3 + 3) by omega) (show jw32 (x3 + 3) < ((E.2.2.2.2.1 : Nat) : Int) by omega) (fun v272 ev272 => ?_)
          replace ev272 : v272 = jxv E (-2) (jw32 (x3 + 3)) := ev272
          have e273 : jw32 (x3 + 4) = x3 + 4 := j32e (by omega) (by omega)
          refine st_xi (N := E.2.2.2.2.1) (by decide) (by decide) rfl (show 0 ≤ jw32 (x3 + 4) by omega) (show jw32 (x3 + 4) < ((E.2.2.2.2.1 : Nat) : Int) by omega) (fun v274 ev274 => ?_)
          replace ev274 : v274 = jxv E (-2) (jw32 (x3 + 4)) := ev274
          refine st_cv (na := 4) (st := [.inl v274, .inl v272, .inl v270, .inl v268, .inr (.inr (.inl 176))]) jo_176 rfl rfl rfl (c_X12_needs v268 v270 v272 v274 g264) rfl ?_
          rintro _ _ g276 ⟨rfl, ft275, t275, rfl, ht275, zt275⟩ kt275
          replace kt275 : -2147483648 ≤ t275 ∧ t275 ≤ 2147483647 := kt275
          replace ht275 : -7 ≤ t275 ∧ t275 ≤ 500 := ht275
          replace zt275 : (P_X12_needs v268 v270 v272 v274 t275 g264 g276) ∧ jRx (t275 < 0) g264 g276 := zt275
          have li277 : jLI g276 := jLI_fr (ft275 176 0 (by unfold w_X12_needs; omega)) (ft275 0 0 (by unfold w_X12_needs; omega)) (fun t => ft275 87 t (by unfold w_X12_needs; omega)) li265
          have dli277 : g276 176 0 ≤ 2000 := li277.1
          have za279 := zt275.1
          have zb280 := zt275.2
          rw [show v268 = v256 by omega, show v270 = v258 by omega, show v272 = v260 by omega, show v274 = v262 by omega] at za279
          have qe281 := pr_needs ft263 ft275 zt263.1 za279 sm (fun exy => jAh_m zt263.2 (fun b9 => zb280 (by omega)) (fun k9 => ft275 111 k9 (by unfold w_X12_needs; omega)) (fun i9 k9 q9 => by unfold jwh3 at q9; exact ft275 i9 k9 (by unfold w_X12_needs; omega)) (jI_ah sm))
          have eqe281 := qe281.1
          have sm278 : jI g276 := qe281.2
          clear qe281 za279
          show jGo E l 179 0 229 _ 1410 [.inr (.inr (.inl (-2))), .inr (.inr (.inl 0)), .inr (.inr (.inl 176)), .inl x3] [] 229 jr0 g276
          refine jGo_blk qL_law_1410 ?_
          have e282 : jw32 (x3 + 6) = x3 + 6 := j32e (by omega) (by omega)
          show jGo E l 179 0 229 _ 18 [.inr (.inr (.inl (-2))), .inr (.inr (.inl 0)), .inr (.inr (.inl 176)), .inl (jw32 (x3 + 6))] [] 229 jr0 g276
          exact ih (jw32 (x3 + 6)) g276 (by omega) li277 sm278 (by omega)
        · replace c6 : jand v4 63 = 12 := c6
          show jGo E l 179 0 229 _ 688 [.inr (.inr (.inl (-2))), .inr (.inr (.inl 0)), .inr (.inr (.inl 176)), .inl x3] [] 229 jr0 g
          refine jGo_blk qL_law_688 ?_
          have e283 : jw32 (x3 + 1) = x3 + 1 := j32e (by omega) (by omega)
          refine st_xi (N := E.2.2.2.2.1) (by decide) (by decide) rfl (show 0 ≤ jw32 (x3 + 1) by omega) (show jw32 (x3 + 1) < ((E.2.2.2.2.1 : Nat) : Int) by omega) (fun v284 ev284 => ?_)
          replace ev284 : v284 = jxv E (-2) (jw32 (x3 + 1)) := ev284
          have e285 : jw32 (x3 + 2) = x3 + 2 := j32e (by omega) (by omega)
          refine st_xi (N := E.2.2.2.2.1) (by decide) (by decide) rfl (show 0 ≤ jw32 (x3 + 2) by omega) (show jw32 (x3 + 2) < ((E.2.2.2.2.1 : Nat) : Int) by omega) (fun v286 ev286 => ?_)
          replace ev286 : v286 = jxv E (-2) (jw32 (x3 + 2)) := ev286
          have e287 : jw32 (x3 + 3) = x3 + 3 := j32e (by omega) (by omega)
          refine st_xi (N := E.2.2.2.2.1) (by decide) (by decide) rfl (show 0 ≤ jw32 (x3 + 3) by omega) (show jw32 (x3 + 3) < ((E.2.2.2.2.1 : Nat) : Int) by omega) (fun v288 ev288 => ?_)
          replace ev288 : v288 = jxv E (-2) (jw32 (x3 + 3)) := ev288
          refine st_cv (na := 3) (st := [.inl v288, .inl v286, .inl v284, .inr (.inr (.inl 0))]) jo_0 rfl rfl rfl (c_X11_hull v284 v286 v288 g) rfl ?_
          rintro _ _ g290 ⟨rfl, ft289, t289, rfl, ht289, zt289⟩ kt289
          replace kt289 : -2147483648 ≤ t289 ∧ t289 ≤ 2147483647 := kt289
          replace ht289 : -7 ≤ t289 ∧ t289 ≤ 15 := ht289
          replace zt289 : (P_X11_hull v284 v286 v288 t289 g g290) ∧ jFg (t289 < 0) g g290 := zt289
          have li291 : jLI g290 := jLI_fr (ft289 176 0 (by unfold w_X11_hull; omega)) (ft289 0 0 (by unfold w_X11_hull; omega)) (fun t => ft289 87 t (by unfold w_X11_hull; omega)) li
          have dli291 : g290 176 0 ≤ 2000 := li291.1
          have e293 : jw32 (x3 + 1) = x3 + 1 := j32e (by omega) (by omega)
          refine st_xi (N := E.2.2.2.2.1) (by decide) (by decide) rfl (show 0 ≤ jw32 (x3 + 1) by omega) (show jw32 (x3 + 1) < ((E.2.2.2.2.1 : Nat) : Int) by omega) (fun v294 ev294 => ?_)
          replace ev294 : v294 = jxv E (-2) (jw32 (x3 + 1)) := ev294
          have e295 : jw32 (x3 + 2) = x3 + 2 := j32e (by omega) (by omega)
          refine st_xi (N := E.2.2.2.2.1) (by decide) (by decide) rfl (show 0 ≤ jw32 (x3 + 2) by omega) (show jw32 (x3 + 2) < ((E.2.2.2.2.1 : Nat) : Int) by omega) (fun v296 ev296 => ?_)
          replace ev296 : v296 = jxv E (-2) (jw32 (x3 + 2)) := ev296
          have e297 : jw32 (x3 + 3) = x3 + 3 := j32e (by omega) (by omega)
          refine st_xi (N := E.2.2.2.2.1) (by decide) (by decide) rfl (show 0 ≤ jw32 (x3 + 3) by omega) (show jw32 (x3 + 3) < ((E.2.2.2.2.1 : Nat) : Int) by omega) (fun v298 ev298 => ?_)
          replace ev298 : v298 = jxv E (-2) (jw32 (x3 + 3)) := ev298
          refine st_cv (na := 3) (st := [.inl v298, .inl v296, .inl v294, .inr (.inr (.inl 176))]) jo_176 rfl rfl rfl (c_X12_hull v294 v296 v298 g290) rfl ?_
          rintro _ _ g300 ⟨rfl, ft299, t299, rfl, ht299, zt299⟩ kt299
          replace kt299 : -2147483648 ≤ t299 ∧ t299 ≤ 2147483647 := kt299
          replace ht299 : -7 ≤ t299 ∧ t299 ≤ 15 := ht299
          replace zt299 : (P_X12_hull v294 v296 v298 t299 g290 g300) ∧ jRx (t299 < 0) g290 g300 := zt299
          have li301 : jLI g300 := jLI_fr (ft299 176 0 (by unfold w_X12_hull; omega)) (ft299 0 0 (by unfold w_X12_hull; omega)) (fun t => ft299 87 t (by unfold w_X12_hull; omega)) li291
          have dli301 : g300 176 0 ≤ 2000 := li301.1
          have za303 := zt299.1
          have zb304 := zt299.2
          rw [show v294 = v284 by omega, show v296 = v286 by omega, show v298 = v288 by omega] at za303
          have qe305 := pr_hull ft289 ft299 zt289.1 za303 sm ((jbf_10_4 jo_29 _).1 (hbd9 29 4)).1 (fun exy => jAh_m zt289.2 (fun b9 => zb304 (by omega)) (fun k9 => ft299 111 k9 (by unfold w_X12_hull; omega)) (fun i9 k9 q9 => by unfold jwh3 at q9; exact ft299 i9 k9 (by unfold w_X12_hull; omega)) (jI_ah sm))
          have eqe305 := qe305.1
          have sm302 : jI g300 := qe305.2
          clear qe305 za303
          show jGo E l 179 0 229 _ 1410 [.inr (.inr (.inl (-2))), .inr (.inr (.inl 0)), .inr (.inr (.inl 176)), .inl x3] [] 229 jr0 g300
          refine jGo_blk qL_law_1410 ?_
          have e306 : jw32 (x3 + 6) = x3 + 6 := j32e (by omega) (by omega)
          show jGo E l 179 0 229 _ 18 [.inr (.inr (.inl (-2))), .inr (.inr (.inl 0)), .inr (.inr (.inl 176)), .inl (jw32 (x3 + 6))] [] 229 jr0 g300
          exact ih (jw32 (x3 + 6)) g300 (by omega) li301 sm302 (by omega)
        · replace c6 : jand v4 63 = 13 := c6
          show jGo E l 179 0 229 _ 731 [.inr (.inr (.inl (-2))), .inr (.inr (.inl 0)), .inr (.inr (.inl 176)), .inl x3] [] 229 jr0 g
          refine jGo_blk qL_law_731 ?_
          have e307 : jw32 (x3 + 1) = x3 + 1 := j32e (by omega) (by omega)
          refine st_xi (N := E.2.2.2.2.1) (by decide) (by decide) rfl (show 0 ≤ jw32 (x3 + 1) by omega) (show jw32 (x3 + 1) < ((E.2.2.2.2.1 : Nat) : Int) by omega) (fun v308 ev308 => ?_)
          replace ev308 : v308 = jxv E (-2) (jw32 (x3 + 1)) := ev308
          have e309 : jw32 (x3 + 2) = x3 + 2 := j32e (by omega) (by omega)
          refine st_xi (N := E.2.2.2.2.1) (by decide) (by decide) rfl (show 0 ≤ jw32 (x3 + 2) by omega) (show jw32 (x3 + 2) < ((E.2.2.2.2.1 : Nat) : Int) by omega) (fun v310 ev310 => ?_)
          replace ev310 : v310 = jxv E (-2) (jw32 (x3 + 2)) := ev310
          refine st_cv (na := 2) (st := [.inl v310, .inl v308, .inr (.inr (.inl 0))]) jo_0 rfl rfl rfl (c_X11_priority v308 v310 g) rfl ?_
          rintro _ _ g312 ⟨rfl, ft311, t311, rfl, ht311, zt311⟩ kt311
          replace kt311 : -2147483648 ≤ t311 ∧ t311 ≤ 2147483647 := kt311
          replace ht311 : -7 ≤ t311 ∧ t311 ≤ 99 := ht311
          replace zt311 : (P_X11_priority v308 v310 t311 g g312) ∧ jFg (t311 < 0) g g312 := zt311
          have li313 : jLI g312 := jLI_fr (ft311 176 0 (by unfold w_X11_priority; omega)) (ft311 0 0 (by unfold w_X11_priority; omega)) (fun t => ft311 87 t (by unfold w_X11_priority; omega)) li
          have dli313 : g312 176 0 ≤ 2000 := li313.1
          have e315 : jw32 (x3 + 1) = x3 + 1 := j32e (by omega) (by omega)
          refine st_xi (N := E.2.2.2.2.1) (by decide) (by decide) rfl (show 0 ≤ jw32 (x3 + 1) by omega) (show jw32 (x3 + 1) < ((E.2.2.2.2.1 : Nat) : Int) by omega) (fun v316 ev316 => ?_)
          replace ev316 : v316 = jxv E (-2) (jw32 (x3 + 1)) := ev316
          have e317 : jw32 (x3 + 2) = x3 + 2 := j32e (by omega) (by omega)
          refine st_xi (N := E.2.2.2.2.1) (by decide) (by decide) rfl (show 0 ≤ jw32 (x3 + 2) by omega) (show jw32 (x3 + 2) < ((E.2.2.2.2.1 : Nat) : Int) by omega) (fun v318 ev318 => ?_)
          replace ev318 : v318 = jxv E (-2) (jw32 (x3 + 2)) := ev318
          refine st_cv (na := 2) (st := [.inl v318, .inl v316, .inr (.inr (.inl 176))]) jo_176 rfl rfl rfl (c_X12_priority v316 v318 g312) rfl ?_
          rintro _ _ g320 ⟨rfl, ft319, t319, rfl, ht319, zt319⟩ kt319
          replace kt319 : -2147483648 ≤ t319 ∧ t319 ≤ 2147483647 := kt319
          replace ht319 : -7 ≤ t319 ∧ t319 ≤ 99 := ht319
          replace zt319 : (P_X12_priority v316 v318 t319 g312 g320) ∧ jRx (t319 < 0) g312 g320 := zt319
          have li321 : jLI g320 := jLI_fr (ft319 176 0 (by unfold w_X12_priority; omega)) (ft319 0 0 (by unfold w_X12_priority; omega)) (fun t => ft319 87 t (by unfold w_X12_priority; omega)) li313
          have dli321 : g320 176 0 ≤ 2000 := li321.1
          have za323 := zt319.1
          have zb324 := zt319.2
          rw [show v316 = v308 by omega, show v318 = v310 by omega] at za323
          have qe325 := pr_priority ft311 ft319 zt311.1 za323 sm (fun k => ((jba_192 k _).1 (hbd9 192 k)).1) ((jbf_10_4 jo_29 _).1 (hbd9 29 4)).2 (fun exy => jAh_m zt311.2 (fun b9 => zb324 (by omega)) (fun k9 => ft319 111 k9 (by unfold w_X12_priority; omega)) (fun i9 k9 q9 => by unfold jwh3 at q9; exact ft319 i9 k9 (by unfold w_X12_priority; omega)) (jI_ah sm))
          have eqe325 := qe325.1
          have sm322 : jI g320 := qe325.2
          clear qe325 za323
          show jGo E l 179 0 229 _ 1410 [.inr (.inr (.inl (-2))), .inr (.inr (.inl 0)), .inr (.inr (.inl 176)), .inl x3] [] 229 jr0 g320
          refine jGo_blk qL_law_1410 ?_
          have e326 : jw32 (x3 + 6) = x3 + 6 := j32e (by omega) (by omega)
          show jGo E l 179 0 229 _ 18 [.inr (.inr (.inl (-2))), .inr (.inr (.inl 0)), .inr (.inr (.inl 176)), .inl (jw32 (x3 + 6))] [] 229 jr0 g320
          exact ih (jw32 (x3 + 6)) g320 (by omega) li321 sm322 (by omega)
        · replace c6 : jand v4 63 = 14 := c6
          show jGo E l 179 0 229 _ 764 [.inr (.inr (.inl (-2))), .inr (.inr (.inl 0)), .inr (.inr (.inl 176)), .inl x3] [] 229 jr0 g
          refine jGo_blk qL_law_764 ?_
          have e327 : jw32 (x3 + 1) = x3 + 1 := j32e (by omega) (by omega)
          refine st_xi (N := E.2.2.2.2.1) (by decide) (by decide) rfl (show 0 ≤ jw32 (x3 + 1) by omega) (show jw32 (x3 + 1) < ((E.2.2.2.2.1 : Nat) : Int) by omega) (fun v328 ev328 => ?_)
          replace ev328 : v328 = jxv E (-2) (jw32 (x3 + 1)) := ev328
          have e329 : jw32 (x3 + 2) = x3 + 2 := j32e (by omega) (by omega)
          refine st_xi (N := E.2.2.2.2.1) (by decide) (by decide) rfl (show 0 ≤ jw32 (x3 + 2) by omega) (show jw32 (x3 + 2) < ((E.2.2.2.2.1 : Nat) : Int) by omega) (fun v330 ev330 => ?_)
          replace ev330 : v330 = jxv E (-2) (jw32 (x3 + 2)) := ev330
          refine st_cv (na := 2) (st := [.inl v330, .inl v328, .inr (.inr (.inl 0))]) jo_0 rfl rfl rfl (c_X11_raft v328 v330 g) rfl ?_
          rintro _ _ g332 ⟨rfl, ft331, t331, rfl, ht331, zt331⟩ kt331
          replace kt331 : -2147483648 ≤ t331 ∧ t331 ≤ 2147483647 := kt331
          replace ht331 : -7 ≤ t331 ∧ t331 ≤ 1 := ht331
          replace zt331 : (P_X11_raft v328 v330 t331 g g332) ∧ jFg (t331 < 0) g g332 := zt331
          have li333 : jLI g332 := jLI_fr (ft331 176 0 (by unfold w_X11_raft; omega)) (ft331 0 0 (by unfold w_X11_raft; omega)) (fun t => ft331 87 t (by unfold w_X11_raft; omega)) li
          have dli333 : g332 176 0 ≤ 2000 := li333.1
          have e335 : jw32 (x3 + 1) = x3 + 1 := j32e (by omega) (by omega)
          refine st_xi (N := E.2.2.2.2.1) (by decide) (by decide) rfl (show 0 ≤ jw32 (x3 + 1) by omega) (show jw32 (x3 + 1) < ((E.2.2.2.2.1 : Nat) : Int) by omega) (fun v336 ev336 => ?_)
          replace ev336 : v336 = jxv E (-2) (jw32 (x3 + 1)) := ev336
          have e337 : jw32 (x3 + 2) = x3 + 2 := j32e (by omega) (by omega)
          refine st_xi (N := E.2.2.2.2.1) (by decide) (by decide) rfl (show 0 ≤ jw32 (x3 + 2) by omega) (show jw32 (x3 + 2) < ((E.2.2.2.2.1 : Nat) : Int) by omega) (fun v338 ev338 => ?_)
          replace ev338 : v338 = jxv E (-2) (jw32 (x3 + 2)) := ev338
          refine st_cv (na := 2) (st := [.inl v338, .inl v336, .inr (.inr (.inl 176))]) jo_176 rfl rfl rfl (c_X12_raft v336 v338 g332) rfl ?_
          rintro _ _ g340 ⟨rfl, ft339, t339, rfl, ht339, zt339⟩ kt339
          replace kt339 : -2147483648 ≤ t339 ∧ t339 ≤ 2147483647 := kt339
          replace ht339 : -7 ≤ t339 ∧ t339 ≤ 1 := ht339
          replace zt339 : (P_X12_raft v336 v338 t339 g332 g340) ∧ jRx (t339 < 0) g332 g340 := zt339
          have li341 : jLI g340 := jLI_fr (ft339 176 0 (by unfold w_X12_raft; omega)) (ft339 0 0 (by unfold w_X12_raft; omega)) (fun t => ft339 87 t (by unfold w_X12_raft; omega)) li333
          have dli341 : g340 176 0 ≤ 2000 := li341.1
          have za343 := zt339.1
          have zb344 := zt339.2
          rw [show v336 = v328 by omega, show v338 = v330 by omega] at za343
          have qe345 := pr_raft ft331 ft339 zt331.1 za343 sm (fun exy => jAh_m zt331.2 (fun b9 => zb344 (by omega)) (fun k9 => ft339 111 k9 (by unfold w_X12_raft; omega)) (fun i9 k9 q9 => by unfold jwh3 at q9; exact ft339 i9 k9 (by unfold w_X12_raft; omega)) (jI_ah sm))
          have eqe345 := qe345.1
          have sm342 : jI g340 := qe345.2
          clear qe345 za343
          show jGo E l 179 0 229 _ 1410 [.inr (.inr (.inl (-2))), .inr (.inr (.inl 0)), .inr (.inr (.inl 176)), .inl x3] [] 229 jr0 g340
          refine jGo_blk qL_law_1410 ?_
          have e346 : jw32 (x3 + 6) = x3 + 6 := j32e (by omega) (by omega)
          show jGo E l 179 0 229 _ 18 [.inr (.inr (.inl (-2))), .inr (.inr (.inl 0)), .inr (.inr (.inl 176)), .inl (jw32 (x3 + 6))] [] 229 jr0 g340
          exact ih (jw32 (x3 + 6)) g340 (by omega) li341 sm342 (by omega)
        · replace c6 : jand v4 63 = 15 := c6
          show jGo E l 179 0 229 _ 797 [.inr (.inr (.inl (-2))), .inr (.inr (.inl 0)), .inr (.inr (.inl 176)), .inl x3] [] 229 jr0 g
          refine jGo_blk qL_law_797 ?_
          have e347 : jw32 (x3 + 1) = x3 + 1 := j32e (by omega) (by omega)
          refine st_xi (N := E.2.2.2.2.1) (by decide) (by decide) rfl (show 0 ≤ jw32 (x3 + 1) by omega) (show jw32 (x3 + 1) < ((E.2.2.2.2.1 : Nat) : Int) by omega) (fun v348 ev348 => ?_)
          replace ev348 : v348 = jxv E (-2) (jw32 (x3 + 1)) := ev348
          refine st_cv (na := 1) (st := [.inl v348, .inr (.inr (.inl 0))]) jo_0 rfl rfl rfl (c_X11_unraft v348 g) rfl ?_
          rintro _ _ g350 ⟨rfl, ft349, t349, rfl, ht349, zt349⟩ kt349
          replace kt349 : -2147483648 ≤ t349 ∧ t349 ≤ 2147483647 := kt349
          replace zt349 : (P_X11_unraft v348 t349 g g350) ∧ jFg (t349 < 0) g g350 := zt349
          have li351 : jLI g350 := jLI_fr (ft349 176 0 (by unfold w_X11_unraft; omega)) (ft349 0 0 (by unfold w_X11_unraft; omega)) (fun t => ft349 87 t (by unfold w_X11_unraft; omega)) li
          have dli351 : g350 176 0 ≤ 2000 := li351.1
          have e353 : jw32 (x3 + 1) = x3 + 1 := j32e (by omega) (by omega)
          refine st_xi (N := E.2.2.2.2.1) (by decide) (by decide) rfl (show 0 ≤ jw32 (x3 + 1) by omega) (show jw32 (x3 + 1) < ((E.2.2.2.2.1 : Nat) : Int) by omega) (fun v354 ev354 => ?_)
          replace ev354 : v354 = jxv E (-2) (jw32 (x3 + 1)) := ev354
          refine st_cv (na := 1) (st := [.inl v354, .inr (.inr (.inl 176))]) jo_176 rfl rfl rfl (c_X12_unraft v354 g350) rfl ?_
          rintro _ _ g356 ⟨rfl, ft355, t355, rfl, ht355, zt355⟩ kt355
          replace kt355 : -2147483648 ≤ t355 ∧ t355 ≤ 2147483647 := kt355
          replace zt355 : P_X12_unraft v354 t355 g350 g356 := zt355
          have li357 : jLI g356 := jLI_fr (ft355 176 0 (by unfold w_X12_unraft; omega)) (ft355 0 0 (by unfold w_X12_unraft; omega)) (fun t => ft355 87 t (by unfold w_X12_unraft; omega)) li351
          have dli357 : g356 176 0 ≤ 2000 := li357.1
          rw [show v354 = v348 by omega] at zt355
          have qe359 := pr_unraft ft349 ft355 zt349.1 zt355 sm (fun exy => jAh_m zt349.2 (fun b9 => (rx_unraft ft349 zt355 sm) (by omega)) (fun k9 => ft355 111 k9 (by unfold w_X12_unraft; omega)) (fun i9 k9 q9 => by unfold jwh3 at q9; exact ft355 i9 k9 (by unfold w_X12_unraft; omega)) (jI_ah sm))
          have eqe359 := qe359.1
          have sm358 : jI g356 := qe359.2
          clear qe359 zt355
          show jGo E l 179 0 229 _ 1410 [.inr (.inr (.inl (-2))), .inr (.inr (.inl 0)), .inr (.inr (.inl 176)), .inl x3] [] 229 jr0 g356
          refine jGo_blk qL_law_1410 ?_
          have e360 : jw32 (x3 + 6) = x3 + 6 := j32e (by omega) (by omega)
          show jGo E l 179 0 229 _ 18 [.inr (.inr (.inl (-2))), .inr (.inr (.inl 0)), .inr (.inr (.inl 176)), .inl (jw32 (x3 + 6))] [] 229 jr0 g356
          exact ih (jw32 (x3 + 6)) g356 (by omega) li357 sm358 (by omega)
        · replace c6 : jand v4 63 = 16 := c6
          show jGo E l 179 0 229 _ 820 [.inr (.inr (.inl (-2))), .inr (.inr (.inl 0)), .inr (.inr (.inl 176)), .inl x3] [] 229 jr0 g
          refine jGo_blk qL_law_820 ?_
          have e361 : jw32 (x3 + 1) = x3 + 1 := j32e (by omega) (by omega)
          refine st_xi (N := E.2.2.2.2.1) (by decide) (by decide) rfl (show 0 ≤ jw32 (x3 + 1) by omega) (show jw32 (x3 + 1) < ((E.2.2.2.2.1 : Nat) : Int) by omega) (fun v362 ev362 => ?_)
          replace ev362 : v362 = jxv E (-2) (jw32 (x3 + 1)) := ev362
          refine st_cv (na := 1) (st := [.inl v362, .inr (.inr (.inl 0))]) jo_0 rfl rfl rfl (c_X11_days v362 g li.2) rfl ?_
          rintro _ _ g364 ⟨rfl, ft363, t363, rfl, ht363, zt363⟩ kt363
          replace kt363 : -2147483648 ≤ t363 ∧ t363 ≤ 2147483647 := kt363
          replace zt363 : (((jLG 0 g364 ∧ P_X11_days v362 g g364) ∧ (((v362 < 0 ∨ 2000 - g 0 0 < v362) ∧ ∀ i k : Int, ¬ i = 1 → g364 i k = g i k) ∨ (0 ≤ v362 ∧ v362 ≤ 2000 - g 0 0 ∧ ∀ (fl : Prop) (hm : JH), jDR fl g hm → jDR fl g364 (jit jmDy (v362).toNat hm) ∧ jRft hm (jit jmDy (v362).toNat hm)))) ∧ ∀ i : Int, 36 ≤ i → i ≤ 83 → g364 i 10 = g i 10) ∧ jFg (v362 < 0 ∨ 2000 - g 0 0 < v362) g g364 := zt363
          have li365 : jLI g364 := ⟨by rw [(ft363 176 0 (by unfold w_X11_days; omega))]; exact li.1, zt363.1.1.1.1⟩
          have dli365 : g364 176 0 ≤ 2000 := li365.1
          have e367 : jw32 (x3 + 1) = x3 + 1 := j32e (by omega) (by omega)
          refine st_xi (N := E.2.2.2.2.1) (by decide) (by decide) rfl (show 0 ≤ jw32 (x3 + 1) by omega) (show jw32 (x3 + 1) < ((E.2.2.2.2.1 : Nat) : Int) by omega) (fun v368 ev368 => ?_)
          replace ev368 : v368 = jxv E (-2) (jw32 (x3 + 1)) := ev368
          have e369 : g364 176 0 = g 176 0 := ft363 176 0 (by unfold w_X11_days; omega)
          refine st_cv (na := 1) (st := [.inl v368, .inr (.inr (.inl 176))]) jo_176 rfl rfl rfl (c_X12_days v368 g364 (by omega)) rfl ?_
          rintro _ _ g371 ⟨rfl, ft370, t370, rfl, ht370, zt370⟩ kt370
          replace kt370 : -2147483648 ≤ t370 ∧ t370 ≤ 2147483647 := kt370
          replace zt370 : ((g371 176 0 ≤ 2000 ∧ P_X12_days v368 g364 g371) ∧ (((v368 < 1 ∨ 2000 - g364 176 0 < v368) ∧ ∀ i k : Int, ¬ i = 219 → g371 i k = g364 i k) ∨ (1 ≤ v368 ∧ v368 ≤ 2000 - g364 176 0 ∧ g371 = jit jmDy (v368).toNat g364))) ∧ (jG9 g364 → jG9 g371) := zt370
          have li372 : jLI g371 := ⟨zt370.1.1.1, jLG_fr (ft370 0 0 (by unfold w_X12_days; omega)) (fun t => ft370 87 t (by unfold w_X12_days; omega)) li365.2⟩
          have dli372 : g371 176 0 ≤ 2000 := li372.1
          have zd374 := zt370.1.1.2
          have zd375 := zt370.1.2
          rw [show v368 = v362 by omega] at zd374 zd375
          have sm373 : jI g371 := pr_days ft363 ft370 zt363.1.1.1.2 zt363.1.1.2 zd374 zd375 sm hbd9 zt363.1.2 zt370.2 zt363.2
          show jGo E l 179 0 229 _ 1410 [.inr (.inr (.inl (-2))), .inr (.inr (.inl 0)), .inr (.inr (.inl 176)), .inl x3] [] 229 jr0 g371
          refine jGo_blk qL_law_1410 ?_
          have e376 : jw32 (x3 + 6) = x3 + 6 := j32e (by omega) (by omega)
          show jGo E l 179 0 229 _ 18 [.inr (.inr (.inl (-2))), .inr (.inr (.inl 0)), .inr (.inr (.inl 176)), .inl (jw32 (x3 + 6))] [] 229 jr0 g371
          exact ih (jw32 (x3 + 6)) g371 (by omega) li372 sm373 (by omega)
        · replace c6 : jand v4 63 = 17 := c6
          show jGo E l 179 0 229 _ 843 [.inr (.inr (.inl (-2))), .inr (.inr (.inl 0)), .inr (.inr (.inl 176)), .inl x3] [] 229 jr0 g
          refine jGo_blk qL_law_843 ?_
          have e377 : jw32 (x3 + 1) = x3 + 1 := j32e (by omega) (by omega)
          refine st_xi (N := E.2.2.2.2.1) (by decide) (by decide) rfl (show 0 ≤ jw32 (x3 + 1) by omega) (show jw32 (x3 + 1) < ((E.2.2.2.2.1 : Nat) : Int) by omega) (fun v378 ev378 => ?_)
          replace ev378 : v378 = jxv E (-2) (jw32 (x3 + 1)) := ev378
          refine st_cv (na := 1) (st := [.inl v378, .inr (.inr (.inl 0))]) jo_0 rfl rfl rfl (c_X11_breakUp v378 g) rfl ?_
          rintro _ _ g380 ⟨rfl, ft379, t379, rfl, ht379, zt379⟩ kt379
          replace kt379 : -2147483648 ≤ t379 ∧ t379 ≤ 2147483647 := kt379
          replace zt379 : (P_X11_breakUp v378 t379 g g380) ∧ jFg (¬ (0 ≤ v378 ∧ v378 < g 29 4 ∧ g (36 + 3 * v378) 3 = 2)) g g380 := zt379
          have li381 : jLI g380 := jLI_fr (ft379 176 0 (by unfold w_X11_breakUp; omega)) (ft379 0 0 (by unfold w_X11_breakUp; omega)) (fun t => ft379 87 t (by unfold w_X11_breakUp; omega)) li
          have dli381 : g380 176 0 ≤ 2000 := li381.1
          have e383 : jw32 (x3 + 1) = x3 + 1 := j32e (by omega) (by omega)
          refine st_xi (N := E.2.2.2.2.1) (by decide) (by decide) rfl (show 0 ≤ jw32 (x3 + 1) by omega) (show jw32 (x3 + 1) < ((E.2.2.2.2.1 : Nat) : Int) by omega) (fun v384 ev384 => ?_)
          replace ev384 : v384 = jxv E (-2) (jw32 (x3 + 1)) := ev384
          refine st_cv (na := 1) (st := [.inl v384, .inr (.inr (.inl 176))]) jo_176 rfl rfl rfl (c_X12_breakUp v384 g380) rfl ?_
          rintro _ _ g386 ⟨rfl, ft385, t385, rfl, ht385, zt385⟩ kt385
          replace kt385 : -2147483648 ≤ t385 ∧ t385 ≤ 2147483647 := kt385
          replace zt385 : (P_X12_breakUp v384 t385 g380 g386) ∧ jRx (¬ (0 ≤ v384 ∧ v384 < g380 176 14 ∧ g380 192 v384 = 2)) g380 g386 := zt385
          have li387 : jLI g386 := jLI_fr (ft385 176 0 (by unfold w_X12_breakUp; omega)) (ft385 0 0 (by unfold w_X12_breakUp; omega)) (fun t => ft385 87 t (by unfold w_X12_breakUp; omega)) li381
          have dli387 : g386 176 0 ≤ 2000 := li387.1
          have za389 := zt385.1
          have zb390 := zt385.2
          rw [show v384 = v378 by omega] at za389 zb390
          have qe391 := pr_breakUp ft379 ft385 zt379.1 za389 sm ((jbf_10_4 jo_29 _).1 (hbd9 29 4)).2 (fun exy => jAh_m zt379.2 (fun b9 => zb390 (jI_bk sm ft379 ((jbf_10_4 jo_29 _).1 (hbd9 29 4)).2 b9)) (fun k9 => ft385 111 k9 (by unfold w_X12_breakUp; omega)) (fun i9 k9 q9 => by unfold jwh3 at q9; exact ft385 i9 k9 (by unfold w_X12_breakUp; omega)) (jI_ah sm))
          have eqe391 := qe391.1
          have sm388 : jI g386 := qe391.2
          clear qe391 za389
          show jGo E l 179 0 229 _ 1410 [.inr (.inr (.inl (-2))), .inr (.inr (.inl 0)), .inr (.inr (.inl 176)), .inl x3] [] 229 jr0 g386
          refine jGo_blk qL_law_1410 ?_
          have e392 : jw32 (x3 + 6) = x3 + 6 := j32e (by omega) (by omega)
          show jGo E l 179 0 229 _ 18 [.inr (.inr (.inl (-2))), .inr (.inr (.inl 0)), .inr (.inr (.inl 176)), .inl (jw32 (x3 + 6))] [] 229 jr0 g386
          exact ih (jw32 (x3 + 6)) g386 (by omega) li387 sm388 (by omega)
        · replace c6 : jand v4 63 = 18 := c6
          show jGo E l 179 0 229 _ 866 [.inr (.inr (.inl (-2))), .inr (.inr (.inl 0)), .inr (.inr (.inl 176)), .inl x3] [] 229 jr0 g
          refine jGo_blk qL_law_866 ?_
          have e393 : jw32 (x3 + 1) = x3 + 1 := j32e (by omega) (by omega)
          refine st_xi (N := E.2.2.2.2.1) (by decide) (by decide) rfl (show 0 ≤ jw32 (x3 + 1) by omega) (show jw32 (x3 + 1) < ((E.2.2.2.2.1 : Nat) : Int) by omega) (fun v394 ev394 => ?_)
          replace ev394 : v394 = jxv E (-2) (jw32 (x3 + 1)) := ev394
          have e395 : jw32 (x3 + 2) = x3 + 2 := j32e (by omega) (by omega)
          refine st_xi (N := E.2.2.2.2.1) (by decide) (by decide) rfl (show 0 ≤ jw32 (x3 + 2) by omega) (show jw32 (x3 + 2) < ((E.2.2.2.2.1 : Nat) : Int) by omega) (fun v396 ev396 => ?_)
          replace ev396 : v396 = jxv E (-2) (jw32 (x3 + 2)) := ev396
          refine st_cv (na := 2) (st := [.inl v396, .inl v394, .inr (.inr (.inl 0))]) jo_0 rfl rfl rfl (c_X11_growth v394 v396 g) rfl ?_
          rintro _ _ g398 ⟨rfl, ft397, t397, rfl, ht397, zt397⟩ kt397
          replace kt397 : -2147483648 ≤ t397 ∧ t397 ≤ 2147483647 := kt397
          replace ht397 : -7 ≤ t397 ∧ t397 ≤ 9 := ht397
          replace zt397 : P_X11_growth v394 v396 t397 g g398 := zt397
          have li399 : jLI g398 := jLI_fr (ft397 176 0 (by unfold w_X11_growth; omega)) (ft397 0 0 (by unfold w_X11_growth; omega)) (fun t => ft397 87 t (by unfold w_X11_growth; omega)) li
          have dli399 : g398 176 0 ≤ 2000 := li399.1
          have e401 : jw32 (x3 + 1) = x3 + 1 := j32e (by omega) (by omega)
          refine st_xi (N := E.2.2.2.2.1) (by decide) (by decide) rfl (show 0 ≤ jw32 (x3 + 1) by omega) (show jw32 (x3 + 1) < ((E.2.2.2.2.1 : Nat) : Int) by omega) (fun v402 ev402 => ?_)
          replace ev402 : v402 = jxv E (-2) (jw32 (x3 + 1)) := ev402
          have e403 : jw32 (x3 + 2) = x3 + 2 := j32e (by omega) (by omega)
          refine st_xi (N := E.2.2.2.2.1) (by decide) (by decide) rfl (show 0 ≤ jw32 (x3 + 2) by omega) (show jw32 (x3 + 2) < ((E.2.2.2.2.1 : Nat) : Int) by omega) (fun v404 ev404 => ?_)
          replace ev404 : v404 = jxv E (-2) (jw32 (x3 + 2)) := ev404
          refine st_cv (na := 2) (st := [.inl v404, .inl v402, .inr (.inr (.inl 176))]) jo_176 rfl rfl rfl (c_X12_growth v402 v404 g398) rfl ?_
          rintro _ _ g406 ⟨rfl, ft405, t405, rfl, ht405, zt405⟩ kt405
          replace kt405 : -2147483648 ≤ t405 ∧ t405 ≤ 2147483647 := kt405
          replace ht405 : -7 ≤ t405 ∧ t405 ≤ 9 := ht405
          replace zt405 : P_X12_growth v402 v404 t405 g398 g406 := zt405
          have li407 : jLI g406 := jLI_fr (ft405 176 0 (by unfold w_X12_growth; omega)) (ft405 0 0 (by unfold w_X12_growth; omega)) (fun t => ft405 87 t (by unfold w_X12_growth; omega)) li399
          have dli407 : g406 176 0 ≤ 2000 := li407.1
          rw [show v402 = v394 by omega, show v404 = v396 by omega] at zt405
          have qe409 := pr_growth ft397 ft405 zt397 zt405 sm
          have eqe409 := qe409.1
          have sm408 : jI g406 := qe409.2
          clear qe409 zt405
          show jGo E l 179 0 229 _ 1410 [.inr (.inr (.inl (-2))), .inr (.inr (.inl 0)), .inr (.inr (.inl 176)), .inl x3] [] 229 jr0 g406
          refine jGo_blk qL_law_1410 ?_
          have e410 : jw32 (x3 + 6) = x3 + 6 := j32e (by omega) (by omega)
          show jGo E l 179 0 229 _ 18 [.inr (.inr (.inl (-2))), .inr (.inr (.inl 0)), .inr (.inr (.inl 176)), .inl (jw32 (x3 + 6))] [] 229 jr0 g406
          exact ih (jw32 (x3 + 6)) g406 (by omega) li407 sm408 (by omega)
        · replace c6 : jand v4 63 = 19 := c6
          show jGo E l 179 0 229 _ 899 [.inr (.inr (.inl (-2))), .inr (.inr (.inl 0)), .inr (.inr (.inl 176)), .inl x3] [] 229 jr0 g
          refine jGo_blk qL_law_899 ?_
          have e411 : jw32 (x3 + 1) = x3 + 1 := j32e (by omega) (by omega)
          refine st_xi (N := E.2.2.2.2.1) (by decide) (by decide) rfl (show 0 ≤ jw32 (x3 + 1) by omega) (show jw32 (x3 + 1) < ((E.2.2.2.2.1 : Nat) : Int) by omega) (fun v412 ev412 => ?_)
          replace ev412 : v412 = jxv E (-2) (jw32 (x3 + 1)) := ev412
          have e413 : jw32 (x3 + 2) = x3 + 2 := j32e (by omega) (by omega)
          refine st_xi (N := E.2.2.2.2.1) (by decide) (by decide) rfl (show 0 ≤ jw32 (x3 + 2) by omega) (show jw32 (x3 + 2) < ((E.2.2.2.2.1 : Nat) : Int) by omega) (fun v414 ev414 => ?_)
          replace ev414 : v414 = jxv E (-2) (jw32 (x3 + 2)) := ev414
          have e415 : jw32 (x3 + 3) = x3 + 3 := j32e (by omega) (by omega)
          refine st_xi (N := E.2.2.2.2.1) (by decide) (by decide) rfl (show 0 ≤ jw32 (x3 + 3) by omega) (show jw32 (x3 + 3) < ((E.2.2.2.2.1 : Nat) : Int) by omega) (fun v416 ev416 => ?_)
          replace ev416 : v416 = jxv E (-2) (jw32 (x3 + 3)) := ev416
          refine st_cv (na := 3) (st := [.inl v416, .inl v414, .inl v412, .inr (.inr (.inl 0))]) jo_0 rfl rfl rfl (c_X11_tree v412 v414 v416 g) rfl ?_
          rintro _ _ g418 ⟨rfl, ft417, t417, rfl, ht417, zt417⟩ kt417
          replace kt417 : -2147483648 ≤ t417 ∧ t417 ≤ 2147483647 := kt417
          replace ht417 : -7 ≤ t417 ∧ t417 ≤ 39 := ht417
          replace zt417 : (∀ t : Int, g418 87 t = g 87 t ∨ (1 ≤ g418 87 t ∧ g418 87 t ≤ 500)) ∧ P_X11_tree v412 v414 v416 t417 g g418 := zt417
          have li419 : jLI g418 := ⟨by rw [(ft417 176 0 (by unfold w_X11_tree; omega))]; exact li.1, jLG_tree (ft417 0 0 (by unfold w_X11_tree; omega)) zt417.1 li.2⟩
          have dli419 : g418 176 0 ≤ 2000 := li419.1
          have e421 : jw32 (x3 + 1) = x3 + 1 := j32e (by omega) (by omega)
          refine st_xi (N := E.2.2.2.2.1) (by decide) (by decide) rfl (show 0 ≤ jw32 (x3 + 1) by omega) (show jw32 (x3 + 1) < ((E.2.2.2.2.1 : Nat) : Int) by omega) (fun v422 ev422 => ?_)
          replace ev422 : v422 = jxv E (-2) (jw32 (x3 + 1)) := ev422
          have e423 : jw32 (x3 + 2) = x3 + 2 := j32e (by omega) (by omega)
          refine st_xi (N := E.2.2.2.2.1) (by decide) (by decide) rfl (show 0 ≤ jw32 (x3 + 2) by omega) (show jw32 (x3 + 2) < ((E.2.2.2.2.1 : Nat) : Int) by omega) (fun v424 ev424 => ?_)
          replace ev424 : v424 = jxv E (-2) (jw32 (x3 + 2)) := ev424
          have e425 : jw32 (x3 + 3) = x3 + 3 := j32e (by omega) (by omega)
          refine st_xi (N := E.2.2.2.2.1) (by decide) (by decide) rfl (show 0 ≤ jw32 (x3 + 3) by omega) (show jw32 (x3 + 3) < ((E.2.2.2.2.1 : Nat) : Int) by omega) (fun v426 ev426 => ?_)
          replace ev426 : v426 = jxv E (-2) (jw32 (x3 + 3)) := ev426
          refine st_cv (na := 3) (st := [.inl v426, .inl v424, .inl v422, .inr (.inr (.inl 176))]) jo_176 rfl rfl rfl (c_X12_tree v422 v424 v426 g418) rfl ?_
          rintro _ _ g428 ⟨rfl, ft427, t427, rfl, ht427, zt427⟩ kt427
          replace kt427 : -2147483648 ≤ t427 ∧ t427 ≤ 2147483647 := kt427
          replace ht427 : -7 ≤ t427 ∧ t427 ≤ 39 := ht427
          replace zt427 : P_X12_tree v422 v424 v426 t427 g418 g428 := zt427
          have li429 : jLI g428 := jLI_fr (ft427 176 0 (by unfold w_X12_tree; omega)) (ft427 0 0 (by unfold w_X12_tree; omega)) (fun t => ft427 87 t (by unfold w_X12_tree; omega)) li419
          have dli429 : g428 176 0 ≤ 2000 := li429.1
          rw [show v422 = v412 by omega, show v424 = v414 by omega, show v426 = v416 by omega] at zt427
          have qe431 := pr_tree ft417 ft427 zt417.2 zt427 sm dd0 ((jbf_3_0 jo_84 _).1 (hbd9 84 0)).1
          have eqe431 := qe431.1
          have sm430 : jI g428 := qe431.2
          clear qe431 zt427
          show jGo E l 179 0 229 _ 1410 [.inr (.inr (.inl (-2))), .inr (.inr (.inl 0)), .inr (.inr (.inl 176)), .inl x3] [] 229 jr0 g428
          refine jGo_blk qL_law_1410 ?_
          have e432 : jw32 (x3 + 6) = x3 + 6 := j32e (by omega) (by omega)
          show jGo E l 179 0 229 _ 18 [.inr (.inr (.inl (-2))), .inr (.inr (.inl 0)), .inr (.inr (.inl 176)), .inl (jw32 (x3 + 6))] [] 229 jr0 g428
          exact ih (jw32 (x3 + 6)) g428 (by omega) li429 sm430 (by omega)
        · replace c6 : jand v4 63 = 20 := c6
          show jGo E l 179 0 229 _ 942 [.inr (.inr (.inl (-2))), .inr (.inr (.inl 0)), .inr (.inr (.inl 176)), .inl x3] [] 229 jr0 g
          refine jGo_blk qL_law_942 ?_
          have e433 : jw32 (x3 + 1) = x3 + 1 := j32e (by omega) (by omega)
          refine st_xi (N := E.2.2.2.2.1) (by decide) (by decide) rfl (show 0 ≤ jw32 (x3 + 1) by omega) (show jw32 (x3 + 1) < ((E.2.2.2.2.1 : Nat) : Int) by omega) (fun v434 ev434 => ?_)
          replace ev434 : v434 = jxv E (-2) (jw32 (x3 + 1)) := ev434
          have e435 : jw32 (x3 + 2) = x3 + 2 := j32e (by omega) (by omega)
          refine st_xi (N := E.2.2.2.2.1) (by decide) (by decide) rfl (show 0 ≤ jw32 (x3 + 2) by omega) (show jw32 (x3 + 2) < ((E.2.2.2.2.1 : Nat) : Int) by omega) (fun v436 ev436 => ?_)
          replace ev436 : v436 = jxv E (-2) (jw32 (x3 + 2)) := ev436
          have e437 : jw32 (x3 + 3) = x3 + 3 := j32e (by omega) (by omega)
          refine st_xi (N := E.2.2.2.2.1) (by decide) (by decide) rfl (show 0 ≤ jw32 (x3 + 3) by omega) (show jw32 (x3 + 3) < ((E.2.2.2.2.1 : Nat) : Int) by omega) (fun v438 ev438 => ?_)
          replace ev438 : v438 = jxv E (-2) (jw32 (x3 + 3)) := ev438
          have e439 : jw32 (x3 + 4) = x3 + 4 := j32e (by omega) (by omega)
          refine st_xi (N := E.2.2.2.2.1) (by decide) (by decide) rfl (show 0 ≤ jw32 (x3 + 4) by omega) (show jw32 (x3 + 4) < ((E.2.2.2.2.1 : Nat) : Int) by omega) (fun v440 ev440 => ?_)
          replace ev440 : v440 = jxv E (-2) (jw32 (x3 + 4)) := ev440
          have e441 : jw32 (x3 + 5) = x3 + 5 := j32e (by omega) (by omega)
          refine st_xi (N := E.2.2.2.2.1) (by decide) (by decide) rfl (show 0 ≤ jw32 (x3 + 5) by omega) (show jw32 (x3 + 5) < ((E.2.2.2.2.1 : Nat) : Int) by omega) (fun v442 ev442 => ?_)
          replace ev442 : v442 = jxv E (-2) (jw32 (x3 + 5)) := ev442
          refine st_cv (na := 5) (st := [.inl v442, .inl v440, .inl v438, .inl v436, .inl v434, .inr (.inr (.inl 0))]) jo_0 rfl rfl rfl (c_X11_part v434 v436 v438 v440 v442 g) rfl ?_
          rintro _ _ g444 ⟨rfl, ft443, t443, rfl, ht443, zt443⟩ kt443
          replace kt443 : -2147483648 ≤ t443 ∧ t443 ≤ 2147483647 := kt443
          replace ht443 : -7 ≤ t443 ∧ t443 ≤ 5 := ht443
          replace zt443 : P_X11_part v434 v436 v438 v440 v442 t443 g g444 := zt443
          have li445 : jLI g444 := jLI_fr (ft443 176 0 (by unfold w_X11_part; omega)) (ft443 0 0 (by unfold w_X11_part; omega)) (fun t => ft443 87 t (by unfold w_X11_part; omega)) li
          have dli445 : g444 176 0 ≤ 2000 := li445.1
          have e447 : jw32 (x3 + 1) = x3 + 1 := j32e (by omega) (by omega)
          refine st_xi (N := E.2.2.2.2.1) (by decide) (by decide) rfl (show 0 ≤ jw32 (x3 + 1) by omega) (show jw32 (x3 + 1) < ((E.2.2.2.2.1 : Nat) : Int) by omega) (fun v448 ev448 => ?_)
          replace ev448 : v448 = jxv E (-2) (jw32 (x3 + 1)) := ev448
          have e449 : jw32 (x3 + 2) = x3 + 2 := j32e (by omega) (by omega)
          refine st_xi (N := E.2.2.2.2.1) (by decide) (by decide) rfl (show 0 ≤ jw32 (x3 + 2) by omega) (show jw32 (x3 + 2) < ((E.2.2.2.2.1 : Nat) : Int) by omega) (fun v450 ev450 => ?_)
          replace ev450 : v450 = jxv E (-2) (jw32 (x3 + 2)) := ev450
          have e451 : jw32 (x3 + 3) = x3 + 3 := j32e (by omega) (by omega)
          refine st_xi (N := E.2.2.2.2.1) (by decide) (by decide) rfl (show 0 ≤ jw32 (x3 + 3) by omega) (show jw32 (x3 + 3) < ((E.2.2.2.2.1 : Nat) : Int) by omega) (fun v452 ev452 => ?_)
          replace ev452 : v452 = jxv E (-2) (jw32 (x3 + 3)) := ev452
          have e453 : jw32 (x3 + 4) = x3 + 4 := j32e (by omega) (by omega)
          refine st_xi (N := E.2.2.2.2.1) (by decide) (by decide) rfl (show 0 ≤ jw32 (x3 + 4) by omega) (show jw32 (x3 + 4) < ((E.2.2.2.2.1 : Nat) : Int) by omega) (fun v454 ev454 => ?_)
          replace ev454 : v454 = jxv E (-2) (jw32 (x3 + 4)) := ev454
          have e455 : jw32 (x3 + 5) = x3 + 5 := j32e (by omega) (by omega)
          refine st_xi (N := E.2.2.2.2.1) (by decide) (by decide) rfl (show 0 ≤ jw32 (x3 + 5) by omega) (show jw32 (x3 + 5) < ((E.2.2.2.2.1 : Nat) : Int) by omega) (fun v456 ev456 => ?_)
          replace ev456 : v456 = jxv E (-2) (jw32 (x3 + 5)) := ev456
          refine st_cv (na := 5) (st := [.inl v456, .inl v454, .inl v452, .inl v450, .inl v448, .inr (.inr (.inl 176))]) jo_176 rfl rfl rfl (c_X12_part v448 v450 v452 v454 v456 g444) rfl ?_
          rintro _ _ g458 ⟨rfl, ft457, t457, rfl, ht457, zt457⟩ kt457
          replace kt457 : -2147483648 ≤ t457 ∧ t457 ≤ 2147483647 := kt457
          replace ht457 : -7 ≤ t457 ∧ t457 ≤ 5 := ht457
          replace zt457 : P_X12_part v448 v450 v452 v454 v456 t457 g444 g458 := zt457
          have li459 : jLI g458 := jLI_fr (ft457 176 0 (by unfold w_X12_part; omega)) (ft457 0 0 (by unfold w_X12_part; omega)) (fun t => ft457 87 t (by unfold w_X12_part; omega)) li445
          have dli459 : g458 176 0 ≤ 2000 := li459.1
          rw [show v448 = v434 by omega, show v450 = v436 by omega, show v452 = v438 by omega, show v454 = v440 by omega, show v456 = v442 by omega] at zt457
          have qe461 := pr_part ft443 ft457 zt443 zt457 sm (fun k => (jba_92 k _).1 (hbd9 92 k))
          have eqe461 := qe461.1
          have sm460 : jI g458 := qe461.2
          clear qe461 zt457
          show jGo E l 179 0 229 _ 1410 [.inr (.inr (.inl (-2))), .inr (.inr (.inl 0)), .inr (.inr (.inl 176)), .inl x3] [] 229 jr0 g458
          refine jGo_blk qL_law_1410 ?_
          have e462 : jw32 (x3 + 6) = x3 + 6 := j32e (by omega) (by omega)
          show jGo E l 179 0 229 _ 18 [.inr (.inr (.inl (-2))), .inr (.inr (.inl 0)), .inr (.inr (.inl 176)), .inl (jw32 (x3 + 6))] [] 229 jr0 g458
          exact ih (jw32 (x3 + 6)) g458 (by omega) li459 sm460 (by omega)
        · replace c6 : jand v4 63 = 21 := c6
          show jGo E l 179 0 229 _ 1005 [.inr (.inr (.inl (-2))), .inr (.inr (.inl 0)), .inr (.inr (.inl 176)), .inl x3] [] 229 jr0 g
          refine jGo_blk qL_law_1005 ?_
          have e463 : jw32 (x3 + 1) = x3 + 1 := j32e (by omega) (by omega)
          refine st_xi (N := E.2.2.2.2.1) (by decide) (by decide) rfl (show 0 ≤ jw32 (x3 + 1) by omega) (show jw32 (x3 + 1) < ((E.2.2.2.2.1 : Nat) : Int) by omega) (fun v464 ev464 => ?_)
          replace ev464 : v464 = jxv E (-2) (jw32 (x3 + 1)) := ev464
          have e465 : jw32 (x3 + 2) = x3 + 2 := j32e (by omega) (by omega)
          refine st_xi (N := E.2.2.2.2.1) (by decide) (by decide) rfl (show 0 ≤ jw32 (x3 + 2) by omega) (show jw32 (x3 + 2) < ((E.2.2.2.2.1 : Nat) : Int) by omega) (fun v466 ev466 => ?_)
          replace ev466 : v466 = jxv E (-2) (jw32 (x3 + 2)) := ev466
          refine st_cv (na := 2) (st := [.inl v466, .inl v464, .inr (.inr (.inl 0))]) jo_0 rfl rfl rfl (c_X11_match v464 v466 g (jLG_ok li.2)) rfl ?_
          rintro _ _ g468 ⟨rfl, ft467, t467, rfl, ht467, zt467⟩ kt467
          replace kt467 : -2147483648 ≤ t467 ∧ t467 ≤ 2147483647 := kt467
          replace zt467 : P_X11_match v464 v466 t467 g := zt467
          have li469 : jLI g468 := jLI_fr (ft467 176 0 (by unfold w_X11_match; omega)) (ft467 0 0 (by unfold w_X11_match; omega)) (fun t => ft467 87 t (by unfold w_X11_match; omega)) li
          have dli469 : g468 176 0 ≤ 2000 := li469.1
          have e471 : jw32 (x3 + 1) = x3 + 1 := j32e (by omega) (by omega)
          refine st_xi (N := E.2.2.2.2.1) (by decide) (by decide) rfl (show 0 ≤ jw32 (x3 + 1) by omega) (show jw32 (x3 + 1) < ((E.2.2.2.2.1 : Nat) : Int) by omega) (fun v472 ev472 => ?_)
          replace ev472 : v472 = jxv E (-2) (jw32 (x3 + 1)) := ev472
          have e473 : jw32 (x3 + 2) = x3 + 2 := j32e (by omega) (by omega)
          refine st_xi (N := E.2.2.2.2.1) (by decide) (by decide) rfl (show 0 ≤ jw32 (x3 + 2) by omega) (show jw32 (x3 + 2) < ((E.2.2.2.2.1 : Nat) : Int) by omega) (fun v474 ev474 => ?_)
          replace ev474 : v474 = jxv E (-2) (jw32 (x3 + 2)) := ev474
          refine st_cv (na := 2) (st := [.inl v474, .inl v472, .inr (.inr (.inl 176))]) jo_176 rfl rfl rfl (c_X12_match v472 v474 g468 (jM7_fr (fun t => ft467 207 t (by unfold w_X11_match; omega)) (jI_7 sm dli))) rfl ?_
          rintro _ _ g476 ⟨rfl, ft475, t475, rfl, ht475, zt475⟩ kt475
          replace kt475 : -2147483648 ≤ t475 ∧ t475 ≤ 2147483647 := kt475
          replace zt475 : P_X12_match v472 v474 t475 g468 := zt475
          have li477 : jLI g476 := jLI_fr (ft475 176 0 (by unfold w_X12_match; omega)) (ft475 0 0 (by unfold w_X12_match; omega)) (fun t => ft475 87 t (by unfold w_X12_match; omega)) li469
          have dli477 : g476 176 0 ≤ 2000 := li477.1
          rw [show v472 = v464 by omega, show v474 = v466 by omega] at zt475
          have qe479 := pr_match ft467 ft475 zt467 zt475 sm ((jbf_3_0 jo_84 _).1 (hbd9 84 0)).2 dli
          have eqe479 := qe479.1
          have sm478 : jI g476 := qe479.2
          clear qe479 zt475
          show jGo E l 179 0 229 _ 1410 [.inr (.inr (.inl (-2))), .inr (.inr (.inl 0)), .inr (.inr (.inl 176)), .inl x3] [] 229 jr0 g476
          refine jGo_blk qL_law_1410 ?_
          have e480 : jw32 (x3 + 6) = x3 + 6 := j32e (by omega) (by omega)
          show jGo E l 179 0 229 _ 18 [.inr (.inr (.inl (-2))), .inr (.inr (.inl 0)), .inr (.inr (.inl 176)), .inl (jw32 (x3 + 6))] [] 229 jr0 g476
          exact ih (jw32 (x3 + 6)) g476 (by omega) li477 sm478 (by omega)
        · replace c6 : jand v4 63 = 22 := c6
          show jGo E l 179 0 229 _ 1038 [.inr (.inr (.inl (-2))), .inr (.inr (.inl 0)), .inr (.inr (.inl 176)), .inl x3] [] 229 jr0 g
          refine jGo_blk qL_law_1038 ?_
          have e481 : jw32 (x3 + 1) = x3 + 1 := j32e (by omega) (by omega)
          refine st_xi (N := E.2.2.2.2.1) (by decide) (by decide) rfl (show 0 ≤ jw32 (x3 + 1) by omega) (show jw32 (x3 + 1) < ((E.2.2.2.2.1 : Nat) : Int) by omega) (fun v482 ev482 => ?_)
          replace ev482 : v482 = jxv E (-2) (jw32 (x3 + 1)) := ev482
          refine st_cv (na := 1) (st := [.inl v482, .inr (.inr (.inl 0))]) jo_0 rfl rfl rfl (c_X11_fell v482 g (jLG_ok li.2)) rfl ?_
          rintro _ _ g484 ⟨rfl, ft483, t483, rfl, ht483, zt483⟩ kt483
          replace kt483 : -2147483648 ≤ t483 ∧ t483 ≤ 2147483647 := kt483
          replace zt483 : (∀ i k : Int, 36 ≤ i → i ≤ 83 → ¬ k = 10 → g484 i k = g i k) ∧ P_X11_fell v482 t483 g g484 := zt483
          have li485 : jLI g484 := jLI_fr (ft483 176 0 (by unfold w_X11_fell; omega)) (ft483 0 0 (by unfold w_X11_fell; omega)) (fun t => ft483 87 t (by unfold w_X11_fell; omega)) li
          have dli485 : g484 176 0 ≤ 2000 := li485.1
          have e487 : jw32 (x3 + 1) = x3 + 1 := j32e (by omega) (by omega)
          refine st_xi (N := E.2.2.2.2.1) (by decide) (by decide) rfl (show 0 ≤ jw32 (x3 + 1) by omega) (show jw32 (x3 + 1) < ((E.2.2.2.2.1 : Nat) : Int) by omega) (fun v488 ev488 => ?_)
          replace ev488 : v488 = jxv E (-2) (jw32 (x3 + 1)) := ev488
          refine st_cv (na := 1) (st := [.inl v488, .inr (.inr (.inl 176))]) jo_176 rfl rfl rfl (c_X12_fell v488 g484 (jM7_fr (fun t => ft483 207 t (by unfold w_X11_fell; omega)) (jI_7 sm dli))) rfl ?_
          rintro _ _ g490 ⟨rfl, ft489, t489, rfl, ht489, zt489⟩ kt489
          replace kt489 : -2147483648 ≤ t489 ∧ t489 ≤ 2147483647 := kt489
          replace zt489 : P_X12_fell v488 t489 g484 g490 := zt489
          have li491 : jLI g490 := jLI_fr (ft489 176 0 (by unfold w_X12_fell; omega)) (ft489 0 0 (by unfold w_X12_fell; omega)) (fun t => ft489 87 t (by unfold w_X12_fell; omega)) li485
          have dli491 : g490 176 0 ≤ 2000 := li491.1
          rw [show v488 = v482 by omega] at zt489
          have qe493 := pr_fell ft483 ft489 zt483.1 zt483.2 zt489 sm ((jbf_3_0 jo_84 _).1 (hbd9 84 0)).2 dli (fun k => ((jba_192 k _).1 (hbd9 192 k)).1) ((jbf_10_4 jo_29 _).1 (hbd9 29 4)).2
          have eqe493 := qe493.1
          have sm492 : jI g490 := qe493.2
          clear qe493 zt489
          show jGo E l 179 0 229 _ 1410 [.inr (.inr (.inl (-2))), .inr (.inr (.inl 0)), .inr (.inr (.inl 176)), .inl x3] [] 229 jr0 g490
          refine jGo_blk qL_law_1410 ?_
          have e494 : jw32 (x3 + 6) = x3 + 6 := j32e (by omega) (by omega)
          show jGo E l 179 0 229 _ 18 [.inr (.inr (.inl (-2))), .inr (.inr (.inl 0)), .inr (.inr (.inl 176)), .inl (jw32 (x3 + 6))] [] 229 jr0 g490
          exact ih (jw32 (x3 + 6)) g490 (by omega) li491 sm492 (by omega)
        · replace c6 : jand v4 63 = 23 := c6
          show jGo E l 179 0 229 _ 1061 [.inr (.inr (.inl (-2))), .inr (.inr (.inl 0)), .inr (.inr (.inl 176)), .inl x3] [] 229 jr0 g
          refine jGo_blk qL_law_1061 ?_
          have e495 : jw32 (x3 + 1) = x3 + 1 := j32e (by omega) (by omega)
          refine st_xi (N := E.2.2.2.2.1) (by decide) (by decide) rfl (show 0 ≤ jw32 (x3 + 1) by omega) (show jw32 (x3 + 1) < ((E.2.2.2.2.1 : Nat) : Int) by omega) (fun v496 ev496 => ?_)
          replace ev496 : v496 = jxv E (-2) (jw32 (x3 + 1)) := ev496
          have e497 : jw32 (x3 + 2) = x3 + 2 := j32e (by omega) (by omega)
          refine st_xi (N := E.2.2.2.2.1) (by decide) (by decide) rfl (show 0 ≤ jw32 (x3 + 2) by omega) (show jw32 (x3 + 2) < ((E.2.2.2.2.1 : Nat) : Int) by omega) (fun v498 ev498 => ?_)
          replace ev498 : v498 = jxv E (-2) (jw32 (x3 + 2)) := ev498
          refine st_cv (na := 2) (st := [.inl v498, .inl v496, .inr (.inr (.inl 0))]) jo_0 rfl rfl rfl (c_X11_treeFor v496 v498 g) rfl ?_
          rintro _ _ g500 ⟨rfl, ft499, t499, rfl, ht499, zt499⟩ kt499
          replace kt499 : -2147483648 ≤ t499 ∧ t499 ≤ 2147483647 := kt499
          replace ht499 : -9 ≤ t499 ∧ t499 ≤ 39 := ht499
          replace zt499 : P_X11_treeFor v496 v498 t499 g := zt499
          have li501 : jLI g500 := jLI_fr (ft499 176 0 (by unfold w_X11_treeFor; omega)) (ft499 0 0 (by unfold w_X11_treeFor; omega)) (fun t => ft499 87 t (by unfold w_X11_treeFor; omega)) li
          have dli501 : g500 176 0 ≤ 2000 := li501.1
          have e503 : jw32 (x3 + 1) = x3 + 1 := j32e (by omega) (by omega)
          refine st_xi (N := E.2.2.2.2.1) (by decide) (by decide) rfl (show 0 ≤ jw32 (x3 + 1) by omega) (show jw32 (x3 + 1) < ((E.2.2.2.2.1 : Nat) : Int) by omega) (fun v504 ev504 => ?_)
          replace ev504 : v504 = jxv E (-2) (jw32 (x3 + 1)) := ev504
          have e505 : jw32 (x3 + 2) = x3 + 2 := j32e (by omega) (by omega)
          refine st_xi (N := E.2.2.2.2.1) (by decide) (by decide) rfl (show 0 ≤ jw32 (x3 + 2) by omega) (show jw32 (x3 + 2) < ((E.2.2.2.2.1 : Nat) : Int) by omega) (fun v506 ev506 => ?_)
          replace ev506 : v506 = jxv E (-2) (jw32 (x3 + 2)) := ev506
          refine st_cv (na := 2) (st := [.inl v506, .inl v504, .inr (.inr (.inl 176))]) jo_176 rfl rfl rfl (c_X12_treeFor v504 v506 g500) rfl ?_
          rintro _ _ g508 ⟨rfl, ft507, t507, rfl, ht507, zt507⟩ kt507
          replace kt507 : -2147483648 ≤ t507 ∧ t507 ≤ 2147483647 := kt507
          replace ht507 : -9 ≤ t507 ∧ t507 ≤ 39 := ht507
          replace zt507 : P_X12_treeFor v504 v506 t507 g500 := zt507
          have li509 : jLI g508 := jLI_fr (ft507 176 0 (by unfold w_X12_treeFor; omega)) (ft507 0 0 (by unfold w_X12_treeFor; omega)) (fun t => ft507 87 t (by unfold w_X12_treeFor; omega)) li501
          have dli509 : g508 176 0 ≤ 2000 := li509.1
          rw [show v504 = v496 by omega, show v506 = v498 by omega] at zt507
          have qe511 := pr_treeFor ft499 ft507 zt499 zt507 sm
          have eqe511 := qe511.1
          have sm510 : jI g508 := qe511.2
          clear qe511 zt507
          show jGo E l 179 0 229 _ 1410 [.inr (.inr (.inl (-2))), .inr (.inr (.inl 0)), .inr (.inr (.inl 176)), .inl x3] [] 229 jr0 g508
          refine jGo_blk qL_law_1410 ?_
          have e512 : jw32 (x3 + 6) = x3 + 6 := j32e (by omega) (by omega)
          show jGo E l 179 0 229 _ 18 [.inr (.inr (.inl (-2))), .inr (.inr (.inl 0)), .inr (.inr (.inl 176)), .inl (jw32 (x3 + 6))] [] 229 jr0 g508
          exact ih (jw32 (x3 + 6)) g508 (by omega) li509 sm510 (by omega)
        · replace c6 : jand v4 63 = 24 := c6
          show jGo E l 179 0 229 _ 1094 [.inr (.inr (.inl (-2))), .inr (.inr (.inl 0)), .inr (.inr (.inl 176)), .inl x3] [] 229 jr0 g
          refine jGo_blk qL_law_1094 ?_
          have e513 : jw32 (x3 + 1) = x3 + 1 := j32e (by omega) (by omega)
          refine st_xi (N := E.2.2.2.2.1) (by decide) (by decide) rfl (show 0 ≤ jw32 (x3 + 1) by omega) (show jw32 (x3 + 1) < ((E.2.2.2.2.1 : Nat) : Int) by omega) (fun v514 ev514 => ?_)
          replace ev514 : v514 = jxv E (-2) (jw32 (x3 + 1)) := ev514
          have e515 : jw32 (x3 + 2) = x3 + 2 := j32e (by omega) (by omega)
          refine st_xi (N := E.2.2.2.2.1) (by decide) (by decide) rfl (show 0 ≤ jw32 (x3 + 2) by omega) (show jw32 (x3 + 2) < ((E.2.2.2.2.1 : Nat) : Int) by omega) (fun v516 ev516 => ?_)
          replace ev516 : v516 = jxv E (-2) (jw32 (x3 + 2)) := ev516
          refine st_cv (na := 2) (st := [.inl v516, .inl v514, .inr (.inr (.inl 0))]) jo_0 rfl rfl rfl (c_X11_treeOf v514 v516 g) rfl ?_
          rintro _ _ g518 ⟨rfl, ft517, t517, rfl, ht517, zt517⟩ kt517
          replace kt517 : -2147483648 ≤ t517 ∧ t517 ≤ 2147483647 := kt517
          replace zt517 : P_X11_treeOf v514 v516 t517 g := zt517
          have li519 : jLI g518 := jLI_fr (ft517 176 0 (by unfold w_X11_treeOf; omega)) (ft517 0 0 (by unfold w_X11_treeOf; omega)) (fun t => ft517 87 t (by unfold w_X11_treeOf; omega)) li
          have dli519 : g518 176 0 ≤ 2000 := li519.1
          have e521 : jw32 (x3 + 1) = x3 + 1 := j32e (by omega) (by omega)
          refine st_xi (N := E.2.2.2.2.1) (by decide) (by decide) rfl (show 0 ≤ jw32 (x3 + 1) by omega) (show jw32 (x3 + 1) < ((E.2.2.2.2.1 : Nat) : Int) by omega) (fun v522 ev522 => ?_)
          replace ev522 : v522 = jxv E (-2) (jw32 (x3 + 1)) := ev522
          have e523 : jw32 (x3 + 2) = x3 + 2 := j32e (by omega) (by omega)
          refine st_xi (N := E.2.2.2.2.1) (by decide) (by decide) rfl (show 0 ≤ jw32 (x3 + 2) by omega) (show jw32 (x3 + 2) < ((E.2.2.2.2.1 : Nat) : Int) by omega) (fun v524 ev524 => ?_)
          replace ev524 : v524 = jxv E (-2) (jw32 (x3 + 2)) := ev524
          refine st_cv (na := 2) (st := [.inl v524, .inl v522, .inr (.inr (.inl 176))]) jo_176 rfl rfl rfl (c_X12_treeOf v522 v524 g518) rfl ?_
          rintro _ _ g526 ⟨rfl, ft525, t525, rfl, ht525, zt525⟩ kt525
          replace kt525 : -2147483648 ≤ t525 ∧ t525 ≤ 2147483647 := kt525
          replace zt525 : P_X12_treeOf v522 v524 t525 g518 := zt525
          have li527 : jLI g526 := jLI_fr (ft525 176 0 (by unfold w_X12_treeOf; omega)) (ft525 0 0 (by unfold w_X12_treeOf; omega)) (fun t => ft525 87 t (by unfold w_X12_treeOf; omega)) li519
          have dli527 : g526 176 0 ≤ 2000 := li527.1
          rw [show v522 = v514 by omega, show v524 = v516 by omega] at zt525
          have qe529 := pr_treeOf ft517 ft525 zt517 zt525 sm
          have eqe529 := qe529.1
          have sm528 : jI g526 := qe529.2
          clear qe529 zt525
          show jGo E l 179 0 229 _ 1410 [.inr (.inr (.inl (-2))), .inr (.inr (.inl 0)), .inr (.inr (.inl 176)), .inl x3] [] 229 jr0 g526
          refine jGo_blk qL_law_1410 ?_
          have e530 : jw32 (x3 + 6) = x3 + 6 := j32e (by omega) (by omega)
          show jGo E l 179 0 229 _ 18 [.inr (.inr (.inl (-2))), .inr (.inr (.inl 0)), .inr (.inr (.inl 176)), .inl (jw32 (x3 + 6))] [] 229 jr0 g526
          exact ih (jw32 (x3 + 6)) g526 (by omega) li527 sm528 (by omega)
        · replace c6 : jand v4 63 = 25 := c6
          show jGo E l 179 0 229 _ 1127 [.inr (.inr (.inl (-2))), .inr (.inr (.inl 0)), .inr (.inr (.inl 176)), .inl x3] [] 229 jr0 g
          refine jGo_blk qL_law_1127 ?_
          have e531 : jw32 (x3 + 1) = x3 + 1 := j32e (by omega) (by omega)
          refine st_xi (N := E.2.2.2.2.1) (by decide) (by decide) rfl (show 0 ≤ jw32 (x3 + 1) by omega) (show jw32 (x3 + 1) < ((E.2.2.2.2.1 : Nat) : Int) by omega) (fun v532 ev532 => ?_)
          replace ev532 : v532 = jxv E (-2) (jw32 (x3 + 1)) := ev532
          have e533 : jw32 (x3 + 2) = x3 + 2 := j32e (by omega) (by omega)
          refine st_xi (N := E.2.2.2.2.1) (by decide) (by decide) rfl (show 0 ≤ jw32 (x3 + 2) by omega) (show jw32 (x3 + 2) < ((E.2.2.2.2.1 : Nat) : Int) by omega) (fun v534 ev534 => ?_)
          replace ev534 : v534 = jxv E (-2) (jw32 (x3 + 2)) := ev534
          refine st_cv (na := 2) (st := [.inl v534, .inl v532, .inr (.inr (.inl 0))]) jo_0 rfl rfl rfl (c_X11_count v532 v534 g) rfl ?_
          rintro _ _ g536 ⟨rfl, ft535, t535, rfl, ht535, zt535⟩ kt535
          replace kt535 : -2147483648 ≤ t535 ∧ t535 ≤ 2147483647 := kt535
          replace zt535 : (P_X11_count v532 v534 t535 g g536) ∧ jFg (2000000000 < t535) g g536 := zt535
          have li537 : jLI g536 := jLI_fr (ft535 176 0 (by unfold w_X11_count; omega)) (ft535 0 0 (by unfold w_X11_count; omega)) (fun t => ft535 87 t (by unfold w_X11_count; omega)) li
          have dli537 : g536 176 0 ≤ 2000 := li537.1
          have e539 : jw32 (x3 + 1) = x3 + 1 := j32e (by omega) (by omega)
          refine st_xi (N := E.2.2.2.2.1) (by decide) (by decide) rfl (show 0 ≤ jw32 (x3 + 1) by omega) (show jw32 (x3 + 1) < ((E.2.2.2.2.1 : Nat) : Int) by omega) (fun v540 ev540 => ?_)
          replace ev540 : v540 = jxv E (-2) (jw32 (x3 + 1)) := ev540
          have e541 : jw32 (x3 + 2) = x3 + 2 := j32e (by omega) (by omega)
          refine st_xi (N := E.2.2.2.2.1) (by decide) (by decide) rfl (show 0 ≤ jw32 (x3 + 2) by omega) (show jw32 (x3 + 2) < ((E.2.2.2.2.1 : Nat) : Int) by omega) (fun v542 ev542 => ?_)
          replace ev542 : v542 = jxv E (-2) (jw32 (x3 + 2)) := ev542
          have e543 : g536 176 0 = g 176 0 := ft535 176 0 (by unfold w_X11_count; omega)
          refine st_cv (na := 2) (st := [.inl v542, .inl v540, .inr (.inr (.inl 176))]) jo_176 rfl rfl rfl (c_X12_count v540 v542 g536 (by omega)) rfl ?_
          rintro _ _ g545 ⟨rfl, ft544, t544, rfl, ht544, zt544⟩ kt544
          replace kt544 : -2147483648 ≤ t544 ∧ t544 ≤ 2147483647 := kt544
          replace zt544 : P_X12_count v540 v542 t544 g536 g545 := zt544
          have li546 : jLI g545 := jLI_fr (ft544 176 0 (by unfold w_X12_count; omega)) (ft544 0 0 (by unfold w_X12_count; omega)) (fun t => ft544 87 t (by unfold w_X12_count; omega)) li537
          have dli546 : g545 176 0 ≤ 2000 := li546.1
          rw [show v540 = v532 by omega, show v542 = v534 by omega] at zt544
          have qe548 := pr_count ft535 ft544 zt535.1 zt544 sm ((jbf_5_0 jo_101 _).1 (hbd9 101 0)).1 (fun exy => jAh_m zt535.2 (fun b9 => (rx_count ft535 zt544 sm) (by omega)) (fun k9 => ft544 111 k9 (by unfold w_X12_count; omega)) (fun i9 k9 q9 => by unfold jwh3 at q9; exact ft544 i9 k9 (by unfold w_X12_count; omega)) (jI_ah sm))
          have eqe548 := qe548.1
          have sm547 : jI g545 := qe548.2
          clear qe548 zt544
          show jGo E l 179 0 229 _ 1410 [.inr (.inr (.inl (-2))), .inr (.inr (.inl 0)), .inr (.inr (.inl 176)), .inl x3] [] 229 jr0 g545
          refine jGo_blk qL_law_1410 ?_
          have e549 : jw32 (x3 + 6) = x3 + 6 := j32e (by omega) (by omega)
          show jGo E l 179 0 229 _ 18 [.inr (.inr (.inl (-2))), .inr (.inr (.inl 0)), .inr (.inr (.inl 176)), .inl (jw32 (x3 + 6))] [] 229 jr0 g545
          exact ih (jw32 (x3 + 6)) g545 (by omega) li546 sm547 (by omega)
        · replace c6 : jand v4 63 = 26 := c6
          show jGo E l 179 0 229 _ 1160 [.inr (.inr (.inl (-2))), .inr (.inr (.inl 0)), .inr (.inr (.inl 176)), .inl x3] [] 229 jr0 g
          refine jGo_blk qL_law_1160 ?_
          have e550 : jw32 (x3 + 1) = x3 + 1 := j32e (by omega) (by omega)
          refine st_xi (N := E.2.2.2.2.1) (by decide) (by decide) rfl (show 0 ≤ jw32 (x3 + 1) by omega) (show jw32 (x3 + 1) < ((E.2.2.2.2.1 : Nat) : Int) by omega) (fun v551 ev551 => ?_)
          replace ev551 : v551 = jxv E (-2) (jw32 (x3 + 1)) := ev551
          have e552 : jw32 (x3 + 2) = x3 + 2 := j32e (by omega) (by omega)
          refine st_xi (N := E.2.2.2.2.1) (by decide) (by decide) rfl (show 0 ≤ jw32 (x3 + 2) by omega) (show jw32 (x3 + 2) < ((E.2.2.2.2.1 : Nat) : Int) by omega) (fun v553 ev553 => ?_)
          replace ev553 : v553 = jxv E (-2) (jw32 (x3 + 2)) := ev553
          refine st_cv (na := 2) (st := [.inl v553, .inl v551, .inr (.inr (.inl 0))]) jo_0 rfl rfl rfl (c_X11_gap v551 v553 g) rfl ?_
          rintro _ _ g555 ⟨rfl, ft554, t554, rfl, ht554, zt554⟩ kt554
          replace kt554 : -2147483648 ≤ t554 ∧ t554 ≤ 2147483647 := kt554
          replace zt554 : P_X11_gap v551 v553 t554 g := zt554
          have li556 : jLI g555 := jLI_fr (ft554 176 0 (by unfold w_X11_gap; omega)) (ft554 0 0 (by unfold w_X11_gap; omega)) (fun t => ft554 87 t (by unfold w_X11_gap; omega)) li
          have dli556 : g555 176 0 ≤ 2000 := li556.1
          have e558 : jw32 (x3 + 1) = x3 + 1 := j32e (by omega) (by omega)
          refine st_xi (N := E.2.2.2.2.1) (by decide) (by decide) rfl (show 0 ≤ jw32 (x3 + 1) by omega) (show jw32 (x3 + 1) < ((E.2.2.2.2.1 : Nat) : Int) by omega) (fun v559 ev559 => ?_)
          replace ev559 : v559 = jxv E (-2) (jw32 (x3 + 1)) := ev559
          have e560 : jw32 (x3 + 2) = x3 + 2 := j32e (by omega) (by omega)
          refine st_xi (N := E.2.2.2.2.1) (by decide) (by decide) rfl (show 0 ≤ jw32 (x3 + 2) by omega) (show jw32 (x3 + 2) < ((E.2.2.2.2.1 : Nat) : Int) by omega) (fun v561 ev561 => ?_)
          replace ev561 : v561 = jxv E (-2) (jw32 (x3 + 2)) := ev561
          refine st_cv (na := 2) (st := [.inl v561, .inl v559, .inr (.inr (.inl 176))]) jo_176 rfl rfl rfl (c_X12_gap v559 v561 g555) rfl ?_
          rintro _ _ g563 ⟨rfl, ft562, t562, rfl, ht562, zt562⟩ kt562
          replace kt562 : -2147483648 ≤ t562 ∧ t562 ≤ 2147483647 := kt562
          replace zt562 : P_X12_gap v559 v561 t562 g555 := zt562
          have li564 : jLI g563 := jLI_fr (ft562 176 0 (by unfold w_X12_gap; omega)) (ft562 0 0 (by unfold w_X12_gap; omega)) (fun t => ft562 87 t (by unfold w_X12_gap; omega)) li556
          have dli564 : g563 176 0 ≤ 2000 := li564.1
          rw [show v559 = v551 by omega, show v561 = v553 by omega] at zt562
          have qe566 := pr_gap ft554 ft562 zt554 zt562 sm
          have eqe566 := qe566.1
          have sm565 : jI g563 := qe566.2
          clear qe566 zt562
          show jGo E l 179 0 229 _ 1410 [.inr (.inr (.inl (-2))), .inr (.inr (.inl 0)), .inr (.inr (.inl 176)), .inl x3] [] 229 jr0 g563
          refine jGo_blk qL_law_1410 ?_
          have e567 : jw32 (x3 + 6) = x3 + 6 := j32e (by omega) (by omega)
          show jGo E l 179 0 229 _ 18 [.inr (.inr (.inl (-2))), .inr (.inr (.inl 0)), .inr (.inr (.inl 176)), .inl (jw32 (x3 + 6))] [] 229 jr0 g563
          exact ih (jw32 (x3 + 6)) g563 (by omega) li564 sm565 (by omega)
        · replace c6 : jand v4 63 = 27 := c6
          show jGo E l 179 0 229 _ 1193 [.inr (.inr (.inl (-2))), .inr (.inr (.inl 0)), .inr (.inr (.inl 176)), .inl x3] [] 229 jr0 g
          refine jGo_blk qL_law_1193 ?_
          have e568 : jw32 (x3 + 1) = x3 + 1 := j32e (by omega) (by omega)
          refine st_xi (N := E.2.2.2.2.1) (by decide) (by decide) rfl (show 0 ≤ jw32 (x3 + 1) by omega) (show jw32 (x3 + 1) < ((E.2.2.2.2.1 : Nat) : Int) by omega) (fun v569 ev569 => ?_)
          replace ev569 : v569 = jxv E (-2) (jw32 (x3 + 1)) := ev569
          refine st_cv (na := 1) (st := [.inl v569, .inr (.inr (.inl 0))]) jo_0 rfl rfl rfl (c_X11_worst v569 g) rfl ?_
          rintro _ _ g571 ⟨rfl, ft570, t570, rfl, ht570, zt570⟩ kt570
          replace kt570 : -2147483648 ≤ t570 ∧ t570 ≤ 2147483647 := kt570
          replace ht570 : -9 ≤ t570 ∧ t570 ≤ 39 := ht570
          replace zt570 : P_X11_worst v569 t570 g := zt570
          have li572 : jLI g571 := jLI_fr (ft570 176 0 (by unfold w_X11_worst; omega)) (ft570 0 0 (by unfold w_X11_worst; omega)) (fun t => ft570 87 t (by unfold w_X11_worst; omega)) li
          have dli572 : g571 176 0 ≤ 2000 := li572.1
          have e574 : jw32 (x3 + 1) = x3 + 1 := j32e (by omega) (by omega)
          refine st_xi (N := E.2.2.2.2.1) (by decide) (by decide) rfl (show 0 ≤ jw32 (x3 + 1) by omega) (show jw32 (x3 + 1) < ((E.2.2.2.2.1 : Nat) : Int) by omega) (fun v575 ev575 => ?_)
          replace ev575 : v575 = jxv E (-2) (jw32 (x3 + 1)) := ev575
          refine st_cv (na := 1) (st := [.inl v575, .inr (.inr (.inl 176))]) jo_176 rfl rfl rfl (c_X12_worst v575 g571) rfl ?_
          rintro _ _ g577 ⟨rfl, ft576, t576, rfl, ht576, zt576⟩ kt576
          replace kt576 : -2147483648 ≤ t576 ∧ t576 ≤ 2147483647 := kt576
          replace ht576 : -9 ≤ t576 ∧ t576 ≤ 39 := ht576
          replace zt576 : P_X12_worst v575 t576 g571 := zt576
          have li578 : jLI g577 := jLI_fr (ft576 176 0 (by unfold w_X12_worst; omega)) (ft576 0 0 (by unfold w_X12_worst; omega)) (fun t => ft576 87 t (by unfold w_X12_worst; omega)) li572
          have dli578 : g577 176 0 ≤ 2000 := li578.1
          rw [show v575 = v569 by omega] at zt576
          have qe580 := pr_worst ft570 ft576 zt570 zt576 sm ((jbf_5_0 jo_101 _).1 (hbd9 101 0)).1
          have eqe580 := qe580.1
          have sm579 : jI g577 := qe580.2
          clear qe580 zt576
          show jGo E l 179 0 229 _ 1410 [.inr (.inr (.inl (-2))), .inr (.inr (.inl 0)), .inr (.inr (.inl 176)), .inl x3] [] 229 jr0 g577
          refine jGo_blk qL_law_1410 ?_
          have e581 : jw32 (x3 + 6) = x3 + 6 := j32e (by omega) (by omega)
          show jGo E l 179 0 229 _ 18 [.inr (.inr (.inl (-2))), .inr (.inr (.inl 0)), .inr (.inr (.inl 176)), .inl (jw32 (x3 + 6))] [] 229 jr0 g577
          exact ih (jw32 (x3 + 6)) g577 (by omega) li578 sm579 (by omega)
        · replace c6 : jand v4 63 = 28 := c6
          show jGo E l 179 0 229 _ 1216 [.inr (.inr (.inl (-2))), .inr (.inr (.inl 0)), .inr (.inr (.inl 176)), .inl x3] [] 229 jr0 g
          refine jGo_blk qL_law_1216 ?_
          have e582 : jw32 (x3 + 1) = x3 + 1 := j32e (by omega) (by omega)
          refine st_xi (N := E.2.2.2.2.1) (by decide) (by decide) rfl (show 0 ≤ jw32 (x3 + 1) by omega) (show jw32 (x3 + 1) < ((E.2.2.2.2.1 : Nat) : Int) by omega) (fun v583 ev583 => ?_)
          replace ev583 : v583 = jxv E (-2) (jw32 (x3 + 1)) := ev583
          refine st_cv (na := 1) (st := [.inl v583, .inr (.inr (.inl 0))]) jo_0 rfl rfl rfl (c_X11_ready v583 g) rfl ?_
          rintro _ _ g585 ⟨rfl, ft584, t584, rfl, ht584, zt584⟩ kt584
          replace kt584 : -2147483648 ≤ t584 ∧ t584 ≤ 2147483647 := kt584
          replace zt584 : P_X11_ready v583 t584 g g585 := zt584
          have li586 : jLI g585 := jLI_fr (ft584 176 0 (by unfold w_X11_ready; omega)) (ft584 0 0 (by unfold w_X11_ready; omega)) (fun t => ft584 87 t (by unfold w_X11_ready; omega)) li
          have dli586 : g585 176 0 ≤ 2000 := li586.1
          have e588 : jw32 (x3 + 1) = x3 + 1 := j32e (by omega) (by omega)
          refine st_xi (N := E.2.2.2.2.1) (by decide) (by decide) rfl (show 0 ≤ jw32 (x3 + 1) by omega) (show jw32 (x3 + 1) < ((E.2.2.2.2.1 : Nat) : Int) by omega) (fun v589 ev589 => ?_)
          replace ev589 : v589 = jxv E (-2) (jw32 (x3 + 1)) := ev589
          have e590 : g585 176 0 = g 176 0 := ft584 176 0 (by unfold w_X11_ready; omega)
          refine st_cv (na := 1) (st := [.inl v589, .inr (.inr (.inl 176))]) jo_176 rfl rfl rfl (c_X12_ready v589 g585 (by omega)) rfl ?_
          rintro _ _ g592 ⟨rfl, ft591, t591, rfl, ht591, zt591⟩ kt591
          replace kt591 : -2147483648 ≤ t591 ∧ t591 ≤ 2147483647 := kt591
          replace zt591 : ((g592 176 0 = g585 176 0) ∧ ∀ L k : Int, jlv L k → g592 L k = g585 L k) ∧ P_X12_ready v589 t591 g585 := zt591
          have li593 : jLI g592 := ⟨by rw [show g592 176 0 = g585 176 0 from zt591.1.1]; exact li586.1, jLG_fr (ft591 0 0 (by unfold w_X12_ready; omega)) (fun t => ft591 87 t (by unfold w_X12_ready; omega)) li586.2⟩
          have dli593 : g592 176 0 ≤ 2000 := li593.1
          rw [show v589 = v583 by omega] at zt591
          have qe595 := pr_ready ft584 ft591 zt584 zt591 sm hbd9 dli
          have eqe595 := qe595.1
          have sm594 : jI g592 := qe595.2
          clear qe595 zt591
          show jGo E l 179 0 229 _ 1410 [.inr (.inr (.inl (-2))), .inr (.inr (.inl 0)), .inr (.inr (.inl 176)), .inl x3] [] 229 jr0 g592
          refine jGo_blk qL_law_1410 ?_
          have e596 : jw32 (x3 + 6) = x3 + 6 := j32e (by omega) (by omega)
          show jGo E l 179 0 229 _ 18 [.inr (.inr (.inl (-2))), .inr (.inr (.inl 0)), .inr (.inr (.inl 176)), .inl (jw32 (x3 + 6))] [] 229 jr0 g592
          exact ih (jw32 (x3 + 6)) g592 (by omega) li593 sm594 (by omega)
        · replace c6 : jand v4 63 = 29 := c6
          show jGo E l 179 0 229 _ 1239 [.inr (.inr (.inl (-2))), .inr (.inr (.inl 0)), .inr (.inr (.inl 176)), .inl x3] [] 229 jr0 g
          refine jGo_blk qL_law_1239 ?_
          have e597 : jw32 (x3 + 1) = x3 + 1 := j32e (by omega) (by omega)
          refine st_xi (N := E.2.2.2.2.1) (by decide) (by decide) rfl (show 0 ≤ jw32 (x3 + 1) by omega) (show jw32 (x3 + 1) < ((E.2.2.2.2.1 : Nat) : Int) by omega) (fun v598 ev598 => ?_)
          replace ev598 : v598 = jxv E (-2) (jw32 (x3 + 1)) := ev598
          refine st_cv (na := 1) (st := [.inl v598, .inr (.inr (.inl 0))]) jo_0 rfl rfl rfl (c_X11_late v598 g) rfl ?_
          rintro _ _ g600 ⟨rfl, ft599, t599, rfl, ht599, zt599⟩ kt599
          replace kt599 : -2147483648 ≤ t599 ∧ t599 ≤ 2147483647 := kt599
          replace zt599 : P_X11_late v598 t599 g g600 := zt599
          have li601 : jLI g600 := jLI_fr (ft599 176 0 (by unfold w_X11_late; omega)) (ft599 0 0 (by unfold w_X11_late; omega)) (fun t => ft599 87 t (by unfold w_X11_late; omega)) li
          have dli601 : g600 176 0 ≤ 2000 := li601.1
          have e603 : jw32 (x3 + 1) = x3 + 1 := j32e (by omega) (by omega)
          refine st_xi (N := E.2.2.2.2.1) (by decide) (by decide) rfl (show 0 ≤ jw32 (x3 + 1) by omega) (show jw32 (x3 + 1) < ((E.2.2.2.2.1 : Nat) : Int) by omega) (fun v604 ev604 => ?_)
          replace ev604 : v604 = jxv E (-2) (jw32 (x3 + 1)) := ev604
          have e605 : g600 176 0 = g 176 0 := ft599 176 0 (by unfold w_X11_late; omega)
          refine st_cv (na := 1) (st := [.inl v604, .inr (.inr (.inl 176))]) jo_176 rfl rfl rfl (c_X12_late v604 g600 (by omega)) rfl ?_
          rintro _ _ g607 ⟨rfl, ft606, t606, rfl, ht606, zt606⟩ kt606
          replace kt606 : -2147483648 ≤ t606 ∧ t606 ≤ 2147483647 := kt606
          replace zt606 : ((g607 176 0 = g600 176 0) ∧ ∀ L k : Int, jlv L k → g607 L k = g600 L k) ∧ P_X12_late v604 t606 g600 := zt606
          have li608 : jLI g607 := ⟨by rw [show g607 176 0 = g600 176 0 from zt606.1.1]; exact li601.1, jLG_fr (ft606 0 0 (by unfold w_X12_late; omega)) (fun t => ft606 87 t (by unfold w_X12_late; omega)) li601.2⟩
          have dli608 : g607 176 0 ≤ 2000 := li608.1
          rw [show v604 = v598 by omega] at zt606
          have qe610 := pr_late ft599 ft606 zt599 zt606 sm hbd9 dli
          have eqe610 := qe610.1
          have sm609 : jI g607 := qe610.2
          clear qe610 zt606
          show jGo E l 179 0 229 _ 1410 [.inr (.inr (.inl (-2))), .inr (.inr (.inl 0)), .inr (.inr (.inl 176)), .inl x3] [] 229 jr0 g607
          refine jGo_blk qL_law_1410 ?_
          have e611 : jw32 (x3 + 6) = x3 + 6 := j32e (by omega) (by omega)
          show jGo E l 179 0 229 _ 18 [.inr (.inr (.inl (-2))), .inr (.inr (.inl 0)), .inr (.inr (.inl 176)), .inl (jw32 (x3 + 6))] [] 229 jr0 g607
          exact ih (jw32 (x3 + 6)) g607 (by omega) li608 sm609 (by omega)
        · replace c6 : jand v4 63 = 30 := c6
          show jGo E l 179 0 229 _ 1262 [.inr (.inr (.inl (-2))), .inr (.inr (.inl 0)), .inr (.inr (.inl 176)), .inl x3] [] 229 jr0 g
          refine jGo_blk qL_law_1262 ?_
          refine st_cv (na := 0) (st := [.inr (.inr (.inl 0))]) jo_0 rfl rfl rfl (c_X11_least g) rfl ?_
          rintro _ _ g613 ⟨rfl, ft612, t612, rfl, ht612, zt612⟩ kt612
          replace kt612 : -2147483648 ≤ t612 ∧ t612 ≤ 2147483647 := kt612
          replace zt612 : ((t612 = -3 ∧ 5 < (jull (jcS g) (g 29 4).toNat).length) ∨ ((jull (jcS g) (g 29 4).toNat).length ≤ 5 ∧ ¬ g613 111 11 = 0 ∧ ¬ g613 111 9 = 0 ∧ t612 = g613 111 0)) ∧ jAP g g613 := zt612
          have li614 : jLI g613 := jLI_fr (ft612 176 0 (by unfold w_X11_least; omega)) (ft612 0 0 (by unfold w_X11_least; omega)) (fun t => ft612 87 t (by unfold w_X11_least; omega)) li
          have dli614 : g613 176 0 ≤ 2000 := li614.1
          have e616 : g613 176 0 = g 176 0 := ft612 176 0 (by unfold w_X11_least; omega)
          refine st_cv (na := 0) (st := [.inr (.inr (.inl 176))]) jo_176 rfl rfl rfl (c_X12_least g613 (by omega)) rfl ?_
          rintro _ _ g618 ⟨rfl, ft617, t617, rfl, ht617, zt617⟩ kt617
          replace kt617 : -2147483648 ≤ t617 ∧ t617 ≤ 2147483647 := kt617
          replace zt617 : ((g618 176 0 = g613 176 0) ∧ (((t617 = -3 ∧ 5 < (jUL g613).length) ∨ ((jUL g613).length ≤ 5 ∧ ∃ o : Nat → Int, jRLs g613 t617 o)))) ∧ ∀ L k : Int, jlv L k → g618 L k = g613 L k := zt617
          have li619 : jLI g618 := ⟨by rw [show g618 176 0 = g613 176 0 from zt617.1.1]; exact li614.1, jLG_fr (ft617 0 0 (by unfold w_X12_least; omega)) (fun t => ft617 87 t (by unfold w_X12_least; omega)) li614.2⟩
          have dli619 : g618 176 0 ≤ 2000 := li619.1
          have qe621 := pr_least ft612 ft617 zt612 zt617 sm hbd9 dli
          have eqe621 := qe621.1
          have sm620 : jI g618 := qe621.2
          clear qe621 zt617
          show jGo E l 179 0 229 _ 1410 [.inr (.inr (.inl (-2))), .inr (.inr (.inl 0)), .inr (.inr (.inl 176)), .inl x3] [] 229 jr0 g618
          refine jGo_blk qL_law_1410 ?_
          have e622 : jw32 (x3 + 6) = x3 + 6 := j32e (by omega) (by omega)
          show jGo E l 179 0 229 _ 18 [.inr (.inr (.inl (-2))), .inr (.inr (.inl 0)), .inr (.inr (.inl 176)), .inl (jw32 (x3 + 6))] [] 229 jr0 g618
          exact ih (jw32 (x3 + 6)) g618 (by omega) li619 sm620 (by omega)
        · replace c6 : jand v4 63 = 31 := c6
          show jGo E l 179 0 229 _ 1275 [.inr (.inr (.inl (-2))), .inr (.inr (.inl 0)), .inr (.inr (.inl 176)), .inl x3] [] 229 jr0 g
          refine jGo_blk qL_law_1275 ?_
          have e623 : jw32 (x3 + 1) = x3 + 1 := j32e (by omega) (by omega)
          refine st_xi (N := E.2.2.2.2.1) (by decide) (by decide) rfl (show 0 ≤ jw32 (x3 + 1) by omega) (show jw32 (x3 + 1) < ((E.2.2.2.2.1 : Nat) : Int) by omega) (fun v624 ev624 => ?_)
          replace ev624 : v624 = jxv E (-2) (jw32 (x3 + 1)) := ev624
          refine st_cv (na := 1) (st := [.inl v624, .inr (.inr (.inl 0))]) jo_0 rfl rfl rfl (c_X11_order v624 g) rfl ?_
          rintro _ _ g626 ⟨rfl, ft625, t625, rfl, ht625, zt625⟩ kt625
          replace kt625 : -2147483648 ≤ t625 ∧ t625 ≤ 2147483647 := kt625
          replace ht625 : -9 ≤ t625 ∧ t625 ≤ 15 := ht625
          replace zt625 : ((t625 = -3 ∧ 5 < (jull (jcS g) (g 29 4).toNat).length) ∨ ((jull (jcS g) (g 29 4).toNat).length ≤ 5 ∧ ¬ g626 111 11 = 0 ∧ ¬ g626 111 9 = 0 ∧ ((0 ≤ v624 ∧ v624 < g626 111 2 ∧ t625 = g626 112 v624) ∨ (¬ (0 ≤ v624 ∧ v624 < g626 111 2) ∧ t625 = -9)))) ∧ jAP g g626 := zt625
          have li627 : jLI g626 := jLI_fr (ft625 176 0 (by unfold w_X11_order; omega)) (ft625 0 0 (by unfold w_X11_order; omega)) (fun t => ft625 87 t (by unfold w_X11_order; omega)) li
          have dli627 : g626 176 0 ≤ 2000 := li627.1
          have e629 : jw32 (x3 + 1) = x3 + 1 := j32e (by omega) (by omega)
          refine st_xi (N := E.2.2.2.2.1) (by decide) (by decide) rfl (show 0 ≤ jw32 (x3 + 1) by omega) (show jw32 (x3 + 1) < ((E.2.2.2.2.1 : Nat) : Int) by omega) (fun v630 ev630 => ?_)
          replace ev630 : v630 = jxv E (-2) (jw32 (x3 + 1)) := ev630
          have e631 : g626 176 0 = g 176 0 := ft625 176 0 (by unfold w_X11_order; omega)
          refine st_cv (na := 1) (st := [.inl v630, .inr (.inr (.inl 176))]) jo_176 rfl rfl rfl (c_X12_order v630 g626 (by omega)) rfl ?_
          rintro _ _ g633 ⟨rfl, ft632, t632, rfl, ht632, zt632⟩ kt632
          replace kt632 : -2147483648 ≤ t632 ∧ t632 ≤ 2147483647 := kt632
          replace ht632 : -9 ≤ t632 ∧ t632 ≤ 15 := ht632
          replace zt632 : ((g633 176 0 = g626 176 0) ∧ (((t632 = -3 ∧ 5 < (jUL g626).length) ∨ ((jUL g626).length ≤ 5 ∧ ((¬ (0 ≤ v630 ∧ v630 < ((jUL g626).length : Int)) ∧ t632 = -9) ∨ (0 ≤ v630 ∧ v630 < ((jUL g626).length : Int) ∧ ∃ (t : Int) (o : Nat → Int), jRLs g626 t o ∧ t632 = o v630.toNat)))))) ∧ ∀ L k : Int, jlv L k → g633 L k = g626 L k := zt632
          have li634 : jLI g633 := ⟨by rw [show g633 176 0 = g626 176 0 from zt632.1.1]; exact li627.1, jLG_fr (ft632 0 0 (by unfold w_X12_order; omega)) (fun t => ft632 87 t (by unfold w_X12_order; omega)) li627.2⟩
          have dli634 : g633 176 0 ≤ 2000 := li634.1
          rw [show v630 = v624 by omega] at zt632
          have qe636 := pr_order ft625 ft632 zt625 zt632 sm hbd9 dli
          have eqe636 := qe636.1
          have sm635 : jI g633 := qe636.2
          clear qe636 zt632
          show jGo E l 179 0 229 _ 1410 [.inr (.inr (.inl (-2))), .inr (.inr (.inl 0)), .inr (.inr (.inl 176)), .inl x3] [] 229 jr0 g633
          refine jGo_blk qL_law_1410 ?_
          have e637 : jw32 (x3 + 6) = x3 + 6 := j32e (by omega) (by omega)
          show jGo E l 179 0 229 _ 18 [.inr (.inr (.inl (-2))), .inr (.inr (.inl 0)), .inr (.inr (.inl 176)), .inl (jw32 (x3 + 6))] [] 229 jr0 g633
          exact ih (jw32 (x3 + 6)) g633 (by omega) li634 sm635 (by omega)
        · replace c6 : jand v4 63 = 32 := c6
          show jGo E l 179 0 229 _ 1298 [.inr (.inr (.inl (-2))), .inr (.inr (.inl 0)), .inr (.inr (.inl 176)), .inl x3] [] 229 jr0 g
          refine jGo_blk qL_law_1298 ?_
          have e638 : jw32 (x3 + 1) = x3 + 1 := j32e (by omega) (by omega)
          refine st_xi (N := E.2.2.2.2.1) (by decide) (by decide) rfl (show 0 ≤ jw32 (x3 + 1) by omega) (show jw32 (x3 + 1) < ((E.2.2.2.2.1 : Nat) : Int) by omega) (fun v639 ev639 => ?_)
          replace ev639 : v639 = jxv E (-2) (jw32 (x3 + 1)) := ev639
          have e640 : jw32 (x3 + 2) = x3 + 2 := j32e (by omega) (by omega)
          refine st_xi (N := E.2.2.2.2.1) (by decide) (by decide) rfl (show 0 ≤ jw32 (x3 + 2) by omega) (show jw32 (x3 + 2) < ((E.2.2.2.2.1 : Nat) : Int) by omega) (fun v641 ev641 => ?_)
          replace ev641 : v641 = jxv E (-2) (jw32 (x3 + 2)) := ev641
          refine st_cv (na := 2) (st := [.inl v641, .inl v639, .inr (.inr (.inl 0))]) jo_0 rfl rfl rfl (c_X11_hullOf v639 v641 g) rfl ?_
          rintro _ _ g643 ⟨rfl, ft642, t642, rfl, ht642, zt642⟩ kt642
          replace kt642 : -2147483648 ≤ t642 ∧ t642 ≤ 2147483647 := kt642
          replace zt642 : P_X11_hullOf v639 v641 t642 g := zt642
          have li644 : jLI g643 := jLI_fr (ft642 176 0 (by unfold w_X11_hullOf; omega)) (ft642 0 0 (by unfold w_X11_hullOf; omega)) (fun t => ft642 87 t (by unfold w_X11_hullOf; omega)) li
          have dli644 : g643 176 0 ≤ 2000 := li644.1
          have e646 : jw32 (x3 + 1) = x3 + 1 := j32e (by omega) (by omega)
          refine st_xi (N := E.2.2.2.2.1) (by decide) (by decide) rfl (show 0 ≤ jw32 (x3 + 1) by omega) (show jw32 (x3 + 1) < ((E.2.2.2.2.1 : Nat) : Int) by omega) (fun v647 ev647 => ?_)
          replace ev647 : v647 = jxv E (-2) (jw32 (x3 + 1)) := ev647
          have e648 : jw32 (x3 + 2) = x3 + 2 := j32e (by omega) (by omega)
          refine st_xi (N := E.2.2.2.2.1) (by decide) (by decide) rfl (show 0 ≤ jw32 (x3 + 2) by omega) (show jw32 (x3 + 2) < ((E.2.2.2.2.1 : Nat) : Int) by omega) (fun v649 ev649 => ?_)
          replace ev649 : v649 = jxv E (-2) (jw32 (x3 + 2)) := ev649
          refine st_cv (na := 2) (st := [.inl v649, .inl v647, .inr (.inr (.inl 176))]) jo_176 rfl rfl rfl (c_X12_hullOf v647 v649 g643) rfl ?_
          rintro _ _ g651 ⟨rfl, ft650, t650, rfl, ht650, zt650⟩ kt650
          replace kt650 : -2147483648 ≤ t650 ∧ t650 ≤ 2147483647 := kt650
          replace zt650 : P_X12_hullOf v647 v649 t650 g643 := zt650
          have li652 : jLI g651 := jLI_fr (ft650 176 0 (by unfold w_X12_hullOf; omega)) (ft650 0 0 (by unfold w_X12_hullOf; omega)) (fun t => ft650 87 t (by unfold w_X12_hullOf; omega)) li644
          have dli652 : g651 176 0 ≤ 2000 := li652.1
          rw [show v647 = v639 by omega, show v649 = v641 by omega] at zt650
          have qe654 := pr_hullOf ft642 ft650 zt642 zt650 sm
          have eqe654 := qe654.1
          have sm653 : jI g651 := qe654.2
          clear qe654 zt650
          show jGo E l 179 0 229 _ 1410 [.inr (.inr (.inl (-2))), .inr (.inr (.inl 0)), .inr (.inr (.inl 176)), .inl x3] [] 229 jr0 g651
          refine jGo_blk qL_law_1410 ?_
          have e655 : jw32 (x3 + 6) = x3 + 6 := j32e (by omega) (by omega)
          show jGo E l 179 0 229 _ 18 [.inr (.inr (.inl (-2))), .inr (.inr (.inl 0)), .inr (.inr (.inl 176)), .inl (jw32 (x3 + 6))] [] 229 jr0 g651
          exact ih (jw32 (x3 + 6)) g651 (by omega) li652 sm653 (by omega)
        · replace c6 : jand v4 63 = 33 := c6
          show jGo E l 179 0 229 _ 1331 [.inr (.inr (.inl (-2))), .inr (.inr (.inl 0)), .inr (.inr (.inl 176)), .inl x3] [] 229 jr0 g
          refine jGo_blk qL_law_1331 ?_
          have e656 : jw32 (x3 + 1) = x3 + 1 := j32e (by omega) (by omega)
          refine st_xi (N := E.2.2.2.2.1) (by decide) (by decide) rfl (show 0 ≤ jw32 (x3 + 1) by omega) (show jw32 (x3 + 1) < ((E.2.2.2.2.1 : Nat) : Int) by omega) (fun v657 ev657 => ?_)
          replace ev657 : v657 = jxv E (-2) (jw32 (x3 + 1)) := ev657
          have e658 : jw32 (x3 + 2) = x3 + 2 := j32e (by omega) (by omega)
          refine st_xi (N := E.2.2.2.2.1) (by decide) (by decide) rfl (show 0 ≤ jw32 (x3 + 2) by omega) (show jw32 (x3 + 2) < ((E.2.2.2.2.1 : Nat) : Int) by omega) (fun v659 ev659 => ?_)
          replace ev659 : v659 = jxv E (-2) (jw32 (x3 + 2)) := ev659
          refine st_cv (na := 2) (st := [.inl v659, .inl v657, .inr (.inr (.inl 0))]) jo_0 rfl rfl rfl (c_X11_basinOf v657 v659 g) rfl ?_
          rintro _ _ g661 ⟨rfl, ft660, t660, rfl, ht660, zt660⟩ kt660
          replace kt660 : -2147483648 ≤ t660 ∧ t660 ≤ 2147483647 := kt660
          replace zt660 : P_X11_basinOf v657 v659 t660 g := zt660
          have li662 : jLI g661 := jLI_fr (ft660 176 0 (by unfold w_X11_basinOf; omega)) (ft660 0 0 (by unfold w_X11_basinOf; omega)) (fun t => ft660 87 t (by unfold w_X11_basinOf; omega)) li
          have dli662 : g661 176 0 ≤ 2000 := li662.1
          have e664 : jw32 (x3 + 1) = x3 + 1 := j32e (by omega) (by omega)
          refine st_xi (N := E.2.2.2.2.1) (by decide) (by decide) rfl (show 0 ≤ jw32 (x3 + 1) by omega) (show jw32 (x3 + 1) < ((E.2.2.2.2.1 : Nat) : Int) by omega) (fun v665 ev665 => ?_)
          replace ev665 : v665 = jxv E (-2) (jw32 (x3 + 1)) := ev665
          have e666 : jw32 (x3 + 2) = x3 + 2 := j32e (by omega) (by omega)
          refine st_xi (N := E.2.2.2.2.1) (by decide) (by decide) rfl (show 0 ≤ jw32 (x3 + 2) by omega) (show jw32 (x3 + 2) < ((E.2.2.2.2.1 : Nat) : Int) by omega) (fun v667 ev667 => ?_)
          replace ev667 : v667 = jxv E (-2) (jw32 (x3 + 2)) := ev667
          refine st_cv (na := 2) (st := [.inl v667, .inl v665, .inr (.inr (.inl 176))]) jo_176 rfl rfl rfl (c_X12_basinOf v665 v667 g661) rfl ?_
          rintro _ _ g669 ⟨rfl, ft668, t668, rfl, ht668, zt668⟩ kt668
          replace kt668 : -2147483648 ≤ t668 ∧ t668 ≤ 2147483647 := kt668
          replace zt668 : P_X12_basinOf v665 v667 t668 g661 := zt668
          have li670 : jLI g669 := jLI_fr (ft668 176 0 (by unfold w_X12_basinOf; omega)) (ft668 0 0 (by unfold w_X12_basinOf; omega)) (fun t => ft668 87 t (by unfold w_X12_basinOf; omega)) li662
          have dli670 : g669 176 0 ≤ 2000 := li670.1
          rw [show v665 = v657 by omega, show v667 = v659 by omega] at zt668
          have qe672 := pr_basinOf ft660 ft668 zt660 zt668 sm
          have eqe672 := qe672.1
          have sm671 : jI g669 := qe672.2
          clear qe672 zt668
          show jGo E l 179 0 229 _ 1410 [.inr (.inr (.inl (-2))), .inr (.inr (.inl 0)), .inr (.inr (.inl 176)), .inl x3] [] 229 jr0 g669
          refine jGo_blk qL_law_1410 ?_
          have e673 : jw32 (x3 + 6) = x3 + 6 := j32e (by omega) (by omega)
          show jGo E l 179 0 229 _ 18 [.inr (.inr (.inl (-2))), .inr (.inr (.inl 0)), .inr (.inr (.inl 176)), .inl (jw32 (x3 + 6))] [] 229 jr0 g669
          exact ih (jw32 (x3 + 6)) g669 (by omega) li670 sm671 (by omega)
        · replace c6 : jand v4 63 = 34 := c6
          show jGo E l 179 0 229 _ 1364 [.inr (.inr (.inl (-2))), .inr (.inr (.inl 0)), .inr (.inr (.inl 176)), .inl x3] [] 229 jr0 g
          refine jGo_blk qL_law_1364 ?_
          have e674 : jw32 (x3 + 1) = x3 + 1 := j32e (by omega) (by omega)
          refine st_xi (N := E.2.2.2.2.1) (by decide) (by decide) rfl (show 0 ≤ jw32 (x3 + 1) by omega) (show jw32 (x3 + 1) < ((E.2.2.2.2.1 : Nat) : Int) by omega) (fun v675 ev675 => ?_)
          replace ev675 : v675 = jxv E (-2) (jw32 (x3 + 1)) := ev675
          refine st_cv (na := 1) (st := [.inl v675, .inr (.inr (.inl 0))]) jo_0 rfl rfl rfl (c_X11_stock v675 g) rfl ?_
          rintro _ _ g677 ⟨rfl, ft676, t676, rfl, ht676, zt676⟩ kt676
          replace kt676 : -2147483648 ≤ t676 ∧ t676 ≤ 2147483647 := kt676
          replace zt676 : P_X11_stock v675 t676 g := zt676
          have li678 : jLI g677 := jLI_fr (ft676 176 0 (by unfold w_X11_stock; omega)) (ft676 0 0 (by unfold w_X11_stock; omega)) (fun t => ft676 87 t (by unfold w_X11_stock; omega)) li
          have dli678 : g677 176 0 ≤ 2000 := li678.1
          have e680 : jw32 (x3 + 1) = x3 + 1 := j32e (by omega) (by omega)
          refine st_xi (N := E.2.2.2.2.1) (by decide) (by decide) rfl (show 0 ≤ jw32 (x3 + 1) by omega) (show jw32 (x3 + 1) < ((E.2.2.2.2.1 : Nat) : Int) by omega) (fun v681 ev681 => ?_)
          replace ev681 : v681 = jxv E (-2) (jw32 (x3 + 1)) := ev681
          refine st_cv (na := 1) (st := [.inl v681, .inr (.inr (.inl 176))]) jo_176 rfl rfl rfl (c_X12_stock v681 g677) rfl ?_
          rintro _ _ g683 ⟨rfl, ft682, t682, rfl, ht682, zt682⟩ kt682
          replace kt682 : -2147483648 ≤ t682 ∧ t682 ≤ 2147483647 := kt682
          replace zt682 : P_X12_stock v681 t682 g677 := zt682
          have li684 : jLI g683 := jLI_fr (ft682 176 0 (by unfold w_X12_stock; omega)) (ft682 0 0 (by unfold w_X12_stock; omega)) (fun t => ft682 87 t (by unfold w_X12_stock; omega)) li678
          have dli684 : g683 176 0 ≤ 2000 := li684.1
          rw [show v681 = v675 by omega] at zt682
          have qe686 := pr_stock ft676 ft682 zt676 zt682 sm
          have eqe686 := qe686.1
          have sm685 : jI g683 := qe686.2
          clear qe686 zt682
          show jGo E l 179 0 229 _ 1410 [.inr (.inr (.inl (-2))), .inr (.inr (.inl 0)), .inr (.inr (.inl 176)), .inl x3] [] 229 jr0 g683
          refine jGo_blk qL_law_1410 ?_
          have e687 : jw32 (x3 + 6) = x3 + 6 := j32e (by omega) (by omega)
          show jGo E l 179 0 229 _ 18 [.inr (.inr (.inl (-2))), .inr (.inr (.inl 0)), .inr (.inr (.inl 176)), .inl (jw32 (x3 + 6))] [] 229 jr0 g683
          exact ih (jw32 (x3 + 6)) g683 (by omega) li684 sm685 (by omega)
        · replace c6 : jand v4 63 = 35 := c6
          show jGo E l 179 0 229 _ 1387 [.inr (.inr (.inl (-2))), .inr (.inr (.inl 0)), .inr (.inr (.inl 176)), .inl x3] [] 229 jr0 g
          refine jGo_blk qL_law_1387 ?_
          have e688 : jw32 (x3 + 1) = x3 + 1 := j32e (by omega) (by omega)
          refine st_xi (N := E.2.2.2.2.1) (by decide) (by decide) rfl (show 0 ≤ jw32 (x3 + 1) by omega) (show jw32 (x3 + 1) < ((E.2.2.2.2.1 : Nat) : Int) by omega) (fun v689 ev689 => ?_)
          replace ev689 : v689 = jxv E (-2) (jw32 (x3 + 1)) := ev689
          refine st_cv (na := 1) (st := [.inl v689, .inr (.inr (.inl 0))]) jo_0 rfl rfl rfl (c_X11_told v689 g) rfl ?_
          rintro _ _ _ ⟨rfl, rfl, t690, rfl, ht690, zt690⟩ kt690
          replace kt690 : -2147483648 ≤ t690 ∧ t690 ≤ 2147483647 := kt690
          have e692 : jw32 (x3 + 1) = x3 + 1 := j32e (by omega) (by omega)
          refine st_xi (N := E.2.2.2.2.1) (by decide) (by decide) rfl (show 0 ≤ jw32 (x3 + 1) by omega) (show jw32 (x3 + 1) < ((E.2.2.2.2.1 : Nat) : Int) by omega) (fun v693 ev693 => ?_)
          replace ev693 : v693 = jxv E (-2) (jw32 (x3 + 1)) := ev693
          refine st_cv (na := 1) (st := [.inl v693, .inr (.inr (.inl 176))]) jo_176 rfl rfl rfl (c_X12_told v693 g) rfl ?_
          rintro _ _ _ ⟨rfl, rfl, t694, rfl, ht694, zt694⟩ kt694
          replace kt694 : -2147483648 ≤ t694 ∧ t694 ≤ 2147483647 := kt694
          show jGo E l 179 0 229 _ 1410 [.inr (.inr (.inl (-2))), .inr (.inr (.inl 0)), .inr (.inr (.inl 176)), .inl x3] [] 229 jr0 g
          refine jGo_blk qL_law_1410 ?_
          have e696 : jw32 (x3 + 6) = x3 + 6 := j32e (by omega) (by omega)
          show jGo E l 179 0 229 _ 18 [.inr (.inr (.inl (-2))), .inr (.inr (.inl 0)), .inr (.inr (.inl 176)), .inl (jw32 (x3 + 6))] [] 229 jr0 g
          exact ih (jw32 (x3 + 6)) g (by omega) li sm (by omega)
