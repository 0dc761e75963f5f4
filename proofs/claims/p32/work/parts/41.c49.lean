def w_X7_findLeast_29 (i k : Int) : Prop := (i = 112) ∨ (120 ≤ i ∧ i ≤ 121) ∨ (124 ≤ i ∧ i ≤ 173) ∨ (i = 175) ∨ (i = 111 ∧ k = 0) ∨ (i = 111 ∧ k = 2) ∨ (i = 111 ∧ k = 11) ∨ (i = 119 ∧ 6 ≤ k ∧ k ≤ 10)
def k_X7_findLeast_29 (h : JH) (v : Option JV) (r' g : JH) : Prop := r' = jr0 ∧ jfr w_X7_findLeast_29 h g ∧ v = none ∧ (¬ g 111 11 = 0 ∧ jFLp h g)
set_option maxHeartbeats 4000000 in
theorem c_X7_findLeast_29 {E : JE} {l : Launch} (h : JH) : jMt E l 161 [.inr (.inr (.inl 111)), .inr (.inr (.inl 29)), .inr (.inr (.inl 16))] 229 jr0 h (k_X7_findLeast_29 h) := by
  refine jMt0 (nL := 5) (ls := [.inr (.inr (.inl 111)), .inr (.inr (.inl 29)), .inr (.inr (.inl 16)), .inr (.inr (.inr ())), .inr (.inr (.inr ()))]) (by decide +kernel) (by decide +kernel) (by decide +kernel) rfl rfl ?_
  have f0 : jfr w_X7_findLeast_29 h h := jfr_rf _ _
  have key : ∀ N : Nat, (∀ (x3 : Int) (x4 : JV) (g : JH), (0 ≤ x3 ∧ x3 ≤ 120) → (jFX x3 h g) → jfr w_X7_findLeast_29 h g → (120 - x3) < (N : Int) → jGo E l 161 229 229 (jRK (k_X7_findLeast_29 h)) 21 [.inr (.inr (.inl 111)), .inr (.inr (.inl 29)), .inr (.inr (.inl 16)), .inl x3, x4] [] 229 jr0 g) := by
    intro N
    induction N with
    | zero => exact fun _ _ _ hi hx0 _ hN => absurd hN (by omega)
    | succ N ih =>
      intro x3 x4 g hi hx0 hf hN
      refine jGo_blk qX7_findLeast_21 ?_
      refine st_gi jo_111 (fun v1 ev1 b2 => ?_)
      replace ev1 : v1 = g 111 2 := ev1
      replace b2 := (jbf_7_2 jo_111 _).1 b2
      refine st_xi (by decide) jx_k7 (jx_l7 E) (show 0 ≤ v1 by omega) (show v1 < ((6 : Nat) : Int) by omega) (fun v3 ev3 => ?_)
      have bv3 : 1 ≤ v3 ∧ v3 ≤ 120 := by rw [ev3]; exact jx_w7 E v1 (by omega) (by omega)
      replace ev3 : v3 = jxv E (-7) v1 := ev3
      refine And.intro (fun c4 => ?_) (fun c4 => ?_)
      · replace c4 : v3 ≤ x3 := c4
        show jGo E l 161 229 229 _ 102 [.inr (.inr (.inl 111)), .inr (.inr (.inl 29)), .inr (.inr (.inl 16)), .inl x3, x4] [] 229 jr0 g
        refine jGo_blk qX7_findLeast_102 ?_
        refine st_pi jo_111 (fun hx => (jbf_7_11 jo_111 _).2 (show 0 ≤ 1 ∧ 1 ≤ 1 by omega)) (fun g5 eg5 => ?_)
        replace eg5 : g5 = jup g 111 11 1 := eg5
        have fg5 : jfr w_X7_findLeast_29 h g5 := jfr_up hf eg5 (by unfold w_X7_findLeast_29; omega)
        have e6 : g5 111 11 = 1 := jup_s eg5
        exact ⟨rfl, rfl, fg5, rfl, (by exact ⟨by rw [jup_s eg5]; decide, jFL_e hx0 (by omega) (Or.inl (by rw [← ev1, ← jx_d7 E (k := v1) (by omega) (by omega), ← ev3]; omega)) eg5⟩)⟩
      · replace c4 : x3 < v3 := by first | exact c4 | exact Int.not_le.mp c4 | exact Int.not_lt.mp c4 | exact Decidable.not_not.mp c4
        refine st_gi jo_111 (fun v7 ev7 b8 => ?_)
        replace ev7 : v7 = g 111 0 := ev7
        replace b8 := (jbf_7_0 jo_111 _).1 b8
        refine And.intro (fun c9 => ?_) (fun c9 => ?_)
        · replace c9 : v7 ≤ 0 := c9
          show jGo E l 161 229 229 _ 102 [.inr (.inr (.inl 111)), .inr (.inr (.inl 29)), .inr (.inr (.inl 16)), .inl x3, x4] [] 229 jr0 g
          refine jGo_blk qX7_findLeast_102 ?_
          refine st_pi jo_111 (fun hx => (jbf_7_11 jo_111 _).2 (show 0 ≤ 1 ∧ 1 ≤ 1 by omega)) (fun g10 eg10 => ?_)
          replace eg10 : g10 = jup g 111 11 1 := eg10
          have fg10 : jfr w_X7_findLeast_29 h g10 := jfr_up hf eg10 (by unfold w_X7_findLeast_29; omega)
          have e11 : g10 111 11 = 1 := jup_s eg10
          exact ⟨rfl, rfl, fg10, rfl, (by exact ⟨by rw [jup_s eg10]; decide, jFL_e hx0 (by omega) (Or.inr (by omega)) eg10⟩)⟩
        · replace c9 : 0 < v7 := by first | exact c9 | exact Int.not_le.mp c9 | exact Int.not_lt.mp c9 | exact Decidable.not_not.mp c9
          refine st_gr jo_111 jr_111_8 ?_
          refine st_gi jo_111 (fun v12 ev12 b13 => ?_)
          replace ev12 : v12 = g 111 2 := ev12
          replace b13 := (jbf_7_2 jo_111 _).1 b13
          refine st_cv (na := 4) (st := [.inr (.inr (.inl 16)), .inl v12, .inr (.inr (.inl 175)), .inr (.inr (.inl 29)), .inr (.inr (.inl 111))]) jo_111 rfl rfl rfl (c_X7_tryOut_29_175 v12 g (by omega)) rfl ?_
          rintro _ _ g15 ⟨rfl, ft14, rfl, zt14⟩ kt14
          have fg15 : jfr w_X7_findLeast_29 h g15 := jfr_tr hf ft14 (fun i k q => by unfold w_X7_tryOut_29_175 at q; unfold w_X7_findLeast_29; omega)
          replace zt14 : ∀ (D : Int → Prop) (hm : JH), jTq 175 v12 D g hm → ∀ i : Int, 0 ≤ i → i < v12 → g15 (126 + 3 * g 175 i) 9 = jit jmPi 300 hm 198 (g 175 i) ∧ g15 (126 + 3 * g 175 i) 2 = g (36 + 3 * g 175 i) 2 := zt14
          refine st_cv (na := 0) (st := [.inr (.inr (.inl 111))]) jo_111 rfl rfl rfl (c_X7_sumOfLate g15) rfl ?_
          rintro _ _ _ ⟨rfl, rfl, t16, rfl, ht16, zt16⟩ kt16
          replace kt16 : -2147483648 ≤ t16 ∧ t16 ≤ 2147483647 := kt16
          replace zt16 : t16 = jsc3 g15 (g15 111 2).toNat ∧ jsB g15 := zt16
          refine st_gi jo_111 (fun v18 ev18 b19 => ?_)
          replace ev18 : v18 = g15 111 0 := ev18
          replace b19 := (jbf_7_0 jo_111 _).1 b19
          have e20 : g15 111 0 = g 111 0 := ft14 111 0 (by unfold w_X7_tryOut_29_175; omega)
          refine And.intro (fun c21 => ?_) (fun c21 => ?_)
          · replace c21 : v18 ≤ t16 := c21
            show jGo E l 161 229 229 _ 92 [.inr (.inr (.inl 111)), .inr (.inr (.inl 29)), .inr (.inr (.inl 16)), .inl x3, .inl t16] [] 229 jr0 g15
            refine jGo_blk qX7_findLeast_92 ?_
            refine st_cv (na := 0) (st := [.inr (.inr (.inl 111))]) jo_111 rfl rfl rfl (c_X7_nextOrder g15) rfl ?_
            rintro _ _ g23 ⟨rfl, ft22, rfl, zt22⟩ kt22
            have fg23 : jfr w_X7_findLeast_29 h g23 := jfr_tr fg15 ft22 (fun i k q => by unfold w_X7_nextOrder at q; unfold w_X7_findLeast_29; omega)
            replace zt22 : ∀ i : Int, g23 175 i = jnx3 (g15 111 2) (g15 175) i := zt22
            have e24 : jw32 (x3 + 1) = x3 + 1 := j32e (by omega) (by omega)
            show jGo E l 161 229 229 _ 21 [.inr (.inr (.inl 111)), .inr (.inr (.inl 29)), .inr (.inr (.inl 16)), .inl (jw32 (x3 + 1)), .inl t16] [] 229 jr0 g23
            have hc25 : jFX (jw32 (x3 + 1)) h g23 := by
              rw [show jw32 (x3 + 1) = x3 + 1 by omega]
              refine jFX_s (g1 := g15) (g2 := g15) (t := t16) hx0 (by omega) (by rw [← ev1, ← jx_d7 E (k := v1) (by omega) (by omega), ← ev3]; omega) (fun i k q => hf i k (by unfold w_X7_findLeast_29; unfold jwk at q; omega)) (by rw [← ev12]; exact zt14) (fun i k q => ft14 i k (by unfold w_X7_tryOut_29_175; omega)) zt16.1 zt16.2 ?_ zt22 (fun i k q => ft22 i k (by unfold w_X7_nextOrder; omega))
              exact Or.inl ⟨by omega, rfl⟩
            exact ih (jw32 (x3 + 1)) (.inl t16) g23 (by omega) (by exact hc25) fg23 (by omega)
          · replace c21 : t16 < v18 := by first | exact c21 | exact Int.not_le.mp c21 | exact Int.not_lt.mp c21 | exact Decidable.not_not.mp c21
            refine st_pi jo_111 (fun hx => (jbf_7_0 jo_111 _).2 hx) (fun g26 eg26 => ?_)
            replace eg26 : g26 = jup g15 111 0 t16 := eg26
            have fg26 : jfr w_X7_findLeast_29 h g26 := jfr_up fg15 eg26 (by unfold w_X7_findLeast_29; omega)
            have e27 : g26 111 0 = t16 := jup_s eg26
            refine st_gr jo_111 jr_111_8 ?_
            refine st_gr jo_111 jr_111_1 ?_
            refine st_gi jo_111 (fun v28 ev28 b29 => ?_)
            replace ev28 : v28 = g26 111 2 := ev28
            replace b29 := (jbf_7_2 jo_111 _).1 b29
            have e30 : g26 111 2 = g15 111 2 := jup_o eg26 (by omega)
            have e31 : g15 111 2 = g 111 2 := ft14 111 2 (by unfold w_X7_tryOut_29_175; omega)
            refine st_cp jo_112 jo_175 (show 0 ≤ 0 by omega) (show 0 ≤ 0 by omega) (show 0 ≤ v28 by omega) (show 0 + v28 ≤ ((5 : Nat) : Int) by omega) (show 0 + v28 ≤ ((5 : Nat) : Int) by omega) rfl (fun hg j _ _ => (jba_112 _ _).2 ((jba_175 _ _).1 (hg _ _))) (fun g32 eg32 => ?_)
            replace eg32 : g32 = jcp g26 175 0 112 0 v28 := eg32
            have fg32 : jfr w_X7_findLeast_29 h g32 := jfr_cp fg26 eg32 (fun _ => by unfold w_X7_findLeast_29; omega)
            show jGo E l 161 229 229 _ 92 [.inr (.inr (.inl 111)), .inr (.inr (.inl 29)), .inr (.inr (.inl 16)), .inl x3, .inl t16] [] 229 jr0 g32
            refine jGo_blk qX7_findLeast_92 ?_
            refine st_cv (na := 0) (st := [.inr (.inr (.inl 111))]) jo_111 rfl rfl rfl (c_X7_nextOrder g32) rfl ?_
            rintro _ _ g34 ⟨rfl, ft33, rfl, zt33⟩ kt33
            have fg34 : jfr w_X7_findLeast_29 h g34 := jfr_tr fg32 ft33 (fun i k q => by unfold w_X7_nextOrder at q; unfold w_X7_findLeast_29; omega)
            replace zt33 : ∀ i : Int, g34 175 i = jnx3 (g32 111 2) (g32 175) i := zt33
            have e35 : jw32 (x3 + 1) = x3 + 1 := j32e (by omega) (by omega)
            show jGo E l 161 229 229 _ 21 [.inr (.inr (.inl 111)), .inr (.inr (.inl 29)), .inr (.inr (.inl 16)), .inl (jw32 (x3 + 1)), .inl t16] [] 229 jr0 g34
            have hc36 : jFX (jw32 (x3 + 1)) h g34 := by
              rw [show jw32 (x3 + 1) = x3 + 1 by omega]
              refine jFX_s (g1 := g15) (g2 := g32) (t := t16) hx0 (by omega) (by rw [← ev1, ← jx_d7 E (k := v1) (by omega) (by omega), ← ev3]; omega) (fun i k q => hf i k (by unfold w_X7_findLeast_29; unfold jwk at q; omega)) (by rw [← ev12]; exact zt14) (fun i k q => ft14 i k (by unfold w_X7_tryOut_29_175; omega)) zt16.1 zt16.2 ?_ zt33 (fun i k q => ft33 i k (by unfold w_X7_nextOrder; omega))
              refine Or.inr ⟨by omega, (jcp_o eg32 (by omega)).trans (jup_s eg26), fun i p1 p2 => ?_, (jcp_o eg32 (by omega)).trans (jup_o eg26 (by omega)), fun i => (jcp_o eg32 (by omega)).trans (jup_o eg26 (by omega))⟩
              rw [jcp_s eg32 p1 (by omega), show 0 + (i - 0) = i by omega, jup_o eg26 (by omega)]
            exact ih (jw32 (x3 + 1)) (.inl t16) g34 (by omega) (by exact hc36) fg34 (by omega)
  refine jGo_blk qX7_findLeast_0 ?_
  refine st_gi jo_111 (fun v37 ev37 b38 => ?_)
  replace ev37 : v37 = h 111 11 := ev37
  replace b38 := (jbf_7_11 jo_111 _).1 b38
  refine And.intro (fun c39 => ?_) (fun c39 => ?_)
  · replace c39 : v37 = 0 := c39
    show jGo E l 161 229 229 _ 8 [.inr (.inr (.inl 111)), .inr (.inr (.inl 29)), .inr (.inr (.inl 16)), .inr (.inr (.inr ())), .inr (.inr (.inr ()))] [] 229 jr0 h
    refine jGo_blk qX7_findLeast_8 ?_
    refine st_cv (na := 1) (st := [.inr (.inr (.inl 29)), .inr (.inr (.inl 111))]) jo_111 rfl rfl rfl (c_X7_gatherByNumbers_29 h) rfl ?_
    rintro _ _ g41 ⟨rfl, ft40, rfl, zt40⟩ kt40
    have fg41 : jfr w_X7_findLeast_29 h g41 := jfr_tr f0 ft40 (fun i k q => by unfold w_X7_gatherByNumbers_29 at q; unfold w_X7_findLeast_29; omega)
    replace zt40 : jGaP h g41 := zt40
    refine st_pi jo_111 (fun hx => (jbf_7_0 jo_111 _).2 hx) (fun g42 eg42 => ?_)
    replace eg42 : g42 = jup g41 111 0 1000000 := eg42
    have fg42 : jfr w_X7_findLeast_29 h g42 := jfr_up fg41 eg42 (by unfold w_X7_findLeast_29; omega)
    have e43 : g42 111 0 = 1000000 := jup_s eg42
    show jGo E l 161 229 229 _ 21 [.inr (.inr (.inl 111)), .inr (.inr (.inl 29)), .inr (.inr (.inl 16)), .inl 0, .inr (.inr (.inr ()))] [] 229 jr0 g42
    exact (key 1000000000000) 0 (.inr (.inr (.inr ()))) g42 (by omega) (by exact jFX_0 zt40 eg42) fg42 (by omega)
  · replace c39 : ¬ v37 = 0 := by first | exact c39 | exact Int.not_le.mp c39 | exact Int.not_lt.mp c39 | exact Decidable.not_not.mp c39
    exact ⟨rfl, rfl, f0, rfl, (by exact ⟨by omega, fun hm _ _ _ _ q => q⟩)⟩
