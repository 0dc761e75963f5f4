def w_X12_workAll (i k : Int) : Prop := (i = 195) ∨ (i = 176 ∧ k = 32)
def k_X12_workAll (h : JH) (v : Option JV) (r' g : JH) : Prop := r' = jr0 ∧ jfr w_X12_workAll h g ∧ v = none ∧ (g = jmWA h)
set_option maxHeartbeats 4000000 in
theorem c_X12_workAll {E : JE} {l : Launch} (h : JH) : jMt E l 92 [.inr (.inr (.inl 176))] 229 jr0 h (k_X12_workAll h) := by
  refine jMt0 (nL := 8) (ls := [.inr (.inr (.inl 176)), .inr (.inr (.inr ())), .inr (.inr (.inr ())), .inr (.inr (.inr ())), .inr (.inr (.inr ())), .inr (.inr (.inr ())), .inr (.inr (.inr ())), .inr (.inr (.inr ()))]) (by decide +kernel) (by decide +kernel) (by decide +kernel) rfl rfl ?_
  have f0 : jfr w_X12_workAll h h := jfr_rf _ _
  have key : ∀ N : Nat, (∀ (x1 : Int) (x2 : Int) (x3 : Int) (x4 : Int) (x5 : JV) (x6 : JV) (x7 : JV) (g : JH), (0 ≤ x1 ∧ x1 ≤ 200 ∧ 0 ≤ x2 ∧ x2 ≤ 1 ∧ 0 ≤ x3 ∧ x3 ≤ 200 ∧ 0 ≤ x4 ∧ x4 ≤ 4) → (g = jit (jmWc x2 x3) (x4).toNat h) → (x2 = jmWk h ∧ x3 = jmFv h 3 0 (h 176 0)) → jfr w_X12_workAll h g → (4 - x4) * 1000000 + 999999 < (N : Int) → jGo E l 92 229 229 (jRK (k_X12_workAll h)) 44 [.inr (.inr (.inl 176)), .inl x1, .inl x2, .inl x3, .inl x4, x5, x6, x7] [] 229 jr0 g) ∧
      (∀ (x1 : Int) (x2 : Int) (x3 : Int) (x4 : Int) (x5 : Int) (x6 : Int) (x7 : JV) (m9 : Int) (g : JH), (0 ≤ x1 ∧ x1 ≤ 200 ∧ 0 ≤ x2 ∧ x2 ≤ 1 ∧ 0 ≤ x3 ∧ x3 ≤ 200 ∧ 0 ≤ x4 ∧ x4 ≤ 3 ∧ (-1) ≤ x6 ∧ x6 ≤ 15) → (0 ≤ m9 ∧ m9 ≤ 1700 ∧ (x6 < 0 ∨ 1700 - ((99 - g 190 x6) * 16 + x6) ≤ m9)) → (jmWs x2 x3 x4 (jit (jmWc x2 x3) (x4).toNat h) = if x2 = 0 then (x5, g) else jch (jmWo x3 x4) jnx2 m9.toNat x6 (x5, g)) → (0 ≤ x4 ∧ x4 < 4) → (x2 = jmWk h ∧ x3 = jmFv h 3 0 (h 176 0)) → jfr w_X12_workAll h g → (4 - x4) * 1000000 + m9 < (N : Int) → jGo E l 92 229 229 (jRK (k_X12_workAll h)) 70 [.inr (.inr (.inl 176)), .inl x1, .inl x2, .inl x3, .inl x4, .inl x5, .inl x6, x7] [] 229 jr0 g) := by
    intro N
    induction N with
    | zero => exact ⟨fun _ _ _ _ _ _ _ _ hi hx0 hx1 _ hN => absurd hN (by omega), fun _ _ _ _ _ _ _ _ _ hi hx0 hx1 hx2 hx3 _ hN => absurd hN (by omega)⟩
    | succ N ih =>
      refine ⟨?_, ?_⟩
      · intro x1 x2 x3 x4 x5 x6 x7 g hi hx0 hx1 hf hN
        refine jGo_blk qX12_workAll_44 ?_
        refine And.intro (fun c1 => ?_) (fun c1 => ?_)
        · replace c1 : 4 ≤ x4 := c1
          show jGo E l 92 229 229 _ 189 [.inr (.inr (.inl 176)), .inl x1, .inl x2, .inl x3, .inl x4, x5, x6, x7] [] 229 jr0 g
          refine jGo_blk qX12_workAll_189 ?_
          exact ⟨rfl, rfl, hf, rfl, (by rw [hx0, show x4 = 4 by omega, hx1.1, hx1.2] <;> rfl)⟩
        · replace c1 : x4 < 4 := by first | exact c1 | exact Int.not_le.mp c1 | exact Int.not_lt.mp c1 | exact Decidable.not_not.mp c1
          refine st_gi jo_176 (fun v2 ev2 b3 => ?_)
          replace ev2 : v2 = g 176 0 := ev2
          replace b3 := (jbf_12_0 jo_176 _).1 b3
          refine st_cv (na := 2) (st := [.inl v2, .inl x4, .inr (.inr (.inl 176))]) jo_176 rfl rfl rfl (c_X12_handsAt x4 v2 g (by omega) (by omega)) rfl ?_
          rintro _ _ _ ⟨rfl, rfl, t4, rfl, ht4, zt4⟩ kt4
          replace kt4 : -2147483648 ≤ t4 ∧ t4 ≤ 2147483647 := kt4
          replace ht4 : 0 ≤ t4 ∧ t4 ≤ 400 := ht4
          replace zt4 : t4 = jHm g x4 v2 ∧ -1 ≤ g 178 x4 ∧ g 178 x4 ≤ 3 ∧ (g 178 x4 < 0 ∨ g 179 (g 178 x4) ≤ 30) := zt4
          have y6 := zt4.1
          refine st_cv (na := 2) (st := [.inl 1, .inl (-1), .inr (.inr (.inl 176))]) jo_176 rfl rfl rfl (c_X12_firstBehind (-1) 1 g (by omega)) rfl ?_
          rintro _ _ _ ⟨rfl, rfl, t7, rfl, ht7, zt7⟩ kt7
          replace kt7 : -2147483648 ≤ t7 ∧ t7 ≤ 2147483647 := kt7
          replace ht7 : -1 ≤ t7 ∧ t7 ≤ 15 := ht7
          replace zt7 : (t7 = -1 ∨ (0 ≤ t7 ∧ t7 ≤ 15 ∧ ((-1 : Int) < 0 ∨ (99 - g 190 (-1 : Int)) * 16 + (-1 : Int) < (99 - g 190 t7) * 16 + t7))) ∧ t7 = jfb g (-1 : Int) (1 : Int) (g 176 14).toNat := zt7
          have y9 := zt7.2
          show jGo E l 92 229 229 _ 70 [.inr (.inr (.inl 176)), .inl x1, .inl x2, .inl x3, .inl x4, .inl t4, .inl t7, x7] [] 229 jr0 g
          refine jGo_bd (fun hbd10 => ?_)
          have b11 := (jba_190 t7 _).1 (hbd10 190 t7)
          exact ih.2 x1 x2 x3 x4 t4 t7 x7 1700 g (by omega) (by omega) (by rw [← hx0]; subst y9 y6 ev2; unfold jmWs jnx; rfl) (by omega) (by exact hx1) hf (by omega)
      · intro x1 x2 x3 x4 x5 x6 x7 m9 g hi hx0 hx1 hx2 hx3 hf hN
        refine jGo_ok (fun hls _ => ?_)
        have rx5 : -2147483648 ≤ x5 ∧ x5 ≤ 2147483647 := hls (.inl x5) (by simp)
        refine jGo_blk qX12_workAll_70 ?_
        refine And.intro (fun c12 => ?_) (fun c12 => ?_)
        · replace c12 : x6 < 0 := c12
          show jGo E l 92 229 229 _ 172 [.inr (.inr (.inl 176)), .inl x1, .inl x2, .inl x3, .inl x4, .inl x5, .inl x6, x7] [] 229 jr0 g
          refine jGo_blk qX12_workAll_172 ?_
          refine st_gi jo_176 (fun v13 ev13 b14 => ?_)
          replace ev13 : v13 = g 176 32 := ev13
          replace b14 := (jbf_12_32 jo_176 _).1 b14
          refine st_pi jo_176 (fun hx => (jbf_12_32 jo_176 _).2 hx) (fun g15 eg15 => ?_)
          replace eg15 : g15 = jup g 176 32 (jw32 (v13 + x5)) := eg15
          have fg15 : jfr w_X12_workAll h g15 := jfr_up hf eg15 (by unfold w_X12_workAll; omega)
          have e16 : g15 176 32 = jw32 (v13 + x5) := jup_s eg15
          have e17 : jw32 (x4 + 1) = x4 + 1 := jzj32 (by omega)
          show jGo E l 92 229 229 _ 44 [.inr (.inr (.inl 176)), .inl x1, .inl x2, .inl x3, .inl (jw32 (x4 + 1)), .inl x5, .inl x6, x7] [] 229 jr0 g15
          have hc18 : g15 = jit (jmWc x2 x3) (jw32 (x4 + 1)).toNat h := by
            rw [show jw32 (x4 + 1) = x4 + 1 by omega, jit_s (by omega)]
            show g15 = jmWe (jmWs x2 x3 x4 (jit (jmWc x2 x3) x4.toNat h))
            rw [hx1]
            by_cases z : x2 = 0
            · rw [if_pos z]; subst eg15 ev13; rfl
            · rw [if_neg z, jch_e (by omega)]; subst eg15 ev13; rfl
          exact ih.1 x1 x2 x3 (jw32 (x4 + 1)) (.inl x5) (.inl x6) x7 g15 (by omega) (by exact hc18) (by exact hx3) fg15 (by omega)
        · replace c12 : 0 ≤ x6 := by first | exact c12 | exact Int.not_le.mp c12 | exact Int.not_lt.mp c12 | exact Decidable.not_not.mp c12
          refine And.intro (fun c19 => ?_) (fun c19 => ?_)
          · replace c19 : x2 = 0 := c19
            show jGo E l 92 229 229 _ 172 [.inr (.inr (.inl 176)), .inl x1, .inl x2, .inl x3, .inl x4, .inl x5, .inl x6, x7] [] 229 jr0 g
            refine jGo_blk qX12_workAll_172 ?_
            refine st_gi jo_176 (fun v20 ev20 b21 => ?_)
            replace ev20 : v20 = g 176 32 := ev20
            replace b21 := (jbf_12_32 jo_176 _).1 b21
            refine st_pi jo_176 (fun hx => (jbf_12_32 jo_176 _).2 hx) (fun g22 eg22 => ?_)
            replace eg22 : g22 = jup g 176 32 (jw32 (v20 + x5)) := eg22
            have fg22 : jfr w_X12_workAll h g22 := jfr_up hf eg22 (by unfold w_X12_workAll; omega)
            have e23 : g22 176 32 = jw32 (v20 + x5) := jup_s eg22
            have e24 : jw32 (x4 + 1) = x4 + 1 := jzj32 (by omega)
            show jGo E l 92 229 229 _ 44 [.inr (.inr (.inl 176)), .inl x1, .inl x2, .inl x3, .inl (jw32 (x4 + 1)), .inl x5, .inl x6, x7] [] 229 jr0 g22
            have hc25 : g22 = jit (jmWc x2 x3) (jw32 (x4 + 1)).toNat h := by
              rw [show jw32 (x4 + 1) = x4 + 1 by omega, jit_s (by omega)]
              show g22 = jmWe (jmWs x2 x3 x4 (jit (jmWc x2 x3) x4.toNat h))
              rw [hx1]
              by_cases z : x2 = 0
              · rw [if_pos z]; subst eg22 ev20; rfl
              · rw [if_neg z, jch_e (by omega)]; subst eg22 ev20; rfl
            exact ih.1 x1 x2 x3 (jw32 (x4 + 1)) (.inl x5) (.inl x6) x7 g22 (by omega) (by exact hc25) (by exact hx3) fg22 (by omega)
          · replace c19 : ¬ x2 = 0 := by first | exact c19 | exact Int.not_le.mp c19 | exact Int.not_lt.mp c19 | exact Decidable.not_not.mp c19
            refine st_gr jo_176 jr_176_22 ?_
            refine st_bi jo_196 (show 0 ≤ x6 by omega) (show x6 < ((16 : Nat) : Int) by omega) (fun v26 ev26 b27 => ?_)
            replace ev26 : v26 = g 196 x6 := ev26
            replace b27 := (jba_196 x6 _).1 b27
            refine And.intro (fun c28 => ?_) (fun c28 => ?_)
            · replace c28 : v26 = 0 := c28
              show jGo E l 92 229 229 _ 160 [.inr (.inr (.inl 176)), .inl x1, .inl x2, .inl x3, .inl x4, .inl x5, .inl x6, x7] [] 229 jr0 g
              refine jGo_blk qX12_workAll_160 ?_
              refine st_cv (na := 2) (st := [.inl 1, .inl x6, .inr (.inr (.inl 176))]) jo_176 rfl rfl rfl (c_X12_firstBehind x6 1 g (by omega)) rfl ?_
              rintro _ _ _ ⟨rfl, rfl, t29, rfl, ht29, zt29⟩ kt29
              replace kt29 : -2147483648 ≤ t29 ∧ t29 ≤ 2147483647 := kt29
              replace ht29 : -1 ≤ t29 ∧ t29 ≤ 15 := ht29
              replace zt29 : (t29 = -1 ∨ (0 ≤ t29 ∧ t29 ≤ 15 ∧ (x6 < 0 ∨ (99 - g 190 x6) * 16 + x6 < (99 - g 190 t29) * 16 + t29))) ∧ t29 = jfb g x6 (1 : Int) (g 176 14).toNat := zt29
              have y31 := zt29.2
              show jGo E l 92 229 229 _ 70 [.inr (.inr (.inl 176)), .inl x1, .inl x2, .inl x3, .inl x4, .inl x5, .inl t29, x7] [] 229 jr0 g
              refine jGo_bd (fun hbd32 => ?_)
              have b33 := (jba_190 t29 _).1 (hbd32 190 t29)
              have b34 := (jba_190 x6 _).1 (hbd32 190 x6)
              have hc35 : jmWo x3 x4 x6 (x5, g) = (x5, g) := by
                subst ev26; unfold jmWo; show (if g 196 x6 = 0 ∨ ¬ g 194 x6 = x4 then (x5, g) else (jw32 (x5 - jmSn x3 x6 x5 g), jup g 195 x6 (jw32 (g 195 x6 - jmSn x3 x6 x5 g)))) = _; unfold jmSn jmii; (repeat (first | rw [if_pos (by omega)] | rw [if_neg (by omega)])); all_goals rfl
              exact ih.2 x1 x2 x3 x4 x5 t29 x7 (m9 - 1) g (by omega) (by omega) (by rw [hx1, if_neg (by omega), if_neg (by omega), jch_s (by omega) (by omega), hc35]; unfold jnx2 jnx; rw [y31]) (by omega) (by exact hx3) hf (by omega)
            · replace c28 : ¬ v26 = 0 := by first | exact c28 | exact Int.not_le.mp c28 | exact Int.not_lt.mp c28 | exact Decidable.not_not.mp c28
              refine st_gr jo_176 jr_176_20 ?_
              refine st_ai jo_194 (show 0 ≤ x6 by omega) (show x6 < ((16 : Nat) : Int) by omega) (fun v36 ev36 b37 => ?_)
              replace ev36 : v36 = g 194 x6 := ev36
              replace b37 := (jba_194 x6 _).1 b37
              refine And.intro (fun c38 => ?_) (fun c38 => ?_)
              · replace c38 : ¬ v36 = x4 := c38
                show jGo E l 92 229 229 _ 160 [.inr (.inr (.inl 176)), .inl x1, .inl x2, .inl x3, .inl x4, .inl x5, .inl x6, x7] [] 229 jr0 g
                refine jGo_blk qX12_workAll_160 ?_
                refine st_cv (na := 2) (st := [.inl 1, .inl x6, .inr (.inr (.inl 176))]) jo_176 rfl rfl rfl (c_X12_firstBehind x6 1 g (by omega)) rfl ?_
                rintro _ _ _ ⟨rfl, rfl, t39, rfl, ht39, zt39⟩ kt39
                replace kt39 : -2147483648 ≤ t39 ∧ t39 ≤ 2147483647 := kt39
                replace ht39 : -1 ≤ t39 ∧ t39 ≤ 15 := ht39
                replace zt39 : (t39 = -1 ∨ (0 ≤ t39 ∧ t39 ≤ 15 ∧ (x6 < 0 ∨ (99 - g 190 x6) * 16 + x6 < (99 - g 190 t39) * 16 + t39))) ∧ t39 = jfb g x6 (1 : Int) (g 176 14).toNat := zt39
                have y41 := zt39.2
                show jGo E l 92 229 229 _ 70 [.inr (.inr (.inl 176)), .inl x1, .inl x2, .inl x3, .inl x4, .inl x5, .inl t39, x7] [] 229 jr0 g
                refine jGo_bd (fun hbd42 => ?_)
                have b43 := (jba_190 t39 _).1 (hbd42 190 t39)
                have b44 := (jba_190 x6 _).1 (hbd42 190 x6)
                have hc45 : jmWo x3 x4 x6 (x5, g) = (x5, g) := by
                  subst ev36 ev26; unfold jmWo; show (if g 196 x6 = 0 ∨ ¬ g 194 x6 = x4 then (x5, g) else (jw32 (x5 - jmSn x3 x6 x5 g), jup g 195 x6 (jw32 (g 195 x6 - jmSn x3 x6 x5 g)))) = _; unfold jmSn jmii; (repeat (first | rw [if_pos (by omega)] | rw [if_neg (by omega)])); all_goals rfl
                exact ih.2 x1 x2 x3 x4 x5 t39 x7 (m9 - 1) g (by omega) (by omega) (by rw [hx1, if_neg (by omega), if_neg (by omega), jch_s (by omega) (by omega), hc45]; unfold jnx2 jnx; rw [y41]) (by omega) (by exact hx3) hf (by omega)
              · replace c38 : v36 = x4 := by first | exact c38 | exact Int.not_le.mp c38 | exact Int.not_lt.mp c38 | exact Decidable.not_not.mp c38
                refine And.intro (fun c46 => ?_) (fun c46 => ?_)
                · replace c46 : x3 ≤ x5 := c46
                  show jGo E l 92 229 229 _ 112 [.inr (.inr (.inl 176)), .inl x1, .inl x2, .inl x3, .inl x4, .inl x5, .inl x6, x7] [] 229 jr0 g
                  refine jGo_blk qX12_workAll_112 ?_
                  show jGo E l 92 229 229 _ 113 [.inr (.inr (.inl 176)), .inl x1, .inl x2, .inl x3, .inl x4, .inl x5, .inl x6, x7] [.inl x3] 229 jr0 g
                  refine jGo_blk qX12_workAll_113 ?_
                  refine st_gr jo_176 jr_176_21 ?_
                  refine st_ai jo_195 (show 0 ≤ x6 by omega) (show x6 < ((16 : Nat) : Int) by omega) (fun v47 ev47 b48 => ?_)
                  replace ev47 : v47 = g 195 x6 := ev47
                  replace b48 := (jba_195 x6 _).1 b48
                  refine And.intro (fun c49 => ?_) (fun c49 => ?_)
                  · replace c49 : v47 ≤ x3 := c49
                    show jGo E l 92 229 229 _ 132 [.inr (.inr (.inl 176)), .inl x1, .inl x2, .inl x3, .inl x4, .inl x5, .inl x6, .inl x3] [] 229 jr0 g
                    refine jGo_blk qX12_workAll_132 ?_
                    refine st_gr jo_176 jr_176_21 ?_
                    refine st_ai jo_195 (show 0 ≤ x6 by omega) (show x6 < ((16 : Nat) : Int) by omega) (fun v50 ev50 b51 => ?_)
                    replace ev50 : v50 = g 195 x6 := ev50
                    replace b51 := (jba_195 x6 _).1 b51
                    show jGo E l 92 229 229 _ 139 [.inr (.inr (.inl 176)), .inl x1, .inl x2, .inl x3, .inl x4, .inl x5, .inl x6, .inl x3] [.inl v50] 229 jr0 g
                    refine jGo_blk qX12_workAll_139 ?_
                    refine st_gr jo_176 jr_176_21 ?_
                    refine st_ai jo_195 (show 0 ≤ x6 by omega) (show x6 < ((16 : Nat) : Int) by omega) (fun v52 ev52 b53 => ?_)
                    replace ev52 : v52 = g 195 x6 := ev52
                    replace b53 := (jba_195 x6 _).1 b53
                    refine st_si jo_195 (show 0 ≤ x6 by omega) (show x6 < ((16 : Nat) : Int) by omega) (fun hx => (jba_195 _ _).2 hx) (fun g54 eg54 => ?_)
                    replace eg54 : g54 = jup g 195 x6 (jw32 (v52 - v50)) := eg54
                    have fg54 : jfr w_X12_workAll h g54 := jfr_up hf eg54 (by unfold w_X12_workAll; omega)
                    have e55 : g54 195 x6 = jw32 (v52 - v50) := jup_s eg54
                    show jGo E l 92 229 229 _ 160 [.inr (.inr (.inl 176)), .inl x1, .inl x2, .inl x3, .inl x4, .inl (jw32 (x5 - v50)), .inl x6, .inl v50] [] 229 jr0 g54
                    refine jGo_blk qX12_workAll_160 ?_
                    refine st_cv (na := 2) (st := [.inl 1, .inl x6, .inr (.inr (.inl 176))]) jo_176 rfl rfl rfl (c_X12_firstBehind x6 1 g54 (by omega)) rfl ?_
                    rintro _ _ _ ⟨rfl, rfl, t56, rfl, ht56, zt56⟩ kt56
                    replace kt56 : -2147483648 ≤ t56 ∧ t56 ≤ 2147483647 := kt56
                    replace ht56 : -1 ≤ t56 ∧ t56 ≤ 15 := ht56
                    replace zt56 : (t56 = -1 ∨ (0 ≤ t56 ∧ t56 ≤ 15 ∧ (x6 < 0 ∨ (99 - g54 190 x6) * 16 + x6 < (99 - g54 190 t56) * 16 + t56))) ∧ t56 = jfb g54 x6 (1 : Int) (g54 176 14).toNat := zt56
                    have y58 := zt56.2
                    show jGo E l 92 229 229 _ 70 [.inr (.inr (.inl 176)), .inl x1, .inl x2, .inl x3, .inl x4, .inl (jw32 (x5 - v50)), .inl t56, .inl v50] [] 229 jr0 g54
                    refine jGo_bd (fun hbd59 => ?_)
                    have b60 := (jba_190 t56 _).1 (hbd59 190 t56)
                    have b61 := (jba_190 x6 _).1 (hbd59 190 x6)
                    have e62 : g54 190 x6 = g 190 x6 := jup_o eg54 (by first | exact fun q => absurd q.1 (by decide) | exact fun q => absurd q.2 (by decide) | omega)
                    have hc63 : jmWo x3 x4 x6 (x5, g) = (jw32 (x5 - v50), g54) := by
                      subst eg54 ev52 ev50 ev47 ev36 ev26; unfold jmWo; show (if g 196 x6 = 0 ∨ ¬ g 194 x6 = x4 then (x5, g) else (jw32 (x5 - jmSn x3 x6 x5 g), jup g 195 x6 (jw32 (g 195 x6 - jmSn x3 x6 x5 g)))) = _; unfold jmSn jmii; (repeat (first | rw [if_pos (by omega)] | rw [if_neg (by omega)])); all_goals rfl
                    exact ih.2 x1 x2 x3 x4 (jw32 (x5 - v50)) t56 (.inl v50) (m9 - 1) g54 (by omega) (by omega) (by rw [hx1, if_neg (by omega), if_neg (by omega), jch_s (by omega) (by omega), hc63]; unfold jnx2 jnx; rw [y58]) (by omega) (by exact hx3) fg54 (by omega)
                  · replace c49 : x3 < v47 := by first | exact c49 | exact Int.not_le.mp c49 | exact Int.not_lt.mp c49 | exact Decidable.not_not.mp c49
                    show jGo E l 92 229 229 _ 139 [.inr (.inr (.inl 176)), .inl x1, .inl x2, .inl x3, .inl x4, .inl x5, .inl x6, .inl x3] [.inl x3] 229 jr0 g
                    refine jGo_blk qX12_workAll_139 ?_
                    refine st_gr jo_176 jr_176_21 ?_
                    refine st_ai jo_195 (show 0 ≤ x6 by omega) (show x6 < ((16 : Nat) : Int) by omega) (fun v64 ev64 b65 => ?_)
                    replace ev64 : v64 = g 195 x6 := ev64
                    replace b65 := (jba_195 x6 _).1 b65
                    have e66 : jw32 (v64 - x3) = v64 - x3 := jzj32 (by omega)
                    refine st_si jo_195 (show 0 ≤ x6 by omega) (show x6 < ((16 : Nat) : Int) by omega) (fun hx => (jba_195 _ _).2 hx) (fun g67 eg67 => ?_)
                    replace eg67 : g67 = jup g 195 x6 (jw32 (v64 - x3)) := eg67
                    have fg67 : jfr w_X12_workAll h g67 := jfr_up hf eg67 (by unfold w_X12_workAll; omega)
                    have e68 : g67 195 x6 = jw32 (v64 - x3) := jup_s eg67
                    have e69 : jw32 (x5 - x3) = x5 - x3 := jzj32 (by omega)
                    show jGo E l 92 229 229 _ 160 [.inr (.inr (.inl 176)), .inl x1, .inl x2, .inl x3, .inl x4, .inl (jw32 (x5 - x3)), .inl x6, .inl x3] [] 229 jr0 g67
                    refine jGo_blk qX12_workAll_160 ?_
                    refine st_cv (na := 2) (st := [.inl 1, .inl x6, .inr (.inr (.inl 176))]) jo_176 rfl rfl rfl (c_X12_firstBehind x6 1 g67 (by omega)) rfl ?_
                    rintro _ _ _ ⟨rfl, rfl, t70, rfl, ht70, zt70⟩ kt70
                    replace kt70 : -2147483648 ≤ t70 ∧ t70 ≤ 2147483647 := kt70
                    replace ht70 : -1 ≤ t70 ∧ t70 ≤ 15 := ht70
                    replace zt70 : (t70 = -1 ∨ (0 ≤ t70 ∧ t70 ≤ 15 ∧ (x6 < 0 ∨ (99 - g67 190 x6) * 16 + x6 < (99 - g67 190 t70) * 16 + t70))) ∧ t70 = jfb g67 x6 (1 : Int) (g67 176 14).toNat := zt70
                    have y72 := zt70.2
                    show jGo E l 92 229 229 _ 70 [.inr (.inr (.inl 176)), .inl x1, .inl x2, .inl x3, .inl x4, .inl (jw32 (x5 - x3)), .inl t70, .inl x3] [] 229 jr0 g67
                    refine jGo_bd (fun hbd73 => ?_)
                    have b74 := (jba_190 t70 _).1 (hbd73 190 t70)
                    have b75 := (jba_190 x6 _).1 (hbd73 190 x6)
                    have e76 : g67 190 x6 = g 190 x6 := jup_o eg67 (by first | exact fun q => absurd q.1 (by decide) | exact fun q => absurd q.2 (by decide) | omega)
                    have hc77 : jmWo x3 x4 x6 (x5, g) = (jw32 (x5 - x3), g67) := by
                      subst eg67 ev64 ev47 ev36 ev26; unfold jmWo; show (if g 196 x6 = 0 ∨ ¬ g 194 x6 = x4 then (x5, g) else (jw32 (x5 - jmSn x3 x6 x5 g), jup g 195 x6 (jw32 (g 195 x6 - jmSn x3 x6 x5 g)))) = _; unfold jmSn jmii; (repeat (first | rw [if_pos (by omega)] | rw [if_neg (by omega)])); all_goals rfl
                    exact ih.2 x1 x2 x3 x4 (jw32 (x5 - x3)) t70 (.inl x3) (m9 - 1) g67 (by omega) (by omega) (by rw [hx1, if_neg (by omega), if_neg (by omega), jch_s (by omega) (by omega), hc77]; unfold jnx2 jnx; rw [y72]) (by omega) (by exact hx3) fg67 (by omega)
                · replace c46 : x5 < x3 := by first | exact c46 | exact Int.not_le.mp c46 | exact Int.not_lt.mp c46 | exact Decidable.not_not.mp c46
                  show jGo E l 92 229 229 _ 113 [.inr (.inr (.inl 176)), .inl x1, .inl x2, .inl x3, .inl x4, .inl x5, .inl x6, x7] [.inl x5] 229 jr0 g
                  refine jGo_blk qX12_workAll_113 ?_
                  refine st_gr jo_176 jr_176_21 ?_
                  refine st_ai jo_195 (show 0 ≤ x6 by omega) (show x6 < ((16 : Nat) : Int) by omega) (fun v78 ev78 b79 => ?_)
                  replace ev78 : v78 = g 195 x6 := ev78
                  replace b79 := (jba_195 x6 _).1 b79
                  refine And.intro (fun c80 => ?_) (fun c80 => ?_)
                  · replace c80 : v78 ≤ x5 := c80
                    show jGo E l 92 229 229 _ 132 [.inr (.inr (.inl 176)), .inl x1, .inl x2, .inl x3, .inl x4, .inl x5, .inl x6, .inl x5] [] 229 jr0 g
                    refine jGo_blk qX12_workAll_132 ?_
                    refine st_gr jo_176 jr_176_21 ?_
                    refine st_ai jo_195 (show 0 ≤ x6 by omega) (show x6 < ((16 : Nat) : Int) by omega) (fun v81 ev81 b82 => ?_)
                    replace ev81 : v81 = g 195 x6 := ev81
                    replace b82 := (jba_195 x6 _).1 b82
                    show jGo E l 92 229 229 _ 139 [.inr (.inr (.inl 176)), .inl x1, .inl x2, .inl x3, .inl x4, .inl x5, .inl x6, .inl x5] [.inl v81] 229 jr0 g
                    refine jGo_blk qX12_workAll_139 ?_
                    refine st_gr jo_176 jr_176_21 ?_
                    refine st_ai jo_195 (show 0 ≤ x6 by omega) (show x6 < ((16 : Nat) : Int) by omega) (fun v83 ev83 b84 => ?_)
                    replace ev83 : v83 = g 195 x6 := ev83
                    replace b84 := (jba_195 x6 _).1 b84
                    refine st_si jo_195 (show 0 ≤ x6 by omega) (show x6 < ((16 : Nat) : Int) by omega) (fun hx => (jba_195 _ _).2 hx) (fun g85 eg85 => ?_)
                    replace eg85 : g85 = jup g 195 x6 (jw32 (v83 - v81)) := eg85
                    have fg85 : jfr w_X12_workAll h g85 := jfr_up hf eg85 (by unfold w_X12_workAll; omega)
                    have e86 : g85 195 x6 = jw32 (v83 - v81) := jup_s eg85
                    show jGo E l 92 229 229 _ 160 [.inr (.inr (.inl 176)), .inl x1, .inl x2, .inl x3, .inl x4, .inl (jw32 (x5 - v81)), .inl x6, .inl v81] [] 229 jr0 g85
                    refine jGo_blk qX12_workAll_160 ?_
                    refine st_cv (na := 2) (st := [.inl 1, .inl x6, .inr (.inr (.inl 176))]) jo_176 rfl rfl rfl (c_X12_firstBehind x6 1 g85 (by omega)) rfl ?_
                    rintro _ _ _ ⟨rfl, rfl, t87, rfl, ht87, zt87⟩ kt87
                    replace kt87 : -2147483648 ≤ t87 ∧ t87 ≤ 2147483647 := kt87
                    replace ht87 : -1 ≤ t87 ∧ t87 ≤ 15 := ht87
                    replace zt87 : (t87 = -1 ∨ (0 ≤ t87 ∧ t87 ≤ 15 ∧ (x6 < 0 ∨ (99 - g85 190 x6) * 16 + x6 < (99 - g85 190 t87) * 16 + t87))) ∧ t87 = jfb g85 x6 (1 : Int) (g85 176 14).toNat := zt87
                    have y89 := zt87.2
                    show jGo E l 92 229 229 _ 70 [.inr (.inr (.inl 176)), .inl x1, .inl x2, .inl x3, .inl x4, .inl (jw32 (x5 - v81)), .inl t87, .inl v81] [] 229 jr0 g85
                    refine jGo_bd (fun hbd90 => ?_)
                    have b91 := (jba_190 t87 _).1 (hbd90 190 t87)
                    have b92 := (jba_190 x6 _).1 (hbd90 190 x6)
                    have e93 : g85 190 x6 = g 190 x6 := jup_o eg85 (by first | exact fun q => absurd q.1 (by decide) | exact fun q => absurd q.2 (by decide) | omega)
                    have hc94 : jmWo x3 x4 x6 (x5, g) = (jw32 (x5 - v81), g85) := by
                      subst eg85 ev83 ev81 ev78 ev36 ev26; unfold jmWo; show (if g 196 x6 = 0 ∨ ¬ g 194 x6 = x4 then (x5, g) else (jw32 (x5 - jmSn x3 x6 x5 g), jup g 195 x6 (jw32 (g 195 x6 - jmSn x3 x6 x5 g)))) = _; unfold jmSn jmii; (repeat (first | rw [if_pos (by omega)] | rw [if_neg (by omega)])); all_goals rfl
                    exact ih.2 x1 x2 x3 x4 (jw32 (x5 - v81)) t87 (.inl v81) (m9 - 1) g85 (by omega) (by omega) (by rw [hx1, if_neg (by omega), if_neg (by omega), jch_s (by omega) (by omega), hc94]; unfold jnx2 jnx; rw [y89]) (by omega) (by exact hx3) fg85 (by omega)
                  · replace c80 : x5 < v78 := by first | exact c80 | exact Int.not_le.mp c80 | exact Int.not_lt.mp c80 | exact Decidable.not_not.mp c80
                    show jGo E l 92 229 229 _ 139 [.inr (.inr (.inl 176)), .inl x1, .inl x2, .inl x3, .inl x4, .inl x5, .inl x6, .inl x5] [.inl x5] 229 jr0 g
                    refine jGo_blk qX12_workAll_139 ?_
                    refine st_gr jo_176 jr_176_21 ?_
                    refine st_ai jo_195 (show 0 ≤ x6 by omega) (show x6 < ((16 : Nat) : Int) by omega) (fun v95 ev95 b96 => ?_)
                    replace ev95 : v95 = g 195 x6 := ev95
                    replace b96 := (jba_195 x6 _).1 b96
                    refine st_si jo_195 (show 0 ≤ x6 by omega) (show x6 < ((16 : Nat) : Int) by omega) (fun hx => (jba_195 _ _).2 hx) (fun g97 eg97 => ?_)
                    replace eg97 : g97 = jup g 195 x6 (jw32 (v95 - x5)) := eg97
                    have fg97 : jfr w_X12_workAll h g97 := jfr_up hf eg97 (by unfold w_X12_workAll; omega)
                    have e98 : g97 195 x6 = jw32 (v95 - x5) := jup_s eg97
                    show jGo E l 92 229 229 _ 160 [.inr (.inr (.inl 176)), .inl x1, .inl x2, .inl x3, .inl x4, .inl (jw32 (x5 - x5)), .inl x6, .inl x5] [] 229 jr0 g97
                    refine jGo_blk qX12_workAll_160 ?_
                    refine st_cv (na := 2) (st := [.inl 1, .inl x6, .inr (.inr (.inl 176))]) jo_176 rfl rfl rfl (c_X12_firstBehind x6 1 g97 (by omega)) rfl ?_
                    rintro _ _ _ ⟨rfl, rfl, t99, rfl, ht99, zt99⟩ kt99
                    replace kt99 : -2147483648 ≤ t99 ∧ t99 ≤ 2147483647 := kt99
                    replace ht99 : -1 ≤ t99 ∧ t99 ≤ 15 := ht99
                    replace zt99 : (t99 = -1 ∨ (0 ≤ t99 ∧ t99 ≤ 15 ∧ (x6 < 0 ∨ (99 - g97 190 x6) * 16 + x6 < (99 - g97 190 t99) * 16 + t99))) ∧ t99 = jfb g97 x6 (1 : Int) (g97 176 14).toNat := zt99
                    have y101 := zt99.2
                    show jGo E l 92 229 229 _ 70 [.inr (.inr (.inl 176)), .inl x1, .inl x2, .inl x3, .inl x4, .inl (jw32 (x5 - x5)), .inl t99, .inl x5] [] 229 jr0 g97
                    refine jGo_bd (fun hbd102 => ?_)
                    have b103 := (jba_190 t99 _).1 (hbd102 190 t99)
                    have b104 := (jba_190 x6 _).1 (hbd102 190 x6)
                    have e105 : g97 190 x6 = g 190 x6 := jup_o eg97 (by first | exact fun q => absurd q.1 (by decide) | exact fun q => absurd q.2 (by decide) | omega)
                    have hc106 : jmWo x3 x4 x6 (x5, g) = (jw32 (x5 - x5), g97) := by
                      subst eg97 ev95 ev78 ev36 ev26; unfold jmWo; show (if g 196 x6 = 0 ∨ ¬ g 194 x6 = x4 then (x5, g) else (jw32 (x5 - jmSn x3 x6 x5 g), jup g 195 x6 (jw32 (g 195 x6 - jmSn x3 x6 x5 g)))) = _; unfold jmSn jmii; (repeat (first | rw [if_pos (by omega)] | rw [if_neg (by omega)])); all_goals rfl
                    exact ih.2 x1 x2 x3 x4 (jw32 (x5 - x5)) t99 (.inl x5) (m9 - 1) g97 (by omega) (by omega) (by rw [hx1, if_neg (by omega), if_neg (by omega), jch_s (by omega) (by omega), hc106]; unfold jnx2 jnx; rw [y101]) (by omega) (by exact hx3) fg97 (by omega)
  refine jGo_blk qX12_workAll_0 ?_
  refine st_gi jo_176 (fun v107 ev107 b108 => ?_)
  replace ev107 : v107 = h 176 0 := ev107
  replace b108 := (jbf_12_0 jo_176 _).1 b108
  refine st_cv (na := 3) (st := [.inl v107, .inl 0, .inl 2, .inr (.inr (.inl 176))]) jo_176 rfl rfl rfl (c_X12_forceAt 2 0 v107 h) rfl ?_
  rintro _ _ _ ⟨rfl, rfl, t109, rfl, ht109, zt109⟩ kt109
  replace kt109 : -2147483648 ≤ t109 ∧ t109 ≤ 2147483647 := kt109
  replace ht109 : 0 ≤ t109 ∧ t109 ≤ 200 := ht109
  replace zt109 : t109 = (jmv (h 182) (h 183) (h 184) (h 185) (2 : Int) (0 : Int) v107 (h 176 6).toNat).1 := zt109
  refine And.intro (fun c111 => ?_) (fun c111 => ?_)
  · replace c111 : t109 = 0 := c111
    show jGo E l 92 229 229 _ 24 [.inr (.inr (.inl 176)), .inl t109, .inr (.inr (.inr ())), .inr (.inr (.inr ())), .inr (.inr (.inr ())), .inr (.inr (.inr ())), .inr (.inr (.inr ())), .inr (.inr (.inr ()))] [] 229 jr0 h
    refine jGo_blk qX12_workAll_24 ?_
    show jGo E l 92 229 229 _ 29 [.inr (.inr (.inl 176)), .inl t109, .inr (.inr (.inr ())), .inr (.inr (.inr ())), .inr (.inr (.inr ())), .inr (.inr (.inr ())), .inr (.inr (.inr ())), .inr (.inr (.inr ()))] [.inl 1] 229 jr0 h
    refine jGo_blk qX12_workAll_29 ?_
    refine st_gi jo_176 (fun v112 ev112 b113 => ?_)
    replace ev112 : v112 = h 176 0 := ev112
    replace b113 := (jbf_12_0 jo_176 _).1 b113
    refine st_cv (na := 3) (st := [.inl v112, .inl 0, .inl 3, .inr (.inr (.inl 176))]) jo_176 rfl rfl rfl (c_X12_forceAt 3 0 v112 h) rfl ?_
    rintro _ _ _ ⟨rfl, rfl, t114, rfl, ht114, zt114⟩ kt114
    replace kt114 : -2147483648 ≤ t114 ∧ t114 ≤ 2147483647 := kt114
    replace ht114 : 0 ≤ t114 ∧ t114 ≤ 200 := ht114
    replace zt114 : t114 = (jmv (h 182) (h 183) (h 184) (h 185) (3 : Int) (0 : Int) v112 (h 176 6).toNat).1 := zt114
    show jGo E l 92 229 229 _ 44 [.inr (.inr (.inl 176)), .inl t109, .inl 1, .inl t114, .inl 0, .inr (.inr (.inr ())), .inr (.inr (.inr ())), .inr (.inr (.inr ()))] [] 229 jr0 h
    have hc116 : 1 = jmWk h ∧ t114 = jmFv h 3 0 (h 176 0) := by
      subst zt114 ev112 zt109 ev107; unfold jmWk jmFv
      constructor
      · first | rw [if_pos (by omega)] | rw [if_neg (by omega)]
      · rfl
    exact (key 1000000000000000000).1 t109 1 t114 0 (.inr (.inr (.inr ()))) (.inr (.inr (.inr ()))) (.inr (.inr (.inr ()))) h (by omega) (by rfl) (by exact hc116) f0 (by omega)
  · replace c111 : ¬ t109 = 0 := by first | exact c111 | exact Int.not_le.mp c111 | exact Int.not_lt.mp c111 | exact Decidable.not_not.mp c111
    refine st_gi jo_176 (fun v117 ev117 b118 => ?_)
    replace ev117 : v117 = h 176 0 := ev117
    replace b118 := (jbf_12_0 jo_176 _).1 b118
    refine And.intro (show t109 ≠ 0 by omega) ?_
    have e119 : True ∧ 0 ≤ v117.tmod t109 ∧ v117.tmod t109 < t109 := ⟨trivial, (jmd (by omega) (by omega)).2⟩
    refine And.intro (fun c120 => ?_) (fun c120 => ?_)
    · replace c120 : v117.tmod t109 = 0 := c120
      show jGo E l 92 229 229 _ 28 [.inr (.inr (.inl 176)), .inl t109, .inr (.inr (.inr ())), .inr (.inr (.inr ())), .inr (.inr (.inr ())), .inr (.inr (.inr ())), .inr (.inr (.inr ())), .inr (.inr (.inr ()))] [] 229 jr0 h
      refine jGo_blk qX12_workAll_28 ?_
      show jGo E l 92 229 229 _ 29 [.inr (.inr (.inl 176)), .inl t109, .inr (.inr (.inr ())), .inr (.inr (.inr ())), .inr (.inr (.inr ())), .inr (.inr (.inr ())), .inr (.inr (.inr ())), .inr (.inr (.inr ()))] [.inl 0] 229 jr0 h
      refine jGo_blk qX12_workAll_29 ?_
      refine st_gi jo_176 (fun v121 ev121 b122 => ?_)
      replace ev121 : v121 = h 176 0 := ev121
      replace b122 := (jbf_12_0 jo_176 _).1 b122
      refine st_cv (na := 3) (st := [.inl v121, .inl 0, .inl 3, .inr (.inr (.inl 176))]) jo_176 rfl rfl rfl (c_X12_forceAt 3 0 v121 h) rfl ?_
      rintro _ _ _ ⟨rfl, rfl, t123, rfl, ht123, zt123⟩ kt123
      replace kt123 : -2147483648 ≤ t123 ∧ t123 ≤ 2147483647 := kt123
      replace ht123 : 0 ≤ t123 ∧ t123 ≤ 200 := ht123
      replace zt123 : t123 = (jmv (h 182) (h 183) (h 184) (h 185) (3 : Int) (0 : Int) v121 (h 176 6).toNat).1 := zt123
      show jGo E l 92 229 229 _ 44 [.inr (.inr (.inl 176)), .inl t109, .inl 0, .inl t123, .inl 0, .inr (.inr (.inr ())), .inr (.inr (.inr ())), .inr (.inr (.inr ()))] [] 229 jr0 h
      have hc125 : 0 = jmWk h ∧ t123 = jmFv h 3 0 (h 176 0) := by
        subst zt123 ev121 ev117 zt109 ev107; unfold jmWk jmFv
        constructor
        · first | rw [if_pos (by omega)] | rw [if_neg (by omega)]
        · rfl
      exact (key 1000000000000000000).1 t109 0 t123 0 (.inr (.inr (.inr ()))) (.inr (.inr (.inr ()))) (.inr (.inr (.inr ()))) h (by omega) (by rfl) (by exact hc125) f0 (by omega)
    · replace c120 : ¬ v117.tmod t109 = 0 := by first | exact c120 | exact Int.not_le.mp c120 | exact Int.not_lt.mp c120 | exact Decidable.not_not.mp c120
      show jGo E l 92 229 229 _ 24 [.inr (.inr (.inl 176)), .inl t109, .inr (.inr (.inr ())), .inr (.inr (.inr ())), .inr (.inr (.inr ())), .inr (.inr (.inr ())), .inr (.inr (.inr ())), .inr (.inr (.inr ()))] [] 229 jr0 h
      refine jGo_blk qX12_workAll_24 ?_
      show jGo E l 92 229 229 _ 29 [.inr (.inr (.inl 176)), .inl t109, .inr (.inr (.inr ())), .inr (.inr (.inr ())), .inr (.inr (.inr ())), .inr (.inr (.inr ())), .inr (.inr (.inr ())), .inr (.inr (.inr ()))] [.inl 1] 229 jr0 h
      refine jGo_blk qX12_workAll_29 ?_
      refine st_gi jo_176 (fun v126 ev126 b127 => ?_)
      replace ev126 : v126 = h 176 0 := ev126
      replace b127 := (jbf_12_0 jo_176 _).1 b127
      refine st_cv (na := 3) (st := [.inl v126, .inl 0, .inl 3, .inr (.inr (.inl 176))]) jo_176 rfl rfl rfl (c_X12_forceAt 3 0 v126 h) rfl ?_
      rintro _ _ _ ⟨rfl, rfl, t128, rfl, ht128, zt128⟩ kt128
      replace kt128 : -2147483648 ≤ t128 ∧ t128 ≤ 2147483647 := kt128
      replace ht128 : 0 ≤ t128 ∧ t128 ≤ 200 := ht128
      replace zt128 : t128 = (jmv (h 182) (h 183) (h 184) (h 185) (3 : Int) (0 : Int) v126 (h 176 6).toNat).1 := zt128
      show jGo E l 92 229 229 _ 44 [.inr (.inr (.inl 176)), .inl t109, .inl 1, .inl t128, .inl 0, .inr (.inr (.inr ())), .inr (.inr (.inr ())), .inr (.inr (.inr ()))] [] 229 jr0 h
      have hc130 : 1 = jmWk h ∧ t128 = jmFv h 3 0 (h 176 0) := by
        subst zt128 ev126 ev117 zt109 ev107; unfold jmWk jmFv
        constructor
        · first | rw [if_pos (by omega)] | rw [if_neg (by omega)]
        · rfl
      exact (key 1000000000000000000).1 t109 1 t128 0 (.inr (.inr (.inr ()))) (.inr (.inr (.inr ()))) (.inr (.inr (.inr ()))) h (by omega) (by rfl) (by exact hc130) f0 (by omega)
