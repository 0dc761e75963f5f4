def w_X12_moveAll (i k : Int) : Prop := (192 ≤ i ∧ i ≤ 196) ∨ (198 ≤ i ∧ i ≤ 200) ∨ (i = 202)
def k_X12_moveAll (h : JH) (v : Option JV) (r' g : JH) : Prop := r' = jr0 ∧ jfr w_X12_moveAll h g ∧ ∃ x : Int, v = some (.inl x) ∧ (True) ∧ (g = jmMA h)
set_option maxHeartbeats 4000000 in
theorem c_X12_moveAll {E : JE} {l : Launch} (h : JH) : jMt E l 90 [.inr (.inr (.inl 176))] 229 jr0 h (k_X12_moveAll h) := by
  refine jMt0 (nL := 4) (ls := [.inr (.inr (.inl 176)), .inr (.inr (.inr ())), .inr (.inr (.inr ())), .inr (.inr (.inr ()))]) (by decide +kernel) (by decide +kernel) (by decide +kernel) rfl rfl ?_
  have f0 : jfr w_X12_moveAll h h := jfr_rf _ _
  have key : ∀ N : Nat, (∀ (x1 : Int) (x2 : Int) (x3 : JV) (g : JH), ((-1) ≤ x2 ∧ x2 ≤ 5) → (g = jit jmMr (5 - x2).toNat h) → (-1 ≤ x2 ∧ x2 ≤ 5) → jfr w_X12_moveAll h g → (x2 - (-1)) < (N : Int) → jGo E l 90 229 229 (jRK (k_X12_moveAll h)) 4 [.inr (.inr (.inl 176)), .inl x1, .inl x2, x3] [] 229 jr0 g) := by
    intro N
    induction N with
    | zero => exact fun _ _ _ _ hi hx0 hx1 _ hN => absurd hN (by omega)
    | succ N ih =>
      intro x1 x2 x3 g hi hx0 hx1 hf hN
      refine jGo_ok (fun hls _ => ?_)
      have rx1 : -2147483648 ≤ x1 ∧ x1 ≤ 2147483647 := hls (.inl x1) (by simp)
      refine jGo_blk qX12_moveAll_4 ?_
      refine And.intro (fun c1 => ?_) (fun c1 => ?_)
      · replace c1 : x2 < 0 := c1
        show jGo E l 90 229 229 _ 121 [.inr (.inr (.inl 176)), .inl x1, .inl x2, x3] [] 229 jr0 g
        refine jGo_blk qX12_moveAll_121 ?_
        refine st_cv (na := 2) (st := [.inl 0, .inl (-1), .inr (.inr (.inl 176))]) jo_176 rfl rfl rfl (c_X12_firstBehind (-1) 0 g (by omega)) rfl ?_
        rintro _ _ _ ⟨rfl, rfl, t2, rfl, ht2, zt2⟩ kt2
        replace kt2 : -2147483648 ≤ t2 ∧ t2 ≤ 2147483647 := kt2
        replace ht2 : -1 ≤ t2 ∧ t2 ≤ 15 := ht2
        replace zt2 : (t2 = -1 ∨ (0 ≤ t2 ∧ t2 ≤ 15 ∧ ((-1 : Int) < 0 ∨ (99 - g 190 (-1 : Int)) * 16 + (-1 : Int) < (99 - g 190 t2) * 16 + t2))) ∧ t2 = jfb g (-1 : Int) (0 : Int) (g 176 14).toNat := zt2
        have y4 := zt2.2
        refine st_gr jo_176 jr_176_28 ?_
        refine st_ai jo_202 (show 0 ≤ 0 by omega) (show 0 < ((6 : Nat) : Int) by omega) (fun v5 ev5 b6 => ?_)
        replace ev5 : v5 = g 202 0 := ev5
        replace b6 := (jba_202 0 _).1 b6
        refine And.intro (fun c7 => ?_) (fun c7 => ?_)
        · replace c7 : 0 ≤ v5 := c7
          show jGo E l 90 229 229 _ 147 [.inr (.inr (.inl 176)), .inl x1, .inl t2, x3] [] 229 jr0 g
          refine jGo_blk qX12_moveAll_147 ?_
          have hg9 : g = jit jmMr 6 h := hx0.trans (by rw [show 5 - x2 = 6 by omega] <;> rfl)
          exact st_r0 (ls := []) ⟨rfl, rfl, hf, x1, rfl, trivial, (by unfold jmMA; rw [← hg9]; subst ev5 y4; unfold jmLi; (repeat (first | rw [if_pos (by omega)] | rw [if_neg (by omega)])); all_goals ((try rfl)))⟩
        · replace c7 : v5 < 0 := by first | exact c7 | exact Int.not_le.mp c7 | exact Int.not_lt.mp c7 | exact Decidable.not_not.mp c7
          refine And.intro (fun c8 => ?_) (fun c8 => ?_)
          · replace c8 : t2 < 0 := c8
            show jGo E l 90 229 229 _ 147 [.inr (.inr (.inl 176)), .inl x1, .inl t2, x3] [] 229 jr0 g
            refine jGo_blk qX12_moveAll_147 ?_
            have hg9 : g = jit jmMr 6 h := hx0.trans (by rw [show 5 - x2 = 6 by omega] <;> rfl)
            exact st_r0 (ls := []) ⟨rfl, rfl, hf, x1, rfl, trivial, (by unfold jmMA; rw [← hg9]; subst ev5 y4; unfold jmLi; (repeat (first | rw [if_pos (by omega)] | rw [if_neg (by omega)])); all_goals ((try rfl)))⟩
          · replace c8 : 0 ≤ t2 := by first | exact c8 | exact Int.not_le.mp c8 | exact Int.not_lt.mp c8 | exact Decidable.not_not.mp c8
            refine st_cv (na := 2) (st := [.inl 0, .inl t2, .inr (.inr (.inl 176))]) jo_176 rfl rfl rfl (c_X12_enter t2 0 g (by omega) (by omega)) rfl ?_
            rintro _ _ g10 ⟨rfl, ft9, rfl, zt9⟩ kt9
            have fg10 : jfr w_X12_moveAll h g10 := jfr_tr hf ft9 (fun i k q => by unfold w_X12_enter at q; unfold w_X12_moveAll; omega)
            replace zt9 : g10 = jmEnt t2 (0 : Int) g := zt9
            show jGo E l 90 229 229 _ 147 [.inr (.inr (.inl 176)), .inl x1, .inl t2, x3] [] 229 jr0 g10
            refine jGo_blk qX12_moveAll_147 ?_
            have hg9 : g = jit jmMr 6 h := hx0.trans (by rw [show 5 - x2 = 6 by omega] <;> rfl)
            exact st_r0 (ls := []) ⟨rfl, rfl, fg10, x1, rfl, trivial, (by unfold jmMA; rw [← hg9]; subst zt9 ev5 y4; unfold jmLi; (repeat (first | rw [if_pos (by omega)] | rw [if_neg (by omega)])); all_goals ((try rfl)))⟩
      · replace c1 : 0 ≤ x2 := by first | exact c1 | exact Int.not_le.mp c1 | exact Int.not_lt.mp c1 | exact Decidable.not_not.mp c1
        refine st_gr jo_176 jr_176_28 ?_
        refine st_ai jo_202 (show 0 ≤ x2 by omega) (show x2 < ((6 : Nat) : Int) by omega) (fun v11 ev11 b12 => ?_)
        replace ev11 : v11 = g 202 x2 := ev11
        replace b12 := (jba_202 x2 _).1 b12
        refine And.intro (fun c13 => ?_) (fun c13 => ?_)
        · replace c13 : v11 < 0 := c13
          show jGo E l 90 229 229 _ 115 [.inr (.inr (.inl 176)), .inl x1, .inl x2, .inl v11] [] 229 jr0 g
          refine jGo_blk qX12_moveAll_115 ?_
          have e14 : jw32 (x2 + (-1)) = x2 + (-1) := j32e (by omega) (by omega)
          show jGo E l 90 229 229 _ 4 [.inr (.inr (.inl 176)), .inl x1, .inl (jw32 (x2 + (-1))), .inl v11] [] 229 jr0 g
          exact ih x1 (jw32 (x2 + (-1))) (.inl v11) g (by omega) (by rw [show 5 - jw32 (x2 + (-1)) = (5 - x2) + 1 by omega, jit_s (by omega), ← hx0]; unfold jmMr; rw [show 5 - (5 - x2) = x2 by omega]; subst ev11; unfold jmMv jmLv; (repeat (first | rw [if_pos (by omega)] | rw [if_neg (by omega)])); all_goals ((try rw [e14]); (try rfl))) (by omega) hf (by omega)
        · replace c13 : 0 ≤ v11 := by first | exact c13 | exact Int.not_le.mp c13 | exact Int.not_lt.mp c13 | exact Decidable.not_not.mp c13
          refine And.intro (fun c15 => ?_) (fun c15 => ?_)
          · replace c15 : v11 = 100 := c15
            show jGo E l 90 229 229 _ 115 [.inr (.inr (.inl 176)), .inl x1, .inl x2, .inl v11] [] 229 jr0 g
            refine jGo_blk qX12_moveAll_115 ?_
            have e16 : jw32 (x2 + (-1)) = x2 + (-1) := j32e (by omega) (by omega)
            show jGo E l 90 229 229 _ 4 [.inr (.inr (.inl 176)), .inl x1, .inl (jw32 (x2 + (-1))), .inl v11] [] 229 jr0 g
            exact ih x1 (jw32 (x2 + (-1))) (.inl v11) g (by omega) (by rw [show 5 - jw32 (x2 + (-1)) = (5 - x2) + 1 by omega, jit_s (by omega), ← hx0]; unfold jmMr; rw [show 5 - (5 - x2) = x2 by omega]; subst ev11; unfold jmMv jmLv; (repeat (first | rw [if_pos (by omega)] | rw [if_neg (by omega)])); all_goals ((try rw [e16]); (try rfl))) (by omega) hf (by omega)
          · replace c15 : ¬ v11 = 100 := by first | exact c15 | exact Int.not_le.mp c15 | exact Int.not_lt.mp c15 | exact Decidable.not_not.mp c15
            refine st_gr jo_176 jr_176_22 ?_
            refine st_bi jo_196 (show 0 ≤ v11 by omega) (show v11 < ((16 : Nat) : Int) by omega) (fun v17 ev17 b18 => ?_)
            replace ev17 : v17 = g 196 v11 := ev17
            replace b18 := (jba_196 v11 _).1 b18
            refine And.intro (fun c19 => ?_) (fun c19 => ?_)
            · replace c19 : v17 = 0 := c19
              show jGo E l 90 229 229 _ 115 [.inr (.inr (.inl 176)), .inl x1, .inl x2, .inl v11] [] 229 jr0 g
              refine jGo_blk qX12_moveAll_115 ?_
              have e20 : jw32 (x2 + (-1)) = x2 + (-1) := j32e (by omega) (by omega)
              show jGo E l 90 229 229 _ 4 [.inr (.inr (.inl 176)), .inl x1, .inl (jw32 (x2 + (-1))), .inl v11] [] 229 jr0 g
              exact ih x1 (jw32 (x2 + (-1))) (.inl v11) g (by omega) (by rw [show 5 - jw32 (x2 + (-1)) = (5 - x2) + 1 by omega, jit_s (by omega), ← hx0]; unfold jmMr; rw [show 5 - (5 - x2) = x2 by omega]; subst ev17 ev11; unfold jmMv jmLv; (repeat (first | rw [if_pos (by omega)] | rw [if_neg (by omega)])); all_goals ((try rw [e20]); (try rfl))) (by omega) hf (by omega)
            · replace c19 : ¬ v17 = 0 := by first | exact c19 | exact Int.not_le.mp c19 | exact Int.not_lt.mp c19 | exact Decidable.not_not.mp c19
              refine st_gr jo_176 jr_176_21 ?_
              refine st_ai jo_195 (show 0 ≤ v11 by omega) (show v11 < ((16 : Nat) : Int) by omega) (fun v21 ev21 b22 => ?_)
              replace ev21 : v21 = g 195 v11 := ev21
              replace b22 := (jba_195 v11 _).1 b22
              refine And.intro (fun c23 => ?_) (fun c23 => ?_)
              · replace c23 : v21 ≤ 0 := c23
                show jGo E l 90 229 229 _ 46 [.inr (.inr (.inl 176)), .inl x1, .inl x2, .inl v11] [] 229 jr0 g
                refine jGo_blk qX12_moveAll_46 ?_
                refine And.intro (fun c24 => ?_) (fun c24 => ?_)
                · replace c24 : ¬ x2 = 5 := c24
                  show jGo E l 90 229 229 _ 89 [.inr (.inr (.inl 176)), .inl x1, .inl x2, .inl v11] [] 229 jr0 g
                  refine jGo_blk qX12_moveAll_89 ?_
                  refine st_gr jo_176 jr_176_28 ?_
                  have e25 : jw32 (x2 + 1) = x2 + 1 := j32e (by omega) (by omega)
                  refine st_ai jo_202 (show 0 ≤ jw32 (x2 + 1) by omega) (show jw32 (x2 + 1) < ((6 : Nat) : Int) by omega) (fun v26 ev26 b27 => ?_)
                  replace ev26 : v26 = g 202 (jw32 (x2 + 1)) := ev26
                  replace b27 := (jba_202 (jw32 (x2 + 1)) _).1 b27
                  refine And.intro (fun c28 => ?_) (fun c28 => ?_)
                  · replace c28 : 0 ≤ v26 := c28
                    show jGo E l 90 229 229 _ 115 [.inr (.inr (.inl 176)), .inl x1, .inl x2, .inl v11] [] 229 jr0 g
                    refine jGo_blk qX12_moveAll_115 ?_
                    have e29 : jw32 (x2 + (-1)) = x2 + (-1) := j32e (by omega) (by omega)
                    show jGo E l 90 229 229 _ 4 [.inr (.inr (.inl 176)), .inl x1, .inl (jw32 (x2 + (-1))), .inl v11] [] 229 jr0 g
                    have e30 : g 202 (jw32 (x2 + 1)) = g 202 (x2 + 1) := congrArg (g 202) (show jw32 (x2 + 1) = (x2 + 1) by omega)
                    exact ih x1 (jw32 (x2 + (-1))) (.inl v11) g (by omega) (by rw [show 5 - jw32 (x2 + (-1)) = (5 - x2) + 1 by omega, jit_s (by omega), ← hx0]; unfold jmMr; rw [show 5 - (5 - x2) = x2 by omega]; subst ev26 ev21 ev17 ev11; unfold jmMv jmLv; (repeat (first | rw [if_pos (by omega)] | rw [if_neg (by omega)])); all_goals ((try rw [e29]); (try rw [e25]); (try rfl))) (by omega) hf (by omega)
                  · replace c28 : v26 < 0 := by first | exact c28 | exact Int.not_le.mp c28 | exact Int.not_lt.mp c28 | exact Decidable.not_not.mp c28
                    refine st_gr jo_176 jr_176_28 ?_
                    refine st_si jo_202 (show 0 ≤ x2 by omega) (show x2 < ((6 : Nat) : Int) by omega) (fun hx => (jba_202 _ _).2 (show (-1 ≤ (-1) ∧ (-1) ≤ 15) ∨ (-1) = 100 by omega)) (fun g31 eg31 => ?_)
                    replace eg31 : g31 = jup g 202 x2 (-1) := eg31
                    have fg31 : jfr w_X12_moveAll h g31 := jfr_up hf eg31 (by unfold w_X12_moveAll; omega)
                    have e32 : g31 202 x2 = (-1) := jup_s eg31
                    have e33 : jw32 (x2 + 1) = x2 + 1 := j32e (by omega) (by omega)
                    refine st_cv (na := 2) (st := [.inl (jw32 (x2 + 1)), .inl v11, .inr (.inr (.inl 176))]) jo_176 rfl rfl rfl (c_X12_enter v11 (jw32 (x2 + 1)) g31 (by omega) (by omega)) rfl ?_
                    rintro _ _ g35 ⟨rfl, ft34, rfl, zt34⟩ kt34
                    have fg35 : jfr w_X12_moveAll h g35 := jfr_tr fg31 ft34 (fun i k q => by unfold w_X12_enter at q; unfold w_X12_moveAll; omega)
                    replace zt34 : g35 = jmEnt v11 (jw32 (x2 + 1)) g31 := zt34
                    show jGo E l 90 229 229 _ 115 [.inr (.inr (.inl 176)), .inl x1, .inl x2, .inl v11] [] 229 jr0 g35
                    refine jGo_blk qX12_moveAll_115 ?_
                    have e36 : jw32 (x2 + (-1)) = x2 + (-1) := j32e (by omega) (by omega)
                    show jGo E l 90 229 229 _ 4 [.inr (.inr (.inl 176)), .inl x1, .inl (jw32 (x2 + (-1))), .inl v11] [] 229 jr0 g35
                    have e37 : g 202 (jw32 (x2 + 1)) = g 202 (x2 + 1) := congrArg (g 202) (show jw32 (x2 + 1) = (x2 + 1) by omega)
                    exact ih x1 (jw32 (x2 + (-1))) (.inl v11) g35 (by omega) (by rw [show 5 - jw32 (x2 + (-1)) = (5 - x2) + 1 by omega, jit_s (by omega), ← hx0]; unfold jmMr; rw [show 5 - (5 - x2) = x2 by omega]; subst zt34 eg31 ev26 ev21 ev17 ev11; unfold jmMv jmLv; (repeat (first | rw [if_pos (by omega)] | rw [if_neg (by omega)])); all_goals ((try rw [e36]); (try rw [e33]); (try rw [e25]); (try rfl))) (by omega) fg35 (by omega)
                · replace c24 : x2 = 5 := by first | exact c24 | exact Int.not_le.mp c24 | exact Int.not_lt.mp c24 | exact Decidable.not_not.mp c24
                  refine st_gr jo_176 jr_176_28 ?_
                  refine st_si jo_202 (show 0 ≤ x2 by omega) (show x2 < ((6 : Nat) : Int) by omega) (fun hx => (jba_202 _ _).2 (show (-1 ≤ (-1) ∧ (-1) ≤ 15) ∨ (-1) = 100 by omega)) (fun g38 eg38 => ?_)
                  replace eg38 : g38 = jup g 202 x2 (-1) := eg38
                  have fg38 : jfr w_X12_moveAll h g38 := jfr_up hf eg38 (by unfold w_X12_moveAll; omega)
                  have e39 : g38 202 x2 = (-1) := jup_s eg38
                  refine st_gr jo_176 jr_176_18 ?_
                  refine st_si jo_192 (show 0 ≤ v11 by omega) (show v11 < ((16 : Nat) : Int) by omega) (fun hx => (jba_192 _ _).2 (show 0 ≤ 2 ∧ 2 ≤ 3 by omega)) (fun g40 eg40 => ?_)
                  replace eg40 : g40 = jup g38 192 v11 2 := eg40
                  have fg40 : jfr w_X12_moveAll h g40 := jfr_up fg38 eg40 (by unfold w_X12_moveAll; omega)
                  have e41 : g40 192 v11 = 2 := jup_s eg40
                  refine st_gr jo_176 jr_176_19 ?_
                  refine st_si jo_193 (show 0 ≤ v11 by omega) (show v11 < ((16 : Nat) : Int) by omega) (fun hx => (jba_193 _ _).2 (show -9 ≤ (-9) ∧ (-9) ≤ 5 by omega)) (fun g42 eg42 => ?_)
                  replace eg42 : g42 = jup g40 193 v11 (-9) := eg42
                  have fg42 : jfr w_X12_moveAll h g42 := jfr_up fg40 eg42 (by unfold w_X12_moveAll; omega)
                  have e43 : g42 193 v11 = (-9) := jup_s eg42
                  refine st_gr jo_176 jr_176_24 ?_
                  refine st_gi jo_176 (fun v44 ev44 b45 => ?_)
                  replace ev44 : v44 = g42 176 0 := ev44
                  replace b45 := (jbf_12_0 jo_176 _).1 b45
                  have e46 : g42 176 0 = g40 176 0 := jup_o eg42 (by omega)
                  have e47 : g40 176 0 = g38 176 0 := jup_o eg40 (by omega)
                  have e48 : g38 176 0 = g 176 0 := jup_o eg38 (by omega)
                  refine st_si jo_198 (show 0 ≤ v11 by omega) (show v11 < ((16 : Nat) : Int) by omega) (fun hx => (jba_198 _ _).2 hx) (fun g49 eg49 => ?_)
                  replace eg49 : g49 = jup g42 198 v11 v44 := eg49
                  have fg49 : jfr w_X12_moveAll h g49 := jfr_up fg42 eg49 (by unfold w_X12_moveAll; omega)
                  have e50 : g49 198 v11 = v44 := jup_s eg49
                  show jGo E l 90 229 229 _ 115 [.inr (.inr (.inl 176)), .inl (jw32 (x1 + 1)), .inl x2, .inl v11] [] 229 jr0 g49
                  refine jGo_blk qX12_moveAll_115 ?_
                  have e51 : jw32 (x2 + (-1)) = x2 + (-1) := j32e (by omega) (by omega)
                  show jGo E l 90 229 229 _ 4 [.inr (.inr (.inl 176)), .inl (jw32 (x1 + 1)), .inl (jw32 (x2 + (-1))), .inl v11] [] 229 jr0 g49
                  exact ih (jw32 (x1 + 1)) (jw32 (x2 + (-1))) (.inl v11) g49 (by omega) (by rw [show 5 - jw32 (x2 + (-1)) = (5 - x2) + 1 by omega, jit_s (by omega), ← hx0]; unfold jmMr; rw [show 5 - (5 - x2) = x2 by omega]; subst eg49 ev44 eg42 eg40 eg38 ev21 ev17 ev11; unfold jmMv jmLv; (repeat (first | rw [if_pos (by omega)] | rw [if_neg (by omega)])); all_goals ((try rw [e51]); (try rfl))) (by omega) fg49 (by omega)
              · replace c23 : 0 < v21 := by first | exact c23 | exact Int.not_le.mp c23 | exact Int.not_lt.mp c23 | exact Decidable.not_not.mp c23
                show jGo E l 90 229 229 _ 115 [.inr (.inr (.inl 176)), .inl x1, .inl x2, .inl v11] [] 229 jr0 g
                refine jGo_blk qX12_moveAll_115 ?_
                have e52 : jw32 (x2 + (-1)) = x2 + (-1) := j32e (by omega) (by omega)
                show jGo E l 90 229 229 _ 4 [.inr (.inr (.inl 176)), .inl x1, .inl (jw32 (x2 + (-1))), .inl v11] [] 229 jr0 g
                exact ih x1 (jw32 (x2 + (-1))) (.inl v11) g (by omega) (by rw [show 5 - jw32 (x2 + (-1)) = (5 - x2) + 1 by omega, jit_s (by omega), ← hx0]; unfold jmMr; rw [show 5 - (5 - x2) = x2 by omega]; subst ev21 ev17 ev11; unfold jmMv jmLv; (repeat (first | rw [if_pos (by omega)] | rw [if_neg (by omega)])); all_goals ((try rw [e52]); (try rfl))) (by omega) hf (by omega)
  refine jGo_blk qX12_moveAll_0 ?_
  show jGo E l 90 229 229 _ 4 [.inr (.inr (.inl 176)), .inl 0, .inl 5, .inr (.inr (.inr ()))] [] 229 jr0 h
  exact (key 1000000000000) 0 5 (.inr (.inr (.inr ()))) h (by omega) (by rfl) (by omega) f0 (by omega)
