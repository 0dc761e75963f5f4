def w_X12_workAll (i k : Int) : Prop := (i = 195) ∨ (i = 176 ∧ k = 32)
def k_X12_workAll (h : JH) (v : Option JV) (r' g : JH) : Prop := r' = jr0 ∧ jfr w_X12_workAll h g ∧ v = none ∧ (True)
set_option maxHeartbeats 4000000 in
theorem c_X12_workAll {E : JE} {l : Launch} (h : JH) : jMt E l 92 [.inr (.inr (.inl 176))] 229 jr0 h (k_X12_workAll h) := by
  refine jMt0 (nL := 8) (ls := [.inr (.inr (.inl 176)), .inr (.inr (.inr ())), .inr (.inr (.inr ())), .inr (.inr (.inr ())), .inr (.inr (.inr ())), .inr (.inr (.inr ())), .inr (.inr (.inr ())), .inr (.inr (.inr ()))]) (by decide +kernel) (by decide +kernel) (by decide +kernel) rfl rfl ?_
  have f0 : jfr w_X12_workAll h h := jfr_rf _ _
  have key : ∀ N : Nat, (∀ (x1 : Int) (x2 : Int) (x3 : Int) (x4 : Int) (x5 : JV) (x6 : JV) (x7 : JV) (g : JH), (0 ≤ x1 ∧ x1 ≤ 200 ∧ 0 ≤ x2 ∧ x2 ≤ 1 ∧ 0 ≤ x3 ∧ x3 ≤ 200 ∧ 0 ≤ x4 ∧ x4 ≤ 4) → jfr w_X12_workAll h g → (4 - x4) * 1000000 + 999999 < (N : Int) → jGo E l 92 229 229 (jRK (k_X12_workAll h)) 44 [.inr (.inr (.inl 176)), .inl x1, .inl x2, .inl x3, .inl x4, x5, x6, x7] [] 229 jr0 g) ∧
      (∀ (x1 : Int) (x2 : Int) (x3 : Int) (x4 : Int) (x5 : Int) (x6 : Int) (x7 : JV) (m9 : Int) (g : JH), (0 ≤ x1 ∧ x1 ≤ 200 ∧ 0 ≤ x2 ∧ x2 ≤ 1 ∧ 0 ≤ x3 ∧ x3 ≤ 200 ∧ 0 ≤ x4 ∧ x4 ≤ 3 ∧ (-1) ≤ x6 ∧ x6 ≤ 15) → (0 ≤ m9 ∧ m9 ≤ 1700 ∧ (x6 < 0 ∨ 1700 - ((99 - g 190 x6) * 16 + x6) ≤ m9)) → jfr w_X12_workAll h g → (4 - x4) * 1000000 + m9 < (N : Int) → jGo E l 92 229 229 (jRK (k_X12_workAll h)) 70 [.inr (.inr (.inl 176)), .inl x1, .inl x2, .inl x3, .inl x4, .inl x5, .inl x6, x7] [] 229 jr0 g) := by
    intro N
    induction N with
    | zero => exact ⟨fun _ _ _ _ _ _ _ _ hi _ hN => absurd hN (by omega), fun _ _ _ _ _ _ _ _ _ hi hx0 _ hN => absurd hN (by omega)⟩
    | succ N ih =>
      refine ⟨?_, ?_⟩
      · intro x1 x2 x3 x4 x5 x6 x7 g hi hf hN
        refine jGo_blk qX12_workAll_44 ?_
        refine And.intro (fun c1 => ?_) (fun c1 => ?_)
        · replace c1 : 4 ≤ x4 := c1
          show jGo E l 92 229 229 _ 189 [.inr (.inr (.inl 176)), .inl x1, .inl x2, .inl x3, .inl x4, x5, x6, x7] [] 229 jr0 g
          refine jGo_blk qX12_workAll_189 ?_
          exact ⟨rfl, rfl, hf, rfl, trivial⟩
        · replace c1 : x4 < 4 := by first | exact c1 | exact Int.not_le.mp c1 | exact Int.not_lt.mp c1 | exact Decidable.not_not.mp c1
          refine st_gi jo_176 (fun v2 ev2 b3 => ?_)
          replace ev2 : v2 = g 176 0 := ev2
          replace b3 := (jbf_12_0 jo_176 _).1 b3
          refine st_cv (na := 2) (st := [.inl v2, .inl x4, .inr (.inr (.inl 176))]) jo_176 rfl rfl rfl (c_X12_handsAt x4 v2 g (by omega) (by omega)) rfl ?_
          rintro _ _ _ ⟨rfl, rfl, t4, rfl, ht4, zt4⟩ kt4
          replace kt4 : -2147483648 ≤ t4 ∧ t4 ≤ 2147483647 := kt4
          replace ht4 : 0 ≤ t4 ∧ t4 ≤ 400 := ht4
          replace zt4 : t4 = jHm g x4 v2 ∧ -1 ≤ g 178 x4 ∧ g 178 x4 ≤ 3 ∧ (g 178 x4 < 0 ∨ g 179 (g 178 x4) ≤ 30) := zt4
          refine st_cv (na := 2) (st := [.inl 1, .inl (-1), .inr (.inr (.inl 176))]) jo_176 rfl rfl rfl (c_X12_firstBehind (-1) 1 g (by omega)) rfl ?_
          rintro _ _ _ ⟨rfl, rfl, t6, rfl, ht6, zt6⟩ kt6
          replace kt6 : -2147483648 ≤ t6 ∧ t6 ≤ 2147483647 := kt6
          replace ht6 : -1 ≤ t6 ∧ t6 ≤ 15 := ht6
          replace zt6 : t6 = -1 ∨ (0 ≤ t6 ∧ t6 ≤ 15 ∧ ((-1 : Int) < 0 ∨ (99 - g 190 (-1 : Int)) * 16 + (-1 : Int) < (99 - g 190 t6) * 16 + t6)) := zt6
          show jGo E l 92 229 229 _ 70 [.inr (.inr (.inl 176)), .inl x1, .inl x2, .inl x3, .inl x4, .inl t4, .inl t6, x7] [] 229 jr0 g
          refine jGo_bd (fun hbd8 => ?_)
          have b9 := (jba_190 t6 _).1 (hbd8 190 t6)
          exact ih.2 x1 x2 x3 x4 t4 t6 x7 1700 g (by omega) (by omega) hf (by omega)
      · intro x1 x2 x3 x4 x5 x6 x7 m9 g hi hx0 hf hN
        refine jGo_ok (fun hls _ => ?_)
        have rx5 : -2147483648 ≤ x5 ∧ x5 ≤ 2147483647 := hls (.inl x5) (by simp)
        refine jGo_blk qX12_workAll_70 ?_
        refine And.intro (fun c10 => ?_) (fun c10 => ?_)
        · replace c10 : x6 < 0 := c10
          show jGo E l 92 229 229 _ 172 [.inr (.inr (.inl 176)), .inl x1, .inl x2, .inl x3, .inl x4, .inl x5, .inl x6, x7] [] 229 jr0 g
          refine jGo_blk qX12_workAll_172 ?_
          refine st_gi jo_176 (fun v11 ev11 b12 => ?_)
          replace ev11 : v11 = g 176 32 := ev11
          replace b12 := (jbf_12_32 jo_176 _).1 b12
          refine st_pi jo_176 (fun hx => (jbf_12_32 jo_176 _).2 hx) (fun g13 eg13 => ?_)
          replace eg13 : g13 = jup g 176 32 (jw32 (v11 + x5)) := eg13
          have fg13 : jfr w_X12_workAll h g13 := jfr_up hf eg13 (by unfold w_X12_workAll; omega)
          have e14 : g13 176 32 = jw32 (v11 + x5) := jup_s eg13
          have e15 : jw32 (x4 + 1) = x4 + 1 := j32e (by omega) (by omega)
          show jGo E l 92 229 229 _ 44 [.inr (.inr (.inl 176)), .inl x1, .inl x2, .inl x3, .inl (jw32 (x4 + 1)), .inl x5, .inl x6, x7] [] 229 jr0 g13
          exact ih.1 x1 x2 x3 (jw32 (x4 + 1)) (.inl x5) (.inl x6) x7 g13 (by omega) fg13 (by omega)
        · replace c10 : 0 ≤ x6 := by first | exact c10 | exact Int.not_le.mp c10 | exact Int.not_lt.mp c10 | exact Decidable.not_not.mp c10
          refine And.intro (fun c16 => ?_) (fun c16 => ?_)
          · replace c16 : x2 = 0 := c16
            show jGo E l 92 229 229 _ 172 [.inr (.inr (.inl 176)), .inl x1, .inl x2, .inl x3, .inl x4, .inl x5, .inl x6, x7] [] 229 jr0 g
            refine jGo_blk qX12_workAll_172 ?_
            refine st_gi jo_176 (fun v17 ev17 b18 => ?_)
            replace ev17 : v17 = g 176 32 := ev17
            replace b18 := (jbf_12_32 jo_176 _).1 b18
            refine st_pi jo_176 (fun hx => (jbf_12_32 jo_176 _).2 hx) (fun g19 eg19 => ?_)
            replace eg19 : g19 = jup g 176 32 (jw32 (v17 + x5)) := eg19
            have fg19 : jfr w_X12_workAll h g19 := jfr_up hf eg19 (by unfold w_X12_workAll; omega)
            have e20 : g19 176 32 = jw32 (v17 + x5) := jup_s eg19
            have e21 : jw32 (x4 + 1) = x4 + 1 := j32e (by omega) (by omega)
            show jGo E l 92 229 229 _ 44 [.inr (.inr (.inl 176)), .inl x1, .inl x2, .inl x3, .inl (jw32 (x4 + 1)), .inl x5, .inl x6, x7] [] 229 jr0 g19
            exact ih.1 x1 x2 x3 (jw32 (x4 + 1)) (.inl x5) (.inl x6) x7 g19 (by omega) fg19 (by omega)
          · replace c16 : ¬ x2 = 0 := by first | exact c16 | exact Int.not_le.mp c16 | exact Int.not_lt.mp c16 | exact Decidable.not_not.mp c16
            refine st_gr jo_176 jr_176_22 ?_
            refine st_bi jo_196 (show 0 ≤ x6 by omega) (show x6 < ((16 : Nat) : Int) by omega) (fun v22 ev22 b23 => ?_)
            replace ev22 : v22 = g 196 x6 := ev22
            replace b23 := (jba_196 x6 _).1 b23
            refine And.intro (fun c24 => ?_) (fun c24 => ?_)
            · replace c24 : v22 = 0 := c24
              show jGo E l 92 229 229 _ 160 [.inr (.inr (.inl 176)), .inl x1, .inl x2, .inl x3, .inl x4, .inl x5, .inl x6, x7] [] 229 jr0 g
              refine jGo_blk qX12_workAll_160 ?_
              refine st_cv (na := 2) (st := [.inl 1, .inl x6, .inr (.inr (.inl 176))]) jo_176 rfl rfl rfl (c_X12_firstBehind x6 1 g (by omega)) rfl ?_
              rintro _ _ _ ⟨rfl, rfl, t25, rfl, ht25, zt25⟩ kt25
              replace kt25 : -2147483648 ≤ t25 ∧ t25 ≤ 2147483647 := kt25
              replace ht25 : -1 ≤ t25 ∧ t25 ≤ 15 := ht25
              replace zt25 : t25 = -1 ∨ (0 ≤ t25 ∧ t25 ≤ 15 ∧ (x6 < 0 ∨ (99 - g 190 x6) * 16 + x6 < (99 - g 190 t25) * 16 + t25)) := zt25
              show jGo E l 92 229 229 _ 70 [.inr (.inr (.inl 176)), .inl x1, .inl x2, .inl x3, .inl x4, .inl x5, .inl t25, x7] [] 229 jr0 g
              refine jGo_bd (fun hbd27 => ?_)
              have b28 := (jba_190 t25 _).1 (hbd27 190 t25)
              have b29 := (jba_190 x6 _).1 (hbd27 190 x6)
              exact ih.2 x1 x2 x3 x4 x5 t25 x7 (m9 - 1) g (by omega) (by omega) hf (by omega)
            · replace c24 : ¬ v22 = 0 := by first | exact c24 | exact Int.not_le.mp c24 | exact Int.not_lt.mp c24 | exact Decidable.not_not.mp c24
              refine st_gr jo_176 jr_176_20 ?_
              refine st_ai jo_194 (show 0 ≤ x6 by omega) (show x6 < ((16 : Nat) : Int) by omega) (fun v30 ev30 b31 => ?_)
              replace ev30 : v30 = g 194 x6 := ev30
              replace b31 := (jba_194 x6 _).1 b31
              refine And.intro (fun c32 => ?_) (fun c32 => ?_)
              · replace c32 : ¬ v30 = x4 := c32
                show jGo E l 92 229 229 _ 160 [.inr (.inr (.inl 176)), .inl x1, .inl x2, .inl x3, .inl x4, .inl x5, .inl x6, x7] [] 229 jr0 g
                refine jGo_blk qX12_workAll_160 ?_
                refine st_cv (na := 2) (st := [.inl 1, .inl x6, .inr (.inr (.inl 176))]) jo_176 rfl rfl rfl (c_X12_firstBehind x6 1 g (by omega)) rfl ?_
                rintro _ _ _ ⟨rfl, rfl, t33, rfl, ht33, zt33⟩ kt33
                replace kt33 : -2147483648 ≤ t33 ∧ t33 ≤ 2147483647 := kt33
                replace ht33 : -1 ≤ t33 ∧ t33 ≤ 15 := ht33
                replace zt33 : t33 = -1 ∨ (0 ≤ t33 ∧ t33 ≤ 15 ∧ (x6 < 0 ∨ (99 - g 190 x6) * 16 + x6 < (99 - g 190 t33) * 16 + t33)) := zt33
                show jGo E l 92 229 229 _ 70 [.inr (.inr (.inl 176)), .inl x1, .inl x2, .inl x3, .inl x4, .inl x5, .inl t33, x7] [] 229 jr0 g
                refine jGo_bd (fun hbd35 => ?_)
                have b36 := (jba_190 t33 _).1 (hbd35 190 t33)
                have b37 := (jba_190 x6 _).1 (hbd35 190 x6)
                exact ih.2 x1 x2 x3 x4 x5 t33 x7 (m9 - 1) g (by omega) (by omega) hf (by omega)
              · replace c32 : v30 = x4 := by first | exact c32 | exact Int.not_le.mp c32 | exact Int.not_lt.mp c32 | exact Decidable.not_not.mp c32
                refine And.intro (fun c38 => ?_) (fun c38 => ?_)
                · replace c38 : x3 ≤ x5 := c38
                  show jGo E l 92 229 229 _ 112 [.inr (.inr (.inl 176)), .inl x1, .inl x2, .inl x3, .inl x4, .inl x5, .inl x6, x7] [] 229 jr0 g
                  refine jGo_blk qX12_workAll_112 ?_
                  show jGo E l 92 229 229 _ 113 [.inr (.inr (.inl 176)), .inl x1, .inl x2, .inl x3, .inl x4, .inl x5, .inl x6, x7] [.inl x3] 229 jr0 g
                  refine jGo_blk qX12_workAll_113 ?_
                  refine st_gr jo_176 jr_176_21 ?_
                  refine st_ai jo_195 (show 0 ≤ x6 by omega) (show x6 < ((16 : Nat) : Int) by omega) (fun v39 ev39 b40 => ?_)
                  replace ev39 : v39 = g 195 x6 := ev39
                  replace b40 := (jba_195 x6 _).1 b40
                  refine And.intro (fun c41 => ?_) (fun c41 => ?_)
                  · replace c41 : v39 ≤ x3 := c41
                    show jGo E l 92 229 229 _ 132 [.inr (.inr (.inl 176)), .inl x1, .inl x2, .inl x3, .inl x4, .inl x5, .inl x6, .inl x3] [] 229 jr0 g
                    refine jGo_blk qX12_workAll_132 ?_
                    refine st_gr jo_176 jr_176_21 ?_
                    refine st_ai jo_195 (show 0 ≤ x6 by omega) (show x6 < ((16 : Nat) : Int) by omega) (fun v42 ev42 b43 => ?_)
                    replace ev42 : v42 = g 195 x6 := ev42
                    replace b43 := (jba_195 x6 _).1 b43
                    show jGo E l 92 229 229 _ 139 [.inr (.inr (.inl 176)), .inl x1, .inl x2, .inl x3, .inl x4, .inl x5, .inl x6, .inl x3] [.inl v42] 229 jr0 g
                    refine jGo_blk qX12_workAll_139 ?_
                    refine st_gr jo_176 jr_176_21 ?_
                    refine st_ai jo_195 (show 0 ≤ x6 by omega) (show x6 < ((16 : Nat) : Int) by omega) (fun v44 ev44 b45 => ?_)
                    replace ev44 : v44 = g 195 x6 := ev44
                    replace b45 := (jba_195 x6 _).1 b45
                    refine st_si jo_195 (show 0 ≤ x6 by omega) (show x6 < ((16 : Nat) : Int) by omega) (fun hx => (jba_195 _ _).2 hx) (fun g46 eg46 => ?_)
                    replace eg46 : g46 = jup g 195 x6 (jw32 (v44 - v42)) := eg46
                    have fg46 : jfr w_X12_workAll h g46 := jfr_up hf eg46 (by unfold w_X12_workAll; omega)
                    have e47 : g46 195 x6 = jw32 (v44 - v42) := jup_s eg46
                    show jGo E l 92 229 229 _ 160 [.inr (.inr (.inl 176)), .inl x1, .inl x2, .inl x3, .inl x4, .inl (jw32 (x5 - v42)), .inl x6, .inl v42] [] 229 jr0 g46
                    refine jGo_blk qX12_workAll_160 ?_
                    refine st_cv (na := 2) (st := [.inl 1, .inl x6, .inr (.inr (.inl 176))]) jo_176 rfl rfl rfl (c_X12_firstBehind x6 1 g46 (by omega)) rfl ?_
                    rintro _ _ _ ⟨rfl, rfl, t48, rfl, ht48, zt48⟩ kt48
                    replace kt48 : -2147483648 ≤ t48 ∧ t48 ≤ 2147483647 := kt48
                    replace ht48 : -1 ≤ t48 ∧ t48 ≤ 15 := ht48
                    replace zt48 : t48 = -1 ∨ (0 ≤ t48 ∧ t48 ≤ 15 ∧ (x6 < 0 ∨ (99 - g46 190 x6) * 16 + x6 < (99 - g46 190 t48) * 16 + t48)) := zt48
                    show jGo E l 92 229 229 _ 70 [.inr (.inr (.inl 176)), .inl x1, .inl x2, .inl x3, .inl x4, .inl (jw32 (x5 - v42)), .inl t48, .inl v42] [] 229 jr0 g46
                    refine jGo_bd (fun hbd50 => ?_)
                    have b51 := (jba_190 t48 _).1 (hbd50 190 t48)
                    have b52 := (jba_190 x6 _).1 (hbd50 190 x6)
                    have e53 : g46 190 x6 = g 190 x6 := jup_o eg46 (by omega)
                    exact ih.2 x1 x2 x3 x4 (jw32 (x5 - v42)) t48 (.inl v42) (m9 - 1) g46 (by omega) (by omega) fg46 (by omega)
                  · replace c41 : x3 < v39 := by first | exact c41 | exact Int.not_le.mp c41 | exact Int.not_lt.mp c41 | exact Decidable.not_not.mp c41
                    show jGo E l 92 229 229 _ 139 [.inr (.inr (.inl 176)), .inl x1, .inl x2, .inl x3, .inl x4, .inl x5, .inl x6, .inl x3] [.inl x3] 229 jr0 g
                    refine jGo_blk qX12_workAll_139 ?_
                    refine st_gr jo_176 jr_176_21 ?_
                    refine st_ai jo_195 (show 0 ≤ x6 by omega) (show x6 < ((16 : Nat) : Int) by omega) (fun v54 ev54 b55 => ?_)
                    replace ev54 : v54 = g 195 x6 := ev54
                    replace b55 := (jba_195 x6 _).1 b55
                    have e56 : jw32 (v54 - x3) = v54 - x3 := j32e (by omega) (by omega)
                    refine st_si jo_195 (show 0 ≤ x6 by omega) (show x6 < ((16 : Nat) : Int) by omega) (fun hx => (jba_195 _ _).2 hx) (fun g57 eg57 => ?_)
                    replace eg57 : g57 = jup g 195 x6 (jw32 (v54 - x3)) := eg57
                    have fg57 : jfr w_X12_workAll h g57 := jfr_up hf eg57 (by unfold w_X12_workAll; omega)
                    have e58 : g57 195 x6 = jw32 (v54 - x3) := jup_s eg57
                    have e59 : jw32 (x5 - x3) = x5 - x3 := j32e (by omega) (by omega)
                    show jGo E l 92 229 229 _ 160 [.inr (.inr (.inl 176)), .inl x1, .inl x2, .inl x3, .inl x4, .inl (jw32 (x5 - x3)), .inl x6, .inl x3] [] 229 jr0 g57
                    refine jGo_blk qX12_workAll_160 ?_
                    refine st_cv (na := 2) (st := [.inl 1, .inl x6, .inr (.inr (.inl 176))]) jo_176 rfl rfl rfl (c_X12_firstBehind x6 1 g57 (by omega)) rfl ?_
                    rintro _ _ _ ⟨rfl, rfl, t60, rfl, ht60, zt60⟩ kt60
                    replace kt60 : -2147483648 ≤ t60 ∧ t60 ≤ 2147483647 := kt60
                    replace ht60 : -1 ≤ t60 ∧ t60 ≤ 15 := ht60
                    replace zt60 : t60 = -1 ∨ (0 ≤ t60 ∧ t60 ≤ 15 ∧ (x6 < 0 ∨ (99 - g57 190 x6) * 16 + x6 < (99 - g57 190 t60) * 16 + t60)) := zt60
                    show jGo E l 92 229 229 _ 70 [.inr (.inr (.inl 176)), .inl x1, .inl x2, .inl x3, .inl x4, .inl (jw32 (x5 - x3)), .inl t60, .inl x3] [] 229 jr0 g57
                    refine jGo_bd (fun hbd62 => ?_)
                    have b63 := (jba_190 t60 _).1 (hbd62 190 t60)
                    have b64 := (jba_190 x6 _).1 (hbd62 190 x6)
                    have e65 : g57 190 x6 = g 190 x6 := jup_o eg57 (by omega)
                    exact ih.2 x1 x2 x3 x4 (jw32 (x5 - x3)) t60 (.inl x3) (m9 - 1) g57 (by omega) (by omega) fg57 (by omega)
                · replace c38 : x5 < x3 := by first | exact c38 | exact Int.not_le.mp c38 | exact Int.not_lt.mp c38 | exact Decidable.not_not.mp c38
                  show jGo E l 92 229 229 _ 113 [.inr (.inr (.inl 176)), .inl x1, .inl x2, .inl x3, .inl x4, .inl x5, .inl x6, x7] [.inl x5] 229 jr0 g
                  refine jGo_blk qX12_workAll_113 ?_
                  refine st_gr jo_176 jr_176_21 ?_
                  refine st_ai jo_195 (show 0 ≤ x6 by omega) (show x6 < ((16 : Nat) : Int) by omega) (fun v66 ev66 b67 => ?_)
                  replace ev66 : v66 = g 195 x6 := ev66
                  replace b67 := (jba_195 x6 _).1 b67
                  refine And.intro (fun c68 => ?_) (fun c68 => ?_)
                  · replace c68 : v66 ≤ x5 := c68
                    show jGo E l 92 229 229 _ 132 [.inr (.inr (.inl 176)), .inl x1, .inl x2, .inl x3, .inl x4, .inl x5, .inl x6, .inl x5] [] 229 jr0 g
                    refine jGo_blk qX12_workAll_132 ?_
                    refine st_gr jo_176 jr_176_21 ?_
                    refine st_ai jo_195 (show 0 ≤ x6 by omega) (show x6 < ((16 : Nat) : Int) by omega) (fun v69 ev69 b70 => ?_)
                    replace ev69 : v69 = g 195 x6 := ev69
                    replace b70 := (jba_195 x6 _).1 b70
                    show jGo E l 92 229 229 _ 139 [.inr (.inr (.inl 176)), .inl x1, .inl x2, .inl x3, .inl x4, .inl x5, .inl x6, .inl x5] [.inl v69] 229 jr0 g
                    refine jGo_blk qX12_workAll_139 ?_
                    refine st_gr jo_176 jr_176_21 ?_
                    refine st_ai jo_195 (show 0 ≤ x6 by omega) (show x6 < ((16 : Nat) : Int) by omega) (fun v71 ev71 b72 => ?_)
                    replace ev71 : v71 = g 195 x6 := ev71
                    replace b72 := (jba_195 x6 _).1 b72
                    refine st_si jo_195 (show 0 ≤ x6 by omega) (show x6 < ((16 : Nat) : Int) by omega) (fun hx => (jba_195 _ _).2 hx) (fun g73 eg73 => ?_)
                    replace eg73 : g73 = jup g 195 x6 (jw32 (v71 - v69)) := eg73
                    have fg73 : jfr w_X12_workAll h g73 := jfr_up hf eg73 (by unfold w_X12_workAll; omega)
                    have e74 : g73 195 x6 = jw32 (v71 - v69) := jup_s eg73
                    show jGo E l 92 229 229 _ 160 [.inr (.inr (.inl 176)), .inl x1, .inl x2, .inl x3, .inl x4, .inl (jw32 (x5 - v69)), .inl x6, .inl v69] [] 229 jr0 g73
                    refine jGo_blk qX12_workAll_160 ?_
                    refine st_cv (na := 2) (st := [.inl 1, .inl x6, .inr (.inr (.inl 176))]) jo_176 rfl rfl rfl (c_X12_firstBehind x6 1 g73 (by omega)) rfl ?_
                    rintro _ _ _ ⟨rfl, rfl, t75, rfl, ht75, zt75⟩ kt75
                    replace kt75 : -2147483648 ≤ t75 ∧ t75 ≤ 2147483647 := kt75
                    replace ht75 : -1 ≤ t75 ∧ t75 ≤ 15 := ht75
                    replace zt75 : t75 = -1 ∨ (0 ≤ t75 ∧ t75 ≤ 15 ∧ (x6 < 0 ∨ (99 - g73 190 x6) * 16 + x6 < (99 - g73 190 t75) * 16 + t75)) := zt75
                    show jGo E l 92 229 229 _ 70 [.inr (.inr (.inl 176)), .inl x1, .inl x2, .inl x3, .inl x4, .inl (jw32 (x5 - v69)), .inl t75, .inl v69] [] 229 jr0 g73
                    refine jGo_bd (fun hbd77 => ?_)
                    have b78 := (jba_190 t75 _).1 (hbd77 190 t75)
                    have b79 := (jba_190 x6 _).1 (hbd77 190 x6)
                    have e80 : g73 190 x6 = g 190 x6 := jup_o eg73 (by omega)
                    exact ih.2 x1 x2 x3 x4 (jw32 (x5 - v69)) t75 (.inl v69) (m9 - 1) g73 (by omega) (by omega) fg73 (by omega)
                  · replace c68 : x5 < v66 := by first | exact c68 | exact Int.not_le.mp c68 | exact Int.not_lt.mp c68 | exact Decidable.not_not.mp c68
                    show jGo E l 92 229 229 _ 139 [.inr (.inr (.inl 176)), .inl x1, .inl x2, .inl x3, .inl x4, .inl x5, .inl x6, .inl x5] [.inl x5] 229 jr0 g
                    refine jGo_blk qX12_workAll_139 ?_
                    refine st_gr jo_176 jr_176_21 ?_
                    refine st_ai jo_195 (show 0 ≤ x6 by omega) (show x6 < ((16 : Nat) : Int) by omega) (fun v81 ev81 b82 => ?_)
                    replace ev81 : v81 = g 195 x6 := ev81
                    replace b82 := (jba_195 x6 _).1 b82
                    refine st_si jo_195 (show 0 ≤ x6 by omega) (show x6 < ((16 : Nat) : Int) by omega) (fun hx => (jba_195 _ _).2 hx) (fun g83 eg83 => ?_)
                    replace eg83 : g83 = jup g 195 x6 (jw32 (v81 - x5)) := eg83
                    have fg83 : jfr w_X12_workAll h g83 := jfr_up hf eg83 (by unfold w_X12_workAll; omega)
                    have e84 : g83 195 x6 = jw32 (v81 - x5) := jup_s eg83
                    show jGo E l 92 229 229 _ 160 [.inr (.inr (.inl 176)), .inl x1, .inl x2, .inl x3, .inl x4, .inl (jw32 (x5 - x5)), .inl x6, .inl x5] [] 229 jr0 g83
                    refine jGo_blk qX12_workAll_160 ?_
                    refine st_cv (na := 2) (st := [.inl 1, .inl x6, .inr (.inr (.inl 176))]) jo_176 rfl rfl rfl (c_X12_firstBehind x6 1 g83 (by omega)) rfl ?_
                    rintro _ _ _ ⟨rfl, rfl, t85, rfl, ht85, zt85⟩ kt85
                    replace kt85 : -2147483648 ≤ t85 ∧ t85 ≤ 2147483647 := kt85
                    replace ht85 : -1 ≤ t85 ∧ t85 ≤ 15 := ht85
                    replace zt85 : t85 = -1 ∨ (0 ≤ t85 ∧ t85 ≤ 15 ∧ (x6 < 0 ∨ (99 - g83 190 x6) * 16 + x6 < (99 - g83 190 t85) * 16 + t85)) := zt85
                    show jGo E l 92 229 229 _ 70 [.inr (.inr (.inl 176)), .inl x1, .inl x2, .inl x3, .inl x4, .inl (jw32 (x5 - x5)), .inl t85, .inl x5] [] 229 jr0 g83
                    refine jGo_bd (fun hbd87 => ?_)
                    have b88 := (jba_190 t85 _).1 (hbd87 190 t85)
                    have b89 := (jba_190 x6 _).1 (hbd87 190 x6)
                    have e90 : g83 190 x6 = g 190 x6 := jup_o eg83 (by omega)
                    exact ih.2 x1 x2 x3 x4 (jw32 (x5 - x5)) t85 (.inl x5) (m9 - 1) g83 (by omega) (by omega) fg83 (by omega)
  refine jGo_blk qX12_workAll_0 ?_
  refine st_gi jo_176 (fun v91 ev91 b92 => ?_)
  replace ev91 : v91 = h 176 0 := ev91
  replace b92 := (jbf_12_0 jo_176 _).1 b92
  refine st_cv (na := 3) (st := [.inl v91, .inl 0, .inl 2, .inr (.inr (.inl 176))]) jo_176 rfl rfl rfl (c_X12_forceAt 2 0 v91 h) rfl ?_
  rintro _ _ _ ⟨rfl, rfl, t93, rfl, ht93, zt93⟩ kt93
  replace kt93 : -2147483648 ≤ t93 ∧ t93 ≤ 2147483647 := kt93
  replace ht93 : 0 ≤ t93 ∧ t93 ≤ 200 := ht93
  replace zt93 : t93 = (jmv (h 182) (h 183) (h 184) (h 185) (2 : Int) (0 : Int) v91 (h 176 6).toNat).1 := zt93
  refine And.intro (fun c95 => ?_) (fun c95 => ?_)
  · replace c95 : t93 = 0 := c95
    show jGo E l 92 229 229 _ 24 [.inr (.inr (.inl 176)), .inl t93, .inr (.inr (.inr ())), .inr (.inr (.inr ())), .inr (.inr (.inr ())), .inr (.inr (.inr ())), .inr (.inr (.inr ())), .inr (.inr (.inr ()))] [] 229 jr0 h
    refine jGo_blk qX12_workAll_24 ?_
    show jGo E l 92 229 229 _ 29 [.inr (.inr (.inl 176)), .inl t93, .inr (.inr (.inr ())), .inr (.inr (.inr ())), .inr (.inr (.inr ())), .inr (.inr (.inr ())), .inr (.inr (.inr ())), .inr (.inr (.inr ()))] [.inl 1] 229 jr0 h
    refine jGo_blk qX12_workAll_29 ?_
    refine st_gi jo_176 (fun v96 ev96 b97 => ?_)
    replace ev96 : v96 = h 176 0 := ev96
    replace b97 := (jbf_12_0 jo_176 _).1 b97
    refine st_cv (na := 3) (st := [.inl v96, .inl 0, .inl 3, .inr (.inr (.inl 176))]) jo_176 rfl rfl rfl (c_X12_forceAt 3 0 v96 h) rfl ?_
    rintro _ _ _ ⟨rfl, rfl, t98, rfl, ht98, zt98⟩ kt98
    replace kt98 : -2147483648 ≤ t98 ∧ t98 ≤ 2147483647 := kt98
    replace ht98 : 0 ≤ t98 ∧ t98 ≤ 200 := ht98
    replace zt98 : t98 = (jmv (h 182) (h 183) (h 184) (h 185) (3 : Int) (0 : Int) v96 (h 176 6).toNat).1 := zt98
    show jGo E l 92 229 229 _ 44 [.inr (.inr (.inl 176)), .inl t93, .inl 1, .inl t98, .inl 0, .inr (.inr (.inr ())), .inr (.inr (.inr ())), .inr (.inr (.inr ()))] [] 229 jr0 h
    exact (key 1000000000000000000).1 t93 1 t98 0 (.inr (.inr (.inr ()))) (.inr (.inr (.inr ()))) (.inr (.inr (.inr ()))) h (by omega) f0 (by omega)
  · replace c95 : ¬ t93 = 0 := by first | exact c95 | exact Int.not_le.mp c95 | exact Int.not_lt.mp c95 | exact Decidable.not_not.mp c95
    refine st_gi jo_176 (fun v100 ev100 b101 => ?_)
    replace ev100 : v100 = h 176 0 := ev100
    replace b101 := (jbf_12_0 jo_176 _).1 b101
    refine And.intro (show t93 ≠ 0 by omega) ?_
    have e102 : True ∧ 0 ≤ v100.tmod t93 ∧ v100.tmod t93 < t93 := ⟨trivial, (jmd (by omega) (by omega)).2⟩
    refine And.intro (fun c103 => ?_) (fun c103 => ?_)
    · replace c103 : v100.tmod t93 = 0 := c103
      show jGo E l 92 229 229 _ 28 [.inr (.inr (.inl 176)), .inl t93, .inr (.inr (.inr ())), .inr (.inr (.inr ())), .inr (.inr (.inr ())), .inr (.inr (.inr ())), .inr (.inr (.inr ())), .inr (.inr (.inr ()))] [] 229 jr0 h
      refine jGo_blk qX12_workAll_28 ?_
      show jGo E l 92 229 229 _ 29 [.inr (.inr (.inl 176)), .inl t93, .inr (.inr (.inr ())), .inr (.inr (.inr ())), .inr (.inr (.inr ())), .inr (.inr (.inr ())), .inr (.inr (.inr ())), .inr (.inr (.inr ()))] [.inl 0] 229 jr0 h
      refine jGo_blk qX12_workAll_29 ?_
      refine st_gi jo_176 (fun v104 ev104 b105 => ?_)
      replace ev104 : v104 = h 176 0 := ev104
      replace b105 := (jbf_12_0 jo_176 _).1 b105
      refine st_cv (na := 3) (st := [.inl v104, .inl 0, .inl 3, .inr (.inr (.inl 176))]) jo_176 rfl rfl rfl (c_X12_forceAt 3 0 v104 h) rfl ?_
      rintro _ _ _ ⟨rfl, rfl, t106, rfl, ht106, zt106⟩ kt106
      replace kt106 : -2147483648 ≤ t106 ∧ t106 ≤ 2147483647 := kt106
      replace ht106 : 0 ≤ t106 ∧ t106 ≤ 200 := ht106
      replace zt106 : t106 = (jmv (h 182) (h 183) (h 184) (h 185) (3 : Int) (0 : Int) v104 (h 176 6).toNat).1 := zt106
      show jGo E l 92 229 229 _ 44 [.inr (.inr (.inl 176)), .inl t93, .inl 0, .inl t106, .inl 0, .inr (.inr (.inr ())), .inr (.inr (.inr ())), .inr (.inr (.inr ()))] [] 229 jr0 h
      exact (key 1000000000000000000).1 t93 0 t106 0 (.inr (.inr (.inr ()))) (.inr (.inr (.inr ()))) (.inr (.inr (.inr ()))) h (by omega) f0 (by omega)
    · replace c103 : ¬ v100.tmod t93 = 0 := by first | exact c103 | exact Int.not_le.mp c103 | exact Int.not_lt.mp c103 | exact Decidable.not_not.mp c103
      show jGo E l 92 229 229 _ 24 [.inr (.inr (.inl 176)), .inl t93, .inr (.inr (.inr ())), .inr (.inr (.inr ())), .inr (.inr (.inr ())), .inr (.inr (.inr ())), .inr (.inr (.inr ())), .inr (.inr (.inr ()))] [] 229 jr0 h
      refine jGo_blk qX12_workAll_24 ?_
      show jGo E l 92 229 229 _ 29 [.inr (.inr (.inl 176)), .inl t93, .inr (.inr (.inr ())), .inr (.inr (.inr ())), .inr (.inr (.inr ())), .inr (.inr (.inr ())), .inr (.inr (.inr ())), .inr (.inr (.inr ()))] [.inl 1] 229 jr0 h
      refine jGo_blk qX12_workAll_29 ?_
      refine st_gi jo_176 (fun v108 ev108 b109 => ?_)
      replace ev108 : v108 = h 176 0 := ev108
      replace b109 := (jbf_12_0 jo_176 _).1 b109
      refine st_cv (na := 3) (st := [.inl v108, .inl 0, .inl 3, .inr (.inr (.inl 176))]) jo_176 rfl rfl rfl (c_X12_forceAt 3 0 v108 h) rfl ?_
      rintro _ _ _ ⟨rfl, rfl, t110, rfl, ht110, zt110⟩ kt110
      replace kt110 : -2147483648 ≤ t110 ∧ t110 ≤ 2147483647 := kt110
      replace ht110 : 0 ≤ t110 ∧ t110 ≤ 200 := ht110
      replace zt110 : t110 = (jmv (h 182) (h 183) (h 184) (h 185) (3 : Int) (0 : Int) v108 (h 176 6).toNat).1 := zt110
      show jGo E l 92 229 229 _ 44 [.inr (.inr (.inl 176)), .inl t93, .inl 1, .inl t110, .inl 0, .inr (.inr (.inr ())), .inr (.inr (.inr ())), .inr (.inr (.inr ()))] [] 229 jr0 h
      exact (key 1000000000000000000).1 t93 1 t110 0 (.inr (.inr (.inr ()))) (.inr (.inr (.inr ()))) (.inr (.inr (.inr ()))) h (by omega) f0 (by omega)
