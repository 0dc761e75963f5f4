def w_X12_solve (i k : Int) : Prop := (i = 223) ∨ (i = 176 ∧ 55 ≤ k ∧ k ≤ 56)
def k_X12_solve (a1 : Int) (a2 : Int) (h : JH) (v : Option JV) (r' g : JH) : Prop := r' = jr0 ∧ jfr w_X12_solve h g ∧ v = none ∧ (True)
set_option maxHeartbeats 4000000 in
theorem c_X12_solve {E : JE} {l : Launch} (a1 : Int) (a2 : Int) (h : JH) (p1 : 0 ≤ a1 ∧ a1 ≤ 2) (p2 : 0 ≤ a2 ∧ a2 ≤ 6) : jMt E l 117 [.inr (.inr (.inl 176)), .inl a1, .inl a2] 229 jr0 h (k_X12_solve a1 a2 h) := by
  refine jMt0 (nL := 8) (ls := [.inr (.inr (.inl 176)), .inl a1, .inl a2, .inr (.inr (.inr ())), .inr (.inr (.inr ())), .inr (.inr (.inr ())), .inr (.inr (.inr ())), .inr (.inr (.inr ()))]) (by decide +kernel) (by decide +kernel) (by decide +kernel) rfl rfl ?_
  have f0 : jfr w_X12_solve h h := jfr_rf _ _
  have key : ∀ N : Nat, (∀ (x3 : Int) (g : JH), (0 ≤ x3 ∧ x3 ≤ 64) → jfr w_X12_solve h g → ((64 - x3) + 40000) * 1000000000000 + 999999999999 < (N : Int) → jGo E l 117 229 229 (jRK (k_X12_solve a1 a2 h)) 2 [.inr (.inr (.inl 176)), .inl a1, .inl a2, .inl x3, .inr (.inr (.inr ())), .inr (.inr (.inr ())), .inr (.inr (.inr ())), .inr (.inr (.inr ()))] [] 229 jr0 g) ∧
      (∀ (x3 : Int) (x4 : JV) (x5 : JV) (x6 : JV) (x7 : JV) (g : JH), (0 ≤ x3 ∧ x3 ≤ 40) → jfr w_X12_solve h g → ((40 - x3) + 20000) * 1000000000000 + 999999999999 < (N : Int) → jGo E l 117 229 229 (jRK (k_X12_solve a1 a2 h)) 32 [.inr (.inr (.inl 176)), .inl a1, .inl a2, .inl x3, x4, x5, x6, x7] [] 229 jr0 g) ∧
      (∀ (x3 : Int) (x4 : Int) (x5 : JV) (x6 : JV) (x7 : JV) (g : JH), (0 ≤ x3 ∧ x3 ≤ 39 ∧ 0 ≤ x4 ∧ x4 ≤ 63) → jfr w_X12_solve h g → ((40 - x3) + 20000) * 1000000000000 + (x4 - 0) * 1000000 + 999999 < (N : Int) → jGo E l 117 229 229 (jRK (k_X12_solve a1 a2 h)) 56 [.inr (.inr (.inl 176)), .inl a1, .inl a2, .inl x3, .inl x4, x5, x6, x7] [] 229 jr0 g) ∧
      (∀ (x3 : Int) (x4 : Int) (x5 : Int) (x6 : JV) (x7 : JV) (g : JH), (0 ≤ x3 ∧ x3 ≤ 39 ∧ 1 ≤ x4 ∧ x4 ≤ 63 ∧ 0 ≤ x5 ∧ x5 ≤ 6) → jfr w_X12_solve h g → ((40 - x3) + 20000) * 1000000000000 + (x4 - 0) * 1000000 + (6 - x5) < (N : Int) → jGo E l 117 229 229 (jRK (k_X12_solve a1 a2 h)) 64 [.inr (.inr (.inl 176)), .inl a1, .inl a2, .inl x3, .inl x4, .inl x5, x6, x7] [] 229 jr0 g) ∧
      (∀ (x3 : Int) (x4 : JV) (x5 : JV) (x6 : JV) (x7 : JV) (g : JH), (1 ≤ x3 ∧ x3 ≤ 64) → jfr w_X12_solve h g → (64 - x3) * 1000000000000 + 999999999999 < (N : Int) → jGo E l 117 229 229 (jRK (k_X12_solve a1 a2 h)) 210 [.inr (.inr (.inl 176)), .inl a1, .inl a2, .inl x3, x4, x5, x6, x7] [] 229 jr0 g) := by
    intro N
    induction N with
    | zero => exact ⟨fun _ _ hi _ hN => absurd hN (by omega), fun _ _ _ _ _ _ hi _ hN => absurd hN (by omega), fun _ _ _ _ _ _ hi _ hN => absurd hN (by omega), fun _ _ _ _ _ _ hi _ hN => absurd hN (by omega), fun _ _ _ _ _ _ hi _ hN => absurd hN (by omega)⟩
    | succ N ih =>
      refine ⟨?_, ?_, ?_, ?_, ?_⟩
      · intro x3 g hi hf hN
        refine jGo_blk qX12_solve_2 ?_
        refine And.intro (fun c1 => ?_) (fun c1 => ?_)
        · replace c1 : 64 ≤ x3 := c1
          show jGo E l 117 229 229 _ 30 [.inr (.inr (.inl 176)), .inl a1, .inl a2, .inl x3, .inr (.inr (.inr ())), .inr (.inr (.inr ())), .inr (.inr (.inr ())), .inr (.inr (.inr ()))] [] 229 jr0 g
          refine jGo_blk qX12_solve_30 ?_
          show jGo E l 117 229 229 _ 32 [.inr (.inr (.inl 176)), .inl a1, .inl a2, .inl 0, .inr (.inr (.inr ())), .inr (.inr (.inr ())), .inr (.inr (.inr ())), .inr (.inr (.inr ()))] [] 229 jr0 g
          exact ih.2.1 0 (.inr (.inr (.inr ()))) (.inr (.inr (.inr ()))) (.inr (.inr (.inr ()))) (.inr (.inr (.inr ()))) g (by omega) hf (by omega)
        · replace c1 : x3 < 64 := by first | exact c1 | exact Int.not_le.mp c1 | exact Int.not_lt.mp c1 | exact Decidable.not_not.mp c1
          refine st_gr jo_176 jr_176_54 ?_
          refine And.intro (fun c2 => ?_) (fun c2 => ?_)
          · replace c2 : ¬ x3 = 0 := c2
            show jGo E l 117 229 229 _ 21 [.inr (.inr (.inl 176)), .inl a1, .inl a2, .inl x3, .inr (.inr (.inr ())), .inr (.inr (.inr ())), .inr (.inr (.inr ())), .inr (.inr (.inr ()))] [.inl x3, .inr (.inr (.inl 223))] 229 jr0 g
            refine jGo_blk qX12_solve_21 ?_
            show jGo E l 117 229 229 _ 23 [.inr (.inr (.inl 176)), .inl a1, .inl a2, .inl x3, .inr (.inr (.inr ())), .inr (.inr (.inr ())), .inr (.inr (.inr ())), .inr (.inr (.inr ()))] [.inl 2000000000, .inl x3, .inr (.inr (.inl 223))] 229 jr0 g
            refine jGo_blk qX12_solve_23 ?_
            refine st_si jo_223 (show 0 ≤ x3 by omega) (show x3 < ((64 : Nat) : Int) by omega) (fun hx => (jba_223 _ _).2 hx) (fun g3 eg3 => ?_)
            replace eg3 : g3 = jup g 223 x3 2000000000 := eg3
            have fg3 : jfr w_X12_solve h g3 := jfr_up hf eg3 (by unfold w_X12_solve; omega)
            have e4 : g3 223 x3 = 2000000000 := jup_s eg3
            have e5 : jw32 (x3 + 1) = x3 + 1 := j32e (by omega) (by omega)
            show jGo E l 117 229 229 _ 2 [.inr (.inr (.inl 176)), .inl a1, .inl a2, .inl (jw32 (x3 + 1)), .inr (.inr (.inr ())), .inr (.inr (.inr ())), .inr (.inr (.inr ())), .inr (.inr (.inr ()))] [] 229 jr0 g3
            exact ih.1 (jw32 (x3 + 1)) g3 (by omega) fg3 (by omega)
          · replace c2 : x3 = 0 := by first | exact c2 | exact Int.not_le.mp c2 | exact Int.not_lt.mp c2 | exact Decidable.not_not.mp c2
            show jGo E l 117 229 229 _ 23 [.inr (.inr (.inl 176)), .inl a1, .inl a2, .inl x3, .inr (.inr (.inr ())), .inr (.inr (.inr ())), .inr (.inr (.inr ())), .inr (.inr (.inr ()))] [.inl 0, .inl x3, .inr (.inr (.inl 223))] 229 jr0 g
            refine jGo_blk qX12_solve_23 ?_
            refine st_si jo_223 (show 0 ≤ x3 by omega) (show x3 < ((64 : Nat) : Int) by omega) (fun hx => (jba_223 _ _).2 hx) (fun g6 eg6 => ?_)
            replace eg6 : g6 = jup g 223 x3 0 := eg6
            have fg6 : jfr w_X12_solve h g6 := jfr_up hf eg6 (by unfold w_X12_solve; omega)
            have e7 : g6 223 x3 = 0 := jup_s eg6
            have e8 : jw32 (x3 + 1) = x3 + 1 := j32e (by omega) (by omega)
            show jGo E l 117 229 229 _ 2 [.inr (.inr (.inl 176)), .inl a1, .inl a2, .inl (jw32 (x3 + 1)), .inr (.inr (.inr ())), .inr (.inr (.inr ())), .inr (.inr (.inr ())), .inr (.inr (.inr ()))] [] 229 jr0 g6
            exact ih.1 (jw32 (x3 + 1)) g6 (by omega) fg6 (by omega)
      · intro x3 x4 x5 x6 x7 g hi hf hN
        refine jGo_blk qX12_solve_32 ?_
        refine st_gi jo_176 (fun v9 ev9 b10 => ?_)
        replace ev9 : v9 = g 176 34 := ev9
        replace b10 := (jbf_12_34 jo_176 _).1 b10
        refine And.intro (fun c11 => ?_) (fun c11 => ?_)
        · replace c11 : v9 ≤ x3 := c11
          show jGo E l 117 229 229 _ 198 [.inr (.inr (.inl 176)), .inl a1, .inl a2, .inl x3, x4, x5, x6, x7] [] 229 jr0 g
          refine jGo_blk qX12_solve_198 ?_
          refine st_pi jo_176 (fun hx => (jbf_12_55 jo_176 _).2 hx) (fun g12 eg12 => ?_)
          replace eg12 : g12 = jup g 176 55 0 := eg12
          have fg12 : jfr w_X12_solve h g12 := jfr_up hf eg12 (by unfold w_X12_solve; omega)
          have e13 : g12 176 55 = 0 := jup_s eg12
          refine st_pi jo_176 (fun hx => (jbf_12_56 jo_176 _).2 hx) (fun g14 eg14 => ?_)
          replace eg14 : g14 = jup g12 176 56 0 := eg14
          have fg14 : jfr w_X12_solve h g14 := jfr_up fg12 eg14 (by unfold w_X12_solve; omega)
          have e15 : g14 176 56 = 0 := jup_s eg14
          show jGo E l 117 229 229 _ 210 [.inr (.inr (.inl 176)), .inl a1, .inl a2, .inl 1, x4, x5, x6, x7] [] 229 jr0 g14
          exact ih.2.2.2.2 1 x4 x5 x6 x7 g14 (by omega) fg14 (by omega)
        · replace c11 : x3 < v9 := by first | exact c11 | exact Int.not_le.mp c11 | exact Int.not_lt.mp c11 | exact Decidable.not_not.mp c11
          refine st_gr jo_176 jr_176_52 ?_
          refine st_bi jo_221 (show 0 ≤ x3 by omega) (show x3 < ((40 : Nat) : Int) by omega) (fun v16 ev16 b17 => ?_)
          replace ev16 : v16 = g 221 x3 := ev16
          replace b17 := (jba_221 x3 _).1 b17
          refine And.intro (fun c18 => ?_) (fun c18 => ?_)
          · replace c18 : v16 = 0 := c18
            show jGo E l 117 229 229 _ 52 [.inr (.inr (.inl 176)), .inl a1, .inl a2, .inl x3, x4, x5, x6, x7] [] 229 jr0 g
            refine jGo_blk qX12_solve_52 ?_
            show jGo E l 117 229 229 _ 56 [.inr (.inr (.inl 176)), .inl a1, .inl a2, .inl x3, .inl 63, x5, x6, x7] [] 229 jr0 g
            exact ih.2.2.1 x3 63 x5 x6 x7 g (by omega) hf (by omega)
          · replace c18 : ¬ v16 = 0 := by first | exact c18 | exact Int.not_le.mp c18 | exact Int.not_lt.mp c18 | exact Decidable.not_not.mp c18
            show jGo E l 117 229 229 _ 192 [.inr (.inr (.inl 176)), .inl a1, .inl a2, .inl x3, x4, x5, x6, x7] [] 229 jr0 g
            refine jGo_blk qX12_solve_192 ?_
            have e19 : jw32 (x3 + 1) = x3 + 1 := j32e (by omega) (by omega)
            show jGo E l 117 229 229 _ 32 [.inr (.inr (.inl 176)), .inl a1, .inl a2, .inl (jw32 (x3 + 1)), x4, x5, x6, x7] [] 229 jr0 g
            exact ih.2.1 (jw32 (x3 + 1)) x4 x5 x6 x7 g (by omega) hf (by omega)
      · intro x3 x4 x5 x6 x7 g hi hf hN
        refine jGo_blk qX12_solve_56 ?_
        refine And.intro (fun c20 => ?_) (fun c20 => ?_)
        · replace c20 : x4 ≤ 0 := c20
          show jGo E l 117 229 229 _ 192 [.inr (.inr (.inl 176)), .inl a1, .inl a2, .inl x3, .inl x4, x5, x6, x7] [] 229 jr0 g
          refine jGo_blk qX12_solve_192 ?_
          have e21 : jw32 (x3 + 1) = x3 + 1 := j32e (by omega) (by omega)
          show jGo E l 117 229 229 _ 32 [.inr (.inr (.inl 176)), .inl a1, .inl a2, .inl (jw32 (x3 + 1)), .inl x4, x5, x6, x7] [] 229 jr0 g
          exact ih.2.1 (jw32 (x3 + 1)) (.inl x4) x5 x6 x7 g (by omega) hf (by omega)
        · replace c20 : 0 < x4 := by first | exact c20 | exact Int.not_le.mp c20 | exact Int.not_lt.mp c20 | exact Decidable.not_not.mp c20
          show jGo E l 117 229 229 _ 64 [.inr (.inr (.inl 176)), .inl a1, .inl a2, .inl x3, .inl x4, .inl a2, x6, x7] [] 229 jr0 g
          exact ih.2.2.2.1 x3 x4 a2 x6 x7 g (by omega) hf (by omega)
      · intro x3 x4 x5 x6 x7 g hi hf hN
        refine jGo_blk qX12_solve_64 ?_
        refine st_gr jo_176 jr_176_40 ?_
        refine st_ai jo_210 (show 0 ≤ a1 by omega) (show a1 < ((3 : Nat) : Int) by omega) (fun v22 ev22 b23 => ?_)
        replace ev22 : v22 = g 210 a1 := ev22
        replace b23 := (jba_210 a1 _).1 b23
        refine And.intro (fun c24 => ?_) (fun c24 => ?_)
        · replace c24 : v22 ≤ x5 := c24
          show jGo E l 117 229 229 _ 186 [.inr (.inr (.inl 176)), .inl a1, .inl a2, .inl x3, .inl x4, .inl x5, x6, x7] [] 229 jr0 g
          refine jGo_blk qX12_solve_186 ?_
          have e25 : jw32 (x4 + (-1)) = x4 + (-1) := j32e (by omega) (by omega)
          show jGo E l 117 229 229 _ 56 [.inr (.inr (.inl 176)), .inl a1, .inl a2, .inl x3, .inl (jw32 (x4 + (-1))), .inl x5, x6, x7] [] 229 jr0 g
          exact ih.2.2.1 x3 (jw32 (x4 + (-1))) (.inl x5) x6 x7 g (by omega) hf (by omega)
        · replace c24 : x5 < v22 := by first | exact c24 | exact Int.not_le.mp c24 | exact Int.not_lt.mp c24 | exact Decidable.not_not.mp c24
          have e26 := jshl1_5 x5 (by omega) (by omega)
          have e27 := jand_le x4 (jxor (jshl 1 x5) (-1)) (by omega) (by omega)
          refine And.intro (fun c28 => ?_) (fun c28 => ?_)
          · replace c28 : jand x4 (jxor (jshl 1 x5) (-1)) = x4 := c28
            show jGo E l 117 229 229 _ 180 [.inr (.inr (.inl 176)), .inl a1, .inl a2, .inl x3, .inl x4, .inl x5, .inl (jand x4 (jxor (jshl 1 x5) (-1))), x7] [] 229 jr0 g
            refine jGo_blk qX12_solve_180 ?_
            have e29 : jw32 (x5 + 1) = x5 + 1 := j32e (by omega) (by omega)
            show jGo E l 117 229 229 _ 64 [.inr (.inr (.inl 176)), .inl a1, .inl a2, .inl x3, .inl x4, .inl (jw32 (x5 + 1)), .inl (jand x4 (jxor (jshl 1 x5) (-1))), x7] [] 229 jr0 g
            exact ih.2.2.2.1 x3 x4 (jw32 (x5 + 1)) (.inl (jand x4 (jxor (jshl 1 x5) (-1)))) x7 g (by omega) hf (by omega)
          · replace c28 : ¬ jand x4 (jxor (jshl 1 x5) (-1)) = x4 := by first | exact c28 | exact Int.not_le.mp c28 | exact Int.not_lt.mp c28 | exact Decidable.not_not.mp c28
            refine st_gr jo_176 jr_176_54 ?_
            refine st_ai jo_223 (show 0 ≤ jand x4 (jxor (jshl 1 x5) (-1)) by omega) (show jand x4 (jxor (jshl 1 x5) (-1)) < ((64 : Nat) : Int) by omega) (fun v30 ev30 b31 => ?_)
            replace ev30 : v30 = g 223 (jand x4 (jxor (jshl 1 x5) (-1))) := ev30
            replace b31 := (jba_223 (jand x4 (jxor (jshl 1 x5) (-1))) _).1 b31
            refine And.intro (fun c32 => ?_) (fun c32 => ?_)
            · replace c32 : 2000000000 ≤ v30 := c32
              show jGo E l 117 229 229 _ 180 [.inr (.inr (.inl 176)), .inl a1, .inl a2, .inl x3, .inl x4, .inl x5, .inl (jand x4 (jxor (jshl 1 x5) (-1))), x7] [] 229 jr0 g
              refine jGo_blk qX12_solve_180 ?_
              have e33 : jw32 (x5 + 1) = x5 + 1 := j32e (by omega) (by omega)
              show jGo E l 117 229 229 _ 64 [.inr (.inr (.inl 176)), .inl a1, .inl a2, .inl x3, .inl x4, .inl (jw32 (x5 + 1)), .inl (jand x4 (jxor (jshl 1 x5) (-1))), x7] [] 229 jr0 g
              exact ih.2.2.2.1 x3 x4 (jw32 (x5 + 1)) (.inl (jand x4 (jxor (jshl 1 x5) (-1)))) x7 g (by omega) hf (by omega)
            · replace c32 : v30 < 2000000000 := by first | exact c32 | exact Int.not_le.mp c32 | exact Int.not_lt.mp c32 | exact Decidable.not_not.mp c32
              have e34 : jw32 (6 * a1) = 6 * a1 := j32e (by omega) (by omega)
              have e35 : jw32 ((jw32 (6 * a1)) + x5) = (jw32 (6 * a1)) + x5 := j32e (by omega) (by omega)
              refine st_cv (na := 2) (st := [.inl (jw32 ((jw32 (6 * a1)) + x5)), .inl x3, .inr (.inr (.inl 176))]) jo_176 rfl rfl rfl (c_X12_fits x3 (jw32 ((jw32 (6 * a1)) + x5)) g (by omega) (by omega)) rfl ?_
              rintro _ _ _ ⟨rfl, rfl, t36, rfl, ht36, zt36⟩ kt36
              replace kt36 : -2147483648 ≤ t36 ∧ t36 ≤ 2147483647 := kt36
              replace ht36 : 0 ≤ t36 ∧ t36 ≤ 1 := ht36
              refine And.intro (fun c38 => ?_) (fun c38 => ?_)
              · replace c38 : t36 = 0 := c38
                show jGo E l 117 229 229 _ 180 [.inr (.inr (.inl 176)), .inl a1, .inl a2, .inl x3, .inl x4, .inl x5, .inl (jand x4 (jxor (jshl 1 x5) (-1))), x7] [] 229 jr0 g
                refine jGo_blk qX12_solve_180 ?_
                have e39 : jw32 (x5 + 1) = x5 + 1 := j32e (by omega) (by omega)
                show jGo E l 117 229 229 _ 64 [.inr (.inr (.inl 176)), .inl a1, .inl a2, .inl x3, .inl x4, .inl (jw32 (x5 + 1)), .inl (jand x4 (jxor (jshl 1 x5) (-1))), x7] [] 229 jr0 g
                exact ih.2.2.2.1 x3 x4 (jw32 (x5 + 1)) (.inl (jand x4 (jxor (jshl 1 x5) (-1)))) x7 g (by omega) hf (by omega)
              · replace c38 : ¬ t36 = 0 := by first | exact c38 | exact Int.not_le.mp c38 | exact Int.not_lt.mp c38 | exact Decidable.not_not.mp c38
                refine st_gr jo_176 jr_176_54 ?_
                refine st_ai jo_223 (show 0 ≤ jand x4 (jxor (jshl 1 x5) (-1)) by omega) (show jand x4 (jxor (jshl 1 x5) (-1)) < ((64 : Nat) : Int) by omega) (fun v40 ev40 b41 => ?_)
                replace ev40 : v40 = g 223 (jand x4 (jxor (jshl 1 x5) (-1))) := ev40
                replace b41 := (jba_223 (jand x4 (jxor (jshl 1 x5) (-1))) _).1 b41
                refine st_gr jo_176 jr_176_37 ?_
                refine st_ai jo_207 (show 0 ≤ x3 by omega) (show x3 < ((40 : Nat) : Int) by omega) (fun v42 ev42 b43 => ?_)
                replace ev42 : v42 = g 207 x3 := ev42
                replace b43 := (jba_207 x3 _).1 b43
                refine st_gr jo_176 jr_176_44 ?_
                have e44 : jw32 (6 * a1) = 6 * a1 := j32e (by omega) (by omega)
                have e45 : jw32 ((jw32 (6 * a1)) + x5) = (jw32 (6 * a1)) + x5 := j32e (by omega) (by omega)
                refine st_ai jo_214 (show 0 ≤ jw32 ((jw32 (6 * a1)) + x5) by omega) (show jw32 ((jw32 (6 * a1)) + x5) < ((18 : Nat) : Int) by omega) (fun v46 ev46 b47 => ?_)
                replace ev46 : v46 = g 214 (jw32 ((jw32 (6 * a1)) + x5)) := ev46
                replace b47 := (jba_214 (jw32 ((jw32 (6 * a1)) + x5)) _).1 b47
                refine st_gr jo_176 jr_176_54 ?_
                refine st_gr jo_176 jr_176_54 ?_
                refine st_ai jo_223 (show 0 ≤ x4 by omega) (show x4 < ((64 : Nat) : Int) by omega) (fun v48 ev48 b49 => ?_)
                replace ev48 : v48 = g 223 x4 := ev48
                replace b49 := (jba_223 x4 _).1 b49
                refine And.intro (fun c50 => ?_) (fun c50 => ?_)
                · replace c50 : v48 ≤ jw32 ((jw32 (v40 + v42)) - v46) := c50
                  show jGo E l 117 229 229 _ 172 [.inr (.inr (.inl 176)), .inl a1, .inl a2, .inl x3, .inl x4, .inl x5, .inl (jand x4 (jxor (jshl 1 x5) (-1))), .inl (jw32 ((jw32 (v40 + v42)) - v46))] [.inl x4, .inr (.inr (.inl 223))] 229 jr0 g
                  refine jGo_blk qX12_solve_172 ?_
                  refine st_gr jo_176 jr_176_54 ?_
                  refine st_ai jo_223 (show 0 ≤ x4 by omega) (show x4 < ((64 : Nat) : Int) by omega) (fun v51 ev51 b52 => ?_)
                  replace ev51 : v51 = g 223 x4 := ev51
                  replace b52 := (jba_223 x4 _).1 b52
                  show jGo E l 117 229 229 _ 179 [.inr (.inr (.inl 176)), .inl a1, .inl a2, .inl x3, .inl x4, .inl x5, .inl (jand x4 (jxor (jshl 1 x5) (-1))), .inl (jw32 ((jw32 (v40 + v42)) - v46))] [.inl v51, .inl x4, .inr (.inr (.inl 223))] 229 jr0 g
                  refine jGo_blk qX12_solve_179 ?_
                  refine st_si jo_223 (show 0 ≤ x4 by omega) (show x4 < ((64 : Nat) : Int) by omega) (fun hx => (jba_223 _ _).2 hx) (fun g53 eg53 => ?_)
                  replace eg53 : g53 = jup g 223 x4 v51 := eg53
                  have fg53 : jfr w_X12_solve h g53 := jfr_up hf eg53 (by unfold w_X12_solve; omega)
                  have e54 : g53 223 x4 = v51 := jup_s eg53
                  show jGo E l 117 229 229 _ 180 [.inr (.inr (.inl 176)), .inl a1, .inl a2, .inl x3, .inl x4, .inl x5, .inl (jand x4 (jxor (jshl 1 x5) (-1))), .inl (jw32 ((jw32 (v40 + v42)) - v46))] [] 229 jr0 g53
                  refine jGo_blk qX12_solve_180 ?_
                  have e55 : jw32 (x5 + 1) = x5 + 1 := j32e (by omega) (by omega)
                  show jGo E l 117 229 229 _ 64 [.inr (.inr (.inl 176)), .inl a1, .inl a2, .inl x3, .inl x4, .inl (jw32 (x5 + 1)), .inl (jand x4 (jxor (jshl 1 x5) (-1))), .inl (jw32 ((jw32 (v40 + v42)) - v46))] [] 229 jr0 g53
                  exact ih.2.2.2.1 x3 x4 (jw32 (x5 + 1)) (.inl (jand x4 (jxor (jshl 1 x5) (-1)))) (.inl (jw32 ((jw32 (v40 + v42)) - v46))) g53 (by omega) fg53 (by omega)
                · replace c50 : jw32 ((jw32 (v40 + v42)) - v46) < v48 := by first | exact c50 | exact Int.not_le.mp c50 | exact Int.not_lt.mp c50 | exact Decidable.not_not.mp c50
                  show jGo E l 117 229 229 _ 179 [.inr (.inr (.inl 176)), .inl a1, .inl a2, .inl x3, .inl x4, .inl x5, .inl (jand x4 (jxor (jshl 1 x5) (-1))), .inl (jw32 ((jw32 (v40 + v42)) - v46))] [.inl (jw32 ((jw32 (v40 + v42)) - v46)), .inl x4, .inr (.inr (.inl 223))] 229 jr0 g
                  refine jGo_blk qX12_solve_179 ?_
                  refine st_si jo_223 (show 0 ≤ x4 by omega) (show x4 < ((64 : Nat) : Int) by omega) (fun hx => (jba_223 _ _).2 hx) (fun g56 eg56 => ?_)
                  replace eg56 : g56 = jup g 223 x4 (jw32 ((jw32 (v40 + v42)) - v46)) := eg56
                  have fg56 : jfr w_X12_solve h g56 := jfr_up hf eg56 (by unfold w_X12_solve; omega)
                  have e57 : g56 223 x4 = jw32 ((jw32 (v40 + v42)) - v46) := jup_s eg56
                  show jGo E l 117 229 229 _ 180 [.inr (.inr (.inl 176)), .inl a1, .inl a2, .inl x3, .inl x4, .inl x5, .inl (jand x4 (jxor (jshl 1 x5) (-1))), .inl (jw32 ((jw32 (v40 + v42)) - v46))] [] 229 jr0 g56
                  refine jGo_blk qX12_solve_180 ?_
                  have e58 : jw32 (x5 + 1) = x5 + 1 := j32e (by omega) (by omega)
                  show jGo E l 117 229 229 _ 64 [.inr (.inr (.inl 176)), .inl a1, .inl a2, .inl x3, .inl x4, .inl (jw32 (x5 + 1)), .inl (jand x4 (jxor (jshl 1 x5) (-1))), .inl (jw32 ((jw32 (v40 + v42)) - v46))] [] 229 jr0 g56
                  exact ih.2.2.2.1 x3 x4 (jw32 (x5 + 1)) (.inl (jand x4 (jxor (jshl 1 x5) (-1)))) (.inl (jw32 ((jw32 (v40 + v42)) - v46))) g56 (by omega) fg56 (by omega)
      · intro x3 x4 x5 x6 x7 g hi hf hN
        refine jGo_blk qX12_solve_210 ?_
        refine And.intro (fun c59 => ?_) (fun c59 => ?_)
        · replace c59 : 64 ≤ x3 := c59
          show jGo E l 117 229 229 _ 298 [.inr (.inr (.inl 176)), .inl a1, .inl a2, .inl x3, x4, x5, x6, x7] [] 229 jr0 g
          refine jGo_blk qX12_solve_298 ?_
          exact ⟨rfl, rfl, hf, rfl, trivial⟩
        · replace c59 : x3 < 64 := by first | exact c59 | exact Int.not_le.mp c59 | exact Int.not_lt.mp c59 | exact Decidable.not_not.mp c59
          refine st_gr jo_176 jr_176_54 ?_
          refine st_ai jo_223 (show 0 ≤ x3 by omega) (show x3 < ((64 : Nat) : Int) by omega) (fun v60 ev60 b61 => ?_)
          replace ev60 : v60 = g 223 x3 := ev60
          replace b61 := (jba_223 x3 _).1 b61
          refine And.intro (fun c62 => ?_) (fun c62 => ?_)
          · replace c62 : 2000000000 ≤ v60 := c62
            show jGo E l 117 229 229 _ 231 [.inr (.inr (.inl 176)), .inl a1, .inl a2, .inl x3, x4, x5, x6, x7] [] 229 jr0 g
            refine jGo_blk qX12_solve_231 ?_
            show jGo E l 117 229 229 _ 232 [.inr (.inr (.inl 176)), .inl a1, .inl a2, .inl x3, x4, x5, x6, x7] [.inl 0] 229 jr0 g
            refine jGo_blk qX12_solve_232 ?_
            refine st_cs (na := 1) (st := [.inl x3]) rfl rfl rfl (c_X12_ones x3 g (by omega)) rfl ?_
            rintro _ _ _ ⟨rfl, rfl, t63, rfl, ht63, zt63⟩ kt63
            replace kt63 : -2147483648 ≤ t63 ∧ t63 ≤ 2147483647 := kt63
            refine And.intro (fun c65 => ?_) (fun c65 => ?_)
            · replace c65 : (0 : Int) = 0 := c65
              show jGo E l 117 229 229 _ 292 [.inr (.inr (.inl 176)), .inl a1, .inl a2, .inl x3, .inl 0, .inl t63, x6, x7] [] 229 jr0 g
              refine jGo_blk qX12_solve_292 ?_
              have e66 : jw32 (x3 + 1) = x3 + 1 := j32e (by omega) (by omega)
              show jGo E l 117 229 229 _ 210 [.inr (.inr (.inl 176)), .inl a1, .inl a2, .inl (jw32 (x3 + 1)), .inl 0, .inl t63, x6, x7] [] 229 jr0 g
              exact ih.2.2.2.2 (jw32 (x3 + 1)) (.inl 0) (.inl t63) x6 x7 g (by omega) hf (by omega)
            · replace c65 : ¬ (0 : Int) = 0 := by first | exact c65 | exact Int.not_le.mp c65 | exact Int.not_lt.mp c65 | exact Decidable.not_not.mp c65
              exfalso; omega
          · replace c62 : v60 < 2000000000 := by first | exact c62 | exact Int.not_le.mp c62 | exact Int.not_lt.mp c62 | exact Decidable.not_not.mp c62
            show jGo E l 117 229 229 _ 232 [.inr (.inr (.inl 176)), .inl a1, .inl a2, .inl x3, x4, x5, x6, x7] [.inl 1] 229 jr0 g
            refine jGo_blk qX12_solve_232 ?_
            refine st_cs (na := 1) (st := [.inl x3]) rfl rfl rfl (c_X12_ones x3 g (by omega)) rfl ?_
            rintro _ _ _ ⟨rfl, rfl, t67, rfl, ht67, zt67⟩ kt67
            replace kt67 : -2147483648 ≤ t67 ∧ t67 ≤ 2147483647 := kt67
            refine And.intro (fun c69 => ?_) (fun c69 => ?_)
            · replace c69 : (1 : Int) = 0 := c69
              exfalso; omega
            · replace c69 : ¬ (1 : Int) = 0 := by first | exact c69 | exact Int.not_le.mp c69 | exact Int.not_lt.mp c69 | exact Decidable.not_not.mp c69
              refine st_gi jo_176 (fun v70 ev70 b71 => ?_)
              replace ev70 : v70 = g 176 55 := ev70
              replace b71 := (jbf_12_55 jo_176 _).1 b71
              refine And.intro (fun c72 => ?_) (fun c72 => ?_)
              · replace c72 : v70 < t67 := c72
                show jGo E l 117 229 229 _ 276 [.inr (.inr (.inl 176)), .inl a1, .inl a2, .inl x3, .inl 1, .inl t67, x6, x7] [] 229 jr0 g
                refine jGo_blk qX12_solve_276 ?_
                refine st_pi jo_176 (fun hx => (jbf_12_55 jo_176 _).2 hx) (fun g73 eg73 => ?_)
                replace eg73 : g73 = jup g 176 55 t67 := eg73
                have fg73 : jfr w_X12_solve h g73 := jfr_up hf eg73 (by unfold w_X12_solve; omega)
                have e74 : g73 176 55 = t67 := jup_s eg73
                refine st_gr jo_176 jr_176_54 ?_
                refine st_ai jo_223 (show 0 ≤ x3 by omega) (show x3 < ((64 : Nat) : Int) by omega) (fun v75 ev75 b76 => ?_)
                replace ev75 : v75 = g73 223 x3 := ev75
                replace b76 := (jba_223 x3 _).1 b76
                refine st_pi jo_176 (fun hx => (jbf_12_56 jo_176 _).2 hx) (fun g77 eg77 => ?_)
                replace eg77 : g77 = jup g73 176 56 v75 := eg77
                have fg77 : jfr w_X12_solve h g77 := jfr_up fg73 eg77 (by unfold w_X12_solve; omega)
                have e78 : g77 176 56 = v75 := jup_s eg77
                show jGo E l 117 229 229 _ 292 [.inr (.inr (.inl 176)), .inl a1, .inl a2, .inl x3, .inl 1, .inl t67, x6, x7] [] 229 jr0 g77
                refine jGo_blk qX12_solve_292 ?_
                have e79 : jw32 (x3 + 1) = x3 + 1 := j32e (by omega) (by omega)
                show jGo E l 117 229 229 _ 210 [.inr (.inr (.inl 176)), .inl a1, .inl a2, .inl (jw32 (x3 + 1)), .inl 1, .inl t67, x6, x7] [] 229 jr0 g77
                exact ih.2.2.2.2 (jw32 (x3 + 1)) (.inl 1) (.inl t67) x6 x7 g77 (by omega) fg77 (by omega)
              · replace c72 : t67 ≤ v70 := by first | exact c72 | exact Int.not_le.mp c72 | exact Int.not_lt.mp c72 | exact Decidable.not_not.mp c72
                refine st_gi jo_176 (fun v80 ev80 b81 => ?_)
                replace ev80 : v80 = g 176 55 := ev80
                replace b81 := (jbf_12_55 jo_176 _).1 b81
                refine And.intro (fun c82 => ?_) (fun c82 => ?_)
                · replace c82 : ¬ t67 = v80 := c82
                  show jGo E l 117 229 229 _ 292 [.inr (.inr (.inl 176)), .inl a1, .inl a2, .inl x3, .inl 1, .inl t67, x6, x7] [] 229 jr0 g
                  refine jGo_blk qX12_solve_292 ?_
                  have e83 : jw32 (x3 + 1) = x3 + 1 := j32e (by omega) (by omega)
                  show jGo E l 117 229 229 _ 210 [.inr (.inr (.inl 176)), .inl a1, .inl a2, .inl (jw32 (x3 + 1)), .inl 1, .inl t67, x6, x7] [] 229 jr0 g
                  exact ih.2.2.2.2 (jw32 (x3 + 1)) (.inl 1) (.inl t67) x6 x7 g (by omega) hf (by omega)
                · replace c82 : t67 = v80 := by first | exact c82 | exact Int.not_le.mp c82 | exact Int.not_lt.mp c82 | exact Decidable.not_not.mp c82
                  refine st_gr jo_176 jr_176_54 ?_
                  refine st_ai jo_223 (show 0 ≤ x3 by omega) (show x3 < ((64 : Nat) : Int) by omega) (fun v84 ev84 b85 => ?_)
                  replace ev84 : v84 = g 223 x3 := ev84
                  replace b85 := (jba_223 x3 _).1 b85
                  refine st_gi jo_176 (fun v86 ev86 b87 => ?_)
                  replace ev86 : v86 = g 176 56 := ev86
                  replace b87 := (jbf_12_56 jo_176 _).1 b87
                  refine And.intro (fun c88 => ?_) (fun c88 => ?_)
                  · replace c88 : v86 ≤ v84 := c88
                    show jGo E l 117 229 229 _ 292 [.inr (.inr (.inl 176)), .inl a1, .inl a2, .inl x3, .inl 1, .inl t67, x6, x7] [] 229 jr0 g
                    refine jGo_blk qX12_solve_292 ?_
                    have e89 : jw32 (x3 + 1) = x3 + 1 := j32e (by omega) (by omega)
                    show jGo E l 117 229 229 _ 210 [.inr (.inr (.inl 176)), .inl a1, .inl a2, .inl (jw32 (x3 + 1)), .inl 1, .inl t67, x6, x7] [] 229 jr0 g
                    exact ih.2.2.2.2 (jw32 (x3 + 1)) (.inl 1) (.inl t67) x6 x7 g (by omega) hf (by omega)
                  · replace c88 : v84 < v86 := by first | exact c88 | exact Int.not_le.mp c88 | exact Int.not_lt.mp c88 | exact Decidable.not_not.mp c88
                    show jGo E l 117 229 229 _ 276 [.inr (.inr (.inl 176)), .inl a1, .inl a2, .inl x3, .inl 1, .inl t67, x6, x7] [] 229 jr0 g
                    refine jGo_blk qX12_solve_276 ?_
                    refine st_pi jo_176 (fun hx => (jbf_12_55 jo_176 _).2 hx) (fun g90 eg90 => ?_)
                    replace eg90 : g90 = jup g 176 55 t67 := eg90
                    have fg90 : jfr w_X12_solve h g90 := jfr_up hf eg90 (by unfold w_X12_solve; omega)
                    have e91 : g90 176 55 = t67 := jup_s eg90
                    refine st_gr jo_176 jr_176_54 ?_
                    refine st_ai jo_223 (show 0 ≤ x3 by omega) (show x3 < ((64 : Nat) : Int) by omega) (fun v92 ev92 b93 => ?_)
                    replace ev92 : v92 = g90 223 x3 := ev92
                    replace b93 := (jba_223 x3 _).1 b93
                    refine st_pi jo_176 (fun hx => (jbf_12_56 jo_176 _).2 hx) (fun g94 eg94 => ?_)
                    replace eg94 : g94 = jup g90 176 56 v92 := eg94
                    have fg94 : jfr w_X12_solve h g94 := jfr_up fg90 eg94 (by unfold w_X12_solve; omega)
                    have e95 : g94 176 56 = v92 := jup_s eg94
                    show jGo E l 117 229 229 _ 292 [.inr (.inr (.inl 176)), .inl a1, .inl a2, .inl x3, .inl 1, .inl t67, x6, x7] [] 229 jr0 g94
                    refine jGo_blk qX12_solve_292 ?_
                    have e96 : jw32 (x3 + 1) = x3 + 1 := j32e (by omega) (by omega)
                    show jGo E l 117 229 229 _ 210 [.inr (.inr (.inl 176)), .inl a1, .inl a2, .inl (jw32 (x3 + 1)), .inl 1, .inl t67, x6, x7] [] 229 jr0 g94
                    exact ih.2.2.2.2 (jw32 (x3 + 1)) (.inl 1) (.inl t67) x6 x7 g94 (by omega) fg94 (by omega)
  refine jGo_blk qX12_solve_0 ?_
  show jGo E l 117 229 229 _ 2 [.inr (.inr (.inl 176)), .inl a1, .inl a2, .inl 0, .inr (.inr (.inr ())), .inr (.inr (.inr ())), .inr (.inr (.inr ())), .inr (.inr (.inr ()))] [] 229 jr0 h
  exact (key 1000000000000000000000000).1 0 h (by omega) f0 (by omega)
