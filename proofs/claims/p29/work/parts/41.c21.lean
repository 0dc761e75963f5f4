def w_X12_solve (i k : Int) : Prop := (i = 223) ∨ (i = 176 ∧ 55 ≤ k ∧ k ≤ 56)
def k_X12_solve (a1 : Int) (a2 : Int) (h : JH) (v : Option JV) (r' g : JH) : Prop := r' = jr0 ∧ jfr w_X12_solve h g ∧ v = none ∧ (jMsP a1 a2 h g)
set_option maxHeartbeats 4000000 in
theorem c_X12_solve {E : JE} {l : Launch} (a1 : Int) (a2 : Int) (h : JH) (p1 : 0 ≤ a1 ∧ a1 ≤ 2) (p2 : 0 ≤ a2 ∧ a2 ≤ 6) (q0 : jM7 h) : jMt E l 117 [.inr (.inr (.inl 176)), .inl a1, .inl a2] 229 jr0 h (k_X12_solve a1 a2 h) := by
  refine jMt0 (nL := 8) (ls := [.inr (.inr (.inl 176)), .inl a1, .inl a2, .inr (.inr (.inr ())), .inr (.inr (.inr ())), .inr (.inr (.inr ())), .inr (.inr (.inr ())), .inr (.inr (.inr ()))]) (by decide +kernel) (by decide +kernel) (by decide +kernel) rfl rfl ?_
  have f0 : jfr w_X12_solve h h := jfr_rf _ _
  refine jGo_bd (fun hbd => ?_)
  have hB : ∀ k : Int, 0 ≤ h 214 k := fun k => ((jba_214 k _).1 (hbd 214 k)).1
  have hT := (jbf_12_34 jo_176 _).1 (hbd 176 34)
  have hn := (jba_210 a1 _).1 (hbd 210 a1)
  have key : ∀ N : Nat, (∀ (x3 : Int) (g : JH), (0 ≤ x3 ∧ x3 ≤ 64) → (jMi x3 g) → jfr w_X12_solve h g → ((64 - x3) + 40000) * 1000000000000 + 999999999999 < (N : Int) → jGo E l 117 229 229 (jRK (k_X12_solve a1 a2 h)) 2 [.inr (.inr (.inl 176)), .inl a1, .inl a2, .inl x3, .inr (.inr (.inr ())), .inr (.inr (.inr ())), .inr (.inr (.inr ())), .inr (.inr (.inr ()))] [] 229 jr0 g) ∧
      (∀ (x3 : Int) (x4 : JV) (x5 : JV) (x6 : JV) (x7 : JV) (g : JH), (0 ≤ x3 ∧ x3 ≤ 40) → (jM1 h a1 a2 x3 g) → (x3 ≤ h 176 34) → jfr w_X12_solve h g → ((40 - x3) + 20000) * 1000000000000 + 999999999999 < (N : Int) → jGo E l 117 229 229 (jRK (k_X12_solve a1 a2 h)) 32 [.inr (.inr (.inl 176)), .inl a1, .inl a2, .inl x3, x4, x5, x6, x7] [] 229 jr0 g) ∧
      (∀ (x3 : Int) (x4 : Int) (x5 : JV) (x6 : JV) (x7 : JV) (g : JH), (0 ≤ x3 ∧ x3 ≤ 39 ∧ 0 ≤ x4 ∧ x4 ≤ 63) → (jM2 h a1 a2 x3 x4 g) → (h 221 x3 = 0 ∧ x3 < h 176 34) → jfr w_X12_solve h g → ((40 - x3) + 20000) * 1000000000000 + (x4 - 0) * 1000000 + 999999 < (N : Int) → jGo E l 117 229 229 (jRK (k_X12_solve a1 a2 h)) 56 [.inr (.inr (.inl 176)), .inl a1, .inl a2, .inl x3, .inl x4, x5, x6, x7] [] 229 jr0 g) ∧
      (∀ (x3 : Int) (x4 : Int) (x5 : Int) (x6 : JV) (x7 : JV) (g : JH), (0 ≤ x3 ∧ x3 ≤ 39 ∧ 1 ≤ x4 ∧ x4 ≤ 63 ∧ 0 ≤ x5 ∧ x5 ≤ 6) → (jM3 h a1 a2 x3 x4 x5 g) → (h 221 x3 = 0 ∧ x3 < h 176 34) → (a2 ≤ x5) → jfr w_X12_solve h g → ((40 - x3) + 20000) * 1000000000000 + (x4 - 0) * 1000000 + (6 - x5) < (N : Int) → jGo E l 117 229 229 (jRK (k_X12_solve a1 a2 h)) 64 [.inr (.inr (.inl 176)), .inl a1, .inl a2, .inl x3, .inl x4, .inl x5, x6, x7] [] 229 jr0 g) ∧
      (∀ (x3 : Int) (x4 : JV) (x5 : JV) (x6 : JV) (x7 : JV) (g : JH), (1 ≤ x3 ∧ x3 ≤ 64) → (jM1 h a1 a2 (h 176 34) g) → (jMb x3 (g 176 55) (g 176 56) g) → jfr w_X12_solve h g → (64 - x3) * 1000000000000 + 999999999999 < (N : Int) → jGo E l 117 229 229 (jRK (k_X12_solve a1 a2 h)) 210 [.inr (.inr (.inl 176)), .inl a1, .inl a2, .inl x3, x4, x5, x6, x7] [] 229 jr0 g) := by
    intro N
    induction N with
    | zero => exact ⟨fun _ _ hi hx0 _ hN => absurd hN (by omega), fun _ _ _ _ _ _ hi hx0 hx1 _ hN => absurd hN (by omega), fun _ _ _ _ _ _ hi hx0 hx1 _ hN => absurd hN (by omega), fun _ _ _ _ _ _ hi hx0 hx1 hx2 _ hN => absurd hN (by omega), fun _ _ _ _ _ _ hi hx0 hx1 _ hN => absurd hN (by omega)⟩
    | succ N ih =>
      refine ⟨?_, ?_, ?_, ?_, ?_⟩
      · intro x3 g hi hx0 hf hN
        refine jGo_blk qX12_solve_2 ?_
        refine And.intro (fun c1 => ?_) (fun c1 => ?_)
        · replace c1 : 64 ≤ x3 := c1
          show jGo E l 117 229 229 _ 30 [.inr (.inr (.inl 176)), .inl a1, .inl a2, .inl x3, .inr (.inr (.inr ())), .inr (.inr (.inr ())), .inr (.inr (.inr ())), .inr (.inr (.inr ()))] [] 229 jr0 g
          refine jGo_blk qX12_solve_30 ?_
          show jGo E l 117 229 229 _ 32 [.inr (.inr (.inl 176)), .inl a1, .inl a2, .inl 0, .inr (.inr (.inr ())), .inr (.inr (.inr ())), .inr (.inr (.inr ())), .inr (.inr (.inr ()))] [] 229 jr0 g
          exact ih.2.1 0 (.inr (.inr (.inr ()))) (.inr (.inr (.inr ()))) (.inr (.inr (.inr ()))) (.inr (.inr (.inr ()))) g (by omega) (by have y9 := hx0; rw [show x3 = 64 by omega] at y9; exact jM_0 y9) (by omega) hf (by omega)
        · replace c1 : x3 < 64 := by first | exact c1 | exact Int.not_le.mp c1 | exact Int.not_lt.mp c1 | exact Decidable.not_not.mp c1
          refine st_gr jo_176 jr_176_54 ?_
          refine And.intro (fun c2 => ?_) (fun c2 => ?_)
          · replace c2 : ¬ x3 = 0 := c2
            show jGo E l 117 229 229 _ 21 [.inr (.inr (.inl 176)), .inl a1, .inl a2, .inl x3, .inr (.inr (.inr ())), .inr (.inr (.inr ())), .inr (.inr (.inr ())), .inr (.inr (.inr ()))] [.inl x3, .inr (.inr (.inl 223))] 229 jr0 g
            refine jGo_blk qX12_solve_21 ?_
            show jGo E l 117 229 229 _ 23 [.inr (.inr (.inl 176)), .inl a1, .inl a2, .inl x3, .inr (.inr (.inr ())), .inr (.inr (.inr ())), .inr (.inr (.inr ())), .inr (.inr (.inr ()))] [.inl 2000000000, .inl x3, .inr (.inr (.inl 223))] 229 jr0 g
            refine jGo_blk qX12_solve_23 ?_
            refine st_si jo_223 (show 0 ≤ x3 by omega) (show x3 < ((64 : Nat) : Int) by omega) (fun hx => (jba_223 _ _).2 hx) (fun g3 eg3 => ?_)
            replace eg3 : g3 = jup g 223 x3 2000000000 := eg3
            have fg3 : jfr w_X12_solve h g3 := jfr_up hf eg3 (by unfold w_X12_solve; omega)
            have e4 : g3 223 x3 = 2000000000 := jup_s eg3
            have e5 : jw32 (x3 + 1) = x3 + 1 := jzj32 (by omega)
            show jGo E l 117 229 229 _ 2 [.inr (.inr (.inl 176)), .inl a1, .inl a2, .inl (jw32 (x3 + 1)), .inr (.inr (.inr ())), .inr (.inr (.inr ())), .inr (.inr (.inr ())), .inr (.inr (.inr ()))] [] 229 jr0 g3
            exact ih.1 (jw32 (x3 + 1)) g3 (by omega) (by rw [show jw32 (x3 + 1) = x3 + 1 by omega]; exact jMi_s hx0 (by omega) eg3 (by omega)) fg3 (by omega)
          · replace c2 : x3 = 0 := by first | exact c2 | exact Int.not_le.mp c2 | exact Int.not_lt.mp c2 | exact Decidable.not_not.mp c2
            show jGo E l 117 229 229 _ 23 [.inr (.inr (.inl 176)), .inl a1, .inl a2, .inl x3, .inr (.inr (.inr ())), .inr (.inr (.inr ())), .inr (.inr (.inr ())), .inr (.inr (.inr ()))] [.inl 0, .inl x3, .inr (.inr (.inl 223))] 229 jr0 g
            refine jGo_blk qX12_solve_23 ?_
            refine st_si jo_223 (show 0 ≤ x3 by omega) (show x3 < ((64 : Nat) : Int) by omega) (fun hx => (jba_223 _ _).2 hx) (fun g6 eg6 => ?_)
            replace eg6 : g6 = jup g 223 x3 0 := eg6
            have fg6 : jfr w_X12_solve h g6 := jfr_up hf eg6 (by unfold w_X12_solve; omega)
            have e7 : g6 223 x3 = 0 := jup_s eg6
            have e8 : jw32 (x3 + 1) = x3 + 1 := jzj32 (by omega)
            show jGo E l 117 229 229 _ 2 [.inr (.inr (.inl 176)), .inl a1, .inl a2, .inl (jw32 (x3 + 1)), .inr (.inr (.inr ())), .inr (.inr (.inr ())), .inr (.inr (.inr ())), .inr (.inr (.inr ()))] [] 229 jr0 g6
            exact ih.1 (jw32 (x3 + 1)) g6 (by omega) (by rw [show jw32 (x3 + 1) = x3 + 1 by omega]; exact jMi_s hx0 (by omega) eg6 (by omega)) fg6 (by omega)
      · intro x3 x4 x5 x6 x7 g hi hx0 hx1 hf hN
        have hz1 : ∀ k : Int, g 221 k = h 221 k := fun k => hf 221 k (by unfold w_X12_solve; omega)
        have hz2 : g 176 34 = h 176 34 := hf 176 34 (by unfold w_X12_solve; omega)
        have hz3 : ∀ i k : Int, 205 ≤ i → i ≤ 214 → g i k = h i k := fun i k p1 p2 => hf i k (by unfold w_X12_solve; omega)
        have hz4 := hz3 210 a1 (by decide) (by decide)
        refine jGo_blk qX12_solve_32 ?_
        refine st_gi jo_176 (fun v9 ev9 b10 => ?_)
        replace ev9 : v9 = g 176 34 := ev9
        replace b10 := (jbf_12_34 jo_176 _).1 b10
        refine And.intro (fun c11 => ?_) (fun c11 => ?_)
        · replace c11 : v9 ≤ x3 := c11
          show jGo E l 117 229 229 _ 198 [.inr (.inr (.inl 176)), .inl a1, .inl a2, .inl x3, x4, x5, x6, x7] [] 229 jr0 g
          refine jGo_blk qX12_solve_198 ?_
          refine st_pi jo_176 (fun hx => (jbf_12_55 jo_176 _).2 hx) (fun g12 eg12 => ?_)
          replace eg12 : g12 = jup g 176 55 0 := eg12
          have fg12 : jfr w_X12_solve h g12 := jfr_up hf eg12 (by unfold w_X12_solve; omega)
          have e13 : g12 176 55 = 0 := jup_s eg12
          refine st_pi jo_176 (fun hx => (jbf_12_56 jo_176 _).2 hx) (fun g14 eg14 => ?_)
          replace eg14 : g14 = jup g12 176 56 0 := eg14
          have fg14 : jfr w_X12_solve h g14 := jfr_up fg12 eg14 (by unfold w_X12_solve; omega)
          have e15 : g14 176 56 = 0 := jup_s eg14
          show jGo E l 117 229 229 _ 210 [.inr (.inr (.inl 176)), .inl a1, .inl a2, .inl 1, x4, x5, x6, x7] [] 229 jr0 g14
          have e16 : g14 176 55 = g12 176 55 := jup_o eg14 (by first | exact fun q => absurd q.1 (by decide) | exact fun q => absurd q.2 (by decide) | omega)
          exact ih.2.2.2.2 1 x4 x5 x6 x7 g14 (by omega) (by exact fun z hz => (((jup_o eg14 (by first | exact fun q => absurd q.1 (by decide) | exact fun q => absurd q.2 (by decide) | omega)).trans (jup_o eg12 (by first | exact fun q => absurd q.1 (by decide) | exact fun q => absurd q.2 (by decide) | omega)))).trans (by rw [show h 176 34 = x3 by omega]; exact hx0 z hz)) (by exact jMb_c (fun k => ((jup_o eg14 (by first | exact fun q => absurd q.1 (by decide) | exact fun q => absurd q.2 (by decide) | omega)).trans (jup_o eg12 (by first | exact fun q => absurd q.1 (by decide) | exact fun q => absurd q.2 (by decide) | omega)))) ((jup_o eg14 (by first | exact fun q => absurd q.1 (by decide) | exact fun q => absurd q.2 (by decide) | omega)).trans (jup_s eg12)) (jup_s eg14) (jMb_0 hx0)) fg14 (by omega)
        · replace c11 : x3 < v9 := by first | exact c11 | exact Int.not_le.mp c11 | exact Int.not_lt.mp c11 | exact Decidable.not_not.mp c11
          refine st_gr jo_176 jr_176_52 ?_
          refine st_bi jo_221 (show 0 ≤ x3 by omega) (show x3 < ((40 : Nat) : Int) by omega) (fun v17 ev17 b18 => ?_)
          replace ev17 : v17 = g 221 x3 := ev17
          replace b18 := (jba_221 x3 _).1 b18
          refine And.intro (fun c19 => ?_) (fun c19 => ?_)
          · replace c19 : v17 = 0 := c19
            show jGo E l 117 229 229 _ 52 [.inr (.inr (.inl 176)), .inl a1, .inl a2, .inl x3, x4, x5, x6, x7] [] 229 jr0 g
            refine jGo_blk qX12_solve_52 ?_
            show jGo E l 117 229 229 _ 56 [.inr (.inr (.inl 176)), .inl a1, .inl a2, .inl x3, .inl 63, x5, x6, x7] [] 229 jr0 g
            exact ih.2.2.1 x3 63 x5 x6 x7 g (by omega) (by exact jM_a hx0) (by have y9 := hz1 x3; omega) hf (by omega)
          · replace c19 : ¬ v17 = 0 := by first | exact c19 | exact Int.not_le.mp c19 | exact Int.not_lt.mp c19 | exact Decidable.not_not.mp c19
            show jGo E l 117 229 229 _ 192 [.inr (.inr (.inl 176)), .inl a1, .inl a2, .inl x3, x4, x5, x6, x7] [] 229 jr0 g
            refine jGo_blk qX12_solve_192 ?_
            have e20 : jw32 (x3 + 1) = x3 + 1 := jzj32 (by omega)
            show jGo E l 117 229 229 _ 32 [.inr (.inr (.inl 176)), .inl a1, .inl a2, .inl (jw32 (x3 + 1)), x4, x5, x6, x7] [] 229 jr0 g
            exact ih.2.1 (jw32 (x3 + 1)) x4 x5 x6 x7 g (by omega) (by rw [show jw32 (x3 + 1) = x3 + 1 by omega]; exact jM_us hx0 (by omega) (by have y9 := hz1 x3; omega)) (by omega) hf (by omega)
      · intro x3 x4 x5 x6 x7 g hi hx0 hx1 hf hN
        have hz1 : ∀ k : Int, g 221 k = h 221 k := fun k => hf 221 k (by unfold w_X12_solve; omega)
        have hz2 : g 176 34 = h 176 34 := hf 176 34 (by unfold w_X12_solve; omega)
        have hz3 : ∀ i k : Int, 205 ≤ i → i ≤ 214 → g i k = h i k := fun i k p1 p2 => hf i k (by unfold w_X12_solve; omega)
        have hz4 := hz3 210 a1 (by decide) (by decide)
        refine jGo_blk qX12_solve_56 ?_
        refine And.intro (fun c21 => ?_) (fun c21 => ?_)
        · replace c21 : x4 ≤ 0 := c21
          show jGo E l 117 229 229 _ 192 [.inr (.inr (.inl 176)), .inl a1, .inl a2, .inl x3, .inl x4, x5, x6, x7] [] 229 jr0 g
          refine jGo_blk qX12_solve_192 ?_
          have e22 : jw32 (x3 + 1) = x3 + 1 := jzj32 (by omega)
          show jGo E l 117 229 229 _ 32 [.inr (.inr (.inl 176)), .inl a1, .inl a2, .inl (jw32 (x3 + 1)), .inl x4, x5, x6, x7] [] 229 jr0 g
          exact ih.2.1 (jw32 (x3 + 1)) (.inl x4) x5 x6 x7 g (by omega) (by rw [show jw32 (x3 + 1) = x3 + 1 by omega]; exact jM_b hx0 (by omega) (by omega) (by omega)) (by omega) hf (by omega)
        · replace c21 : 0 < x4 := by first | exact c21 | exact Int.not_le.mp c21 | exact Int.not_lt.mp c21 | exact Decidable.not_not.mp c21
          show jGo E l 117 229 229 _ 64 [.inr (.inr (.inl 176)), .inl a1, .inl a2, .inl x3, .inl x4, .inl a2, x6, x7] [] 229 jr0 g
          exact ih.2.2.2.1 x3 x4 a2 x6 x7 g (by omega) (by exact jM_c hx0 (by omega) (by omega) (by omega) (by omega)) (by omega) (by omega) hf (by omega)
      · intro x3 x4 x5 x6 x7 g hi hx0 hx1 hx2 hf hN
        have hz1 : ∀ k : Int, g 221 k = h 221 k := fun k => hf 221 k (by unfold w_X12_solve; omega)
        have hz2 : g 176 34 = h 176 34 := hf 176 34 (by unfold w_X12_solve; omega)
        have hz3 : ∀ i k : Int, 205 ≤ i → i ≤ 214 → g i k = h i k := fun i k p1 p2 => hf i k (by unfold w_X12_solve; omega)
        have hz4 := hz3 210 a1 (by decide) (by decide)
        refine jGo_blk qX12_solve_64 ?_
        refine st_gr jo_176 jr_176_40 ?_
        refine st_ai jo_210 (show 0 ≤ a1 by omega) (show a1 < ((3 : Nat) : Int) by omega) (fun v23 ev23 b24 => ?_)
        replace ev23 : v23 = g 210 a1 := ev23
        replace b24 := (jba_210 a1 _).1 b24
        refine And.intro (fun c25 => ?_) (fun c25 => ?_)
        · replace c25 : v23 ≤ x5 := c25
          show jGo E l 117 229 229 _ 186 [.inr (.inr (.inl 176)), .inl a1, .inl a2, .inl x3, .inl x4, .inl x5, x6, x7] [] 229 jr0 g
          refine jGo_blk qX12_solve_186 ?_
          have e26 : jw32 (x4 + (-1)) = x4 + (-1) := jzj32 (by omega)
          show jGo E l 117 229 229 _ 56 [.inr (.inr (.inl 176)), .inl a1, .inl a2, .inl x3, .inl (jw32 (x4 + (-1))), .inl x5, x6, x7] [] 229 jr0 g
          exact ih.2.2.1 x3 (jw32 (x4 + (-1))) (.inl x5) x6 x7 g (by omega) (by rw [show jw32 (x4 + (-1)) = x4 - 1 by omega]; exact jM_d hx0 (by omega) (by omega) (by omega) (by omega) (by omega) (by omega)) (by omega) hf (by omega)
        · replace c25 : x5 < v23 := by first | exact c25 | exact Int.not_le.mp c25 | exact Int.not_lt.mp c25 | exact Decidable.not_not.mp c25
          have e27 := jshl1_5 x5 (by omega) (by omega)
          have e28 := jand_le x4 (jxor (jshl 1 x5) (-1)) (by omega) (by omega)
          refine And.intro (fun c29 => ?_) (fun c29 => ?_)
          · replace c29 : jand x4 (jxor (jshl 1 x5) (-1)) = x4 := c29
            show jGo E l 117 229 229 _ 180 [.inr (.inr (.inl 176)), .inl a1, .inl a2, .inl x3, .inl x4, .inl x5, .inl (jand x4 (jxor (jshl 1 x5) (-1))), x7] [] 229 jr0 g
            refine jGo_blk qX12_solve_180 ?_
            have e30 : jw32 (x5 + 1) = x5 + 1 := jzj32 (by omega)
            show jGo E l 117 229 229 _ 64 [.inr (.inr (.inl 176)), .inl a1, .inl a2, .inl x3, .inl x4, .inl (jw32 (x5 + 1)), .inl (jand x4 (jxor (jshl 1 x5) (-1))), x7] [] 229 jr0 g
            exact ih.2.2.2.1 x3 x4 (jw32 (x5 + 1)) (.inl (jand x4 (jxor (jshl 1 x5) (-1)))) x7 g (by omega) (by rw [show jw32 (x5 + 1) = x5 + 1 by omega]; exact jM_n hx0 (by omega) (by omega) (by omega) (by omega) (by omega) (Or.inl (by omega))) (by omega) (by omega) hf (by omega)
          · replace c29 : ¬ jand x4 (jxor (jshl 1 x5) (-1)) = x4 := by first | exact c29 | exact Int.not_le.mp c29 | exact Int.not_lt.mp c29 | exact Decidable.not_not.mp c29
            refine st_gr jo_176 jr_176_54 ?_
            refine st_ai jo_223 (show 0 ≤ jand x4 (jxor (jshl 1 x5) (-1)) by omega) (show jand x4 (jxor (jshl 1 x5) (-1)) < ((64 : Nat) : Int) by omega) (fun v31 ev31 b32 => ?_)
            replace ev31 : v31 = g 223 (jand x4 (jxor (jshl 1 x5) (-1))) := ev31
            replace b32 := (jba_223 (jand x4 (jxor (jshl 1 x5) (-1))) _).1 b32
            refine And.intro (fun c33 => ?_) (fun c33 => ?_)
            · replace c33 : 2000000000 ≤ v31 := c33
              show jGo E l 117 229 229 _ 180 [.inr (.inr (.inl 176)), .inl a1, .inl a2, .inl x3, .inl x4, .inl x5, .inl (jand x4 (jxor (jshl 1 x5) (-1))), x7] [] 229 jr0 g
              refine jGo_blk qX12_solve_180 ?_
              have e34 : jw32 (x5 + 1) = x5 + 1 := jzj32 (by omega)
              show jGo E l 117 229 229 _ 64 [.inr (.inr (.inl 176)), .inl a1, .inl a2, .inl x3, .inl x4, .inl (jw32 (x5 + 1)), .inl (jand x4 (jxor (jshl 1 x5) (-1))), x7] [] 229 jr0 g
              exact ih.2.2.2.1 x3 x4 (jw32 (x5 + 1)) (.inl (jand x4 (jxor (jshl 1 x5) (-1)))) x7 g (by omega) (by rw [show jw32 (x5 + 1) = x5 + 1 by omega]; exact jM_n hx0 (by omega) (by omega) (by omega) (by omega) (by omega) (Or.inr (Or.inl ⟨by omega, by omega⟩))) (by omega) (by omega) hf (by omega)
            · replace c33 : v31 < 2000000000 := by first | exact c33 | exact Int.not_le.mp c33 | exact Int.not_lt.mp c33 | exact Decidable.not_not.mp c33
              have e35 : jw32 (6 * a1) = 6 * a1 := jzj32 (by omega)
              have e36 : jw32 ((jw32 (6 * a1)) + x5) = (jw32 (6 * a1)) + x5 := jzj32 (by omega)
              refine st_cv (na := 2) (st := [.inl (jw32 ((jw32 (6 * a1)) + x5)), .inl x3, .inr (.inr (.inl 176))]) jo_176 rfl rfl rfl (c_X12_fits x3 (jw32 ((jw32 (6 * a1)) + x5)) g (by omega) (by omega)) rfl ?_
              rintro _ _ _ ⟨rfl, rfl, t37, rfl, ht37, zt37⟩ kt37
              replace kt37 : -2147483648 ≤ t37 ∧ t37 ≤ 2147483647 := kt37
              replace ht37 : 0 ≤ t37 ∧ t37 ≤ 1 := ht37
              replace zt37 : (t37 = 1 ∧ jmft g x3 (jw32 ((jw32 (6 * a1)) + x5))) ∨ (t37 = 0 ∧ ¬ jmft g x3 (jw32 ((jw32 (6 * a1)) + x5))) := zt37
              refine And.intro (fun c39 => ?_) (fun c39 => ?_)
              · replace c39 : t37 = 0 := c39
                show jGo E l 117 229 229 _ 180 [.inr (.inr (.inl 176)), .inl a1, .inl a2, .inl x3, .inl x4, .inl x5, .inl (jand x4 (jxor (jshl 1 x5) (-1))), x7] [] 229 jr0 g
                refine jGo_blk qX12_solve_180 ?_
                have e40 : jw32 (x5 + 1) = x5 + 1 := jzj32 (by omega)
                show jGo E l 117 229 229 _ 64 [.inr (.inr (.inl 176)), .inl a1, .inl a2, .inl x3, .inl x4, .inl (jw32 (x5 + 1)), .inl (jand x4 (jxor (jshl 1 x5) (-1))), x7] [] 229 jr0 g
                have hc41 : (t37 = 1 ∧ jmft h x3 (6 * a1 + x5)) ∨ (t37 = 0 ∧ ¬ jmft h x3 (6 * a1 + x5)) := by
                  have q9 := jmft_c (t := x3) (k' := jw32 ((jw32 (6 * a1)) + x5)) (k := 6 * a1 + x5) hz3 (by omega)
                  rcases zt37 with k | k
                  · exact Or.inl ⟨k.1, q9.1 k.2⟩
                  · exact Or.inr ⟨k.1, fun w => k.2 (q9.2 w)⟩
                exact ih.2.2.2.1 x3 x4 (jw32 (x5 + 1)) (.inl (jand x4 (jxor (jshl 1 x5) (-1)))) x7 g (by omega) (by rw [show jw32 (x5 + 1) = x5 + 1 by omega]; exact jM_n hx0 (by omega) (by omega) (by omega) (by omega) (by omega) (Or.inr (Or.inr (by rcases hc41 with k | k; omega; exact k.2)))) (by omega) (by omega) hf (by omega)
              · replace c39 : ¬ t37 = 0 := by first | exact c39 | exact Int.not_le.mp c39 | exact Int.not_lt.mp c39 | exact Decidable.not_not.mp c39
                refine st_gr jo_176 jr_176_54 ?_
                refine st_ai jo_223 (show 0 ≤ jand x4 (jxor (jshl 1 x5) (-1)) by omega) (show jand x4 (jxor (jshl 1 x5) (-1)) < ((64 : Nat) : Int) by omega) (fun v42 ev42 b43 => ?_)
                replace ev42 : v42 = g 223 (jand x4 (jxor (jshl 1 x5) (-1))) := ev42
                replace b43 := (jba_223 (jand x4 (jxor (jshl 1 x5) (-1))) _).1 b43
                refine st_gr jo_176 jr_176_37 ?_
                refine st_ai jo_207 (show 0 ≤ x3 by omega) (show x3 < ((40 : Nat) : Int) by omega) (fun v44 ev44 b45 => ?_)
                replace ev44 : v44 = g 207 x3 := ev44
                replace b45 := (jba_207 x3 _).1 b45
                refine st_gr jo_176 jr_176_44 ?_
                have e46 : jw32 (6 * a1) = 6 * a1 := jzj32 (by omega)
                have e47 : jw32 ((jw32 (6 * a1)) + x5) = (jw32 (6 * a1)) + x5 := jzj32 (by omega)
                refine st_ai jo_214 (show 0 ≤ jw32 ((jw32 (6 * a1)) + x5) by omega) (show jw32 ((jw32 (6 * a1)) + x5) < ((18 : Nat) : Int) by omega) (fun v48 ev48 b49 => ?_)
                replace ev48 : v48 = g 214 (jw32 ((jw32 (6 * a1)) + x5)) := ev48
                replace b49 := (jba_214 (jw32 ((jw32 (6 * a1)) + x5)) _).1 b49
                refine st_gr jo_176 jr_176_54 ?_
                refine st_gr jo_176 jr_176_54 ?_
                refine st_ai jo_223 (show 0 ≤ x4 by omega) (show x4 < ((64 : Nat) : Int) by omega) (fun v50 ev50 b51 => ?_)
                replace ev50 : v50 = g 223 x4 := ev50
                replace b51 := (jba_223 x4 _).1 b51
                refine And.intro (fun c52 => ?_) (fun c52 => ?_)
                · replace c52 : v50 ≤ jw32 ((jw32 (v42 + v44)) - v48) := c52
                  show jGo E l 117 229 229 _ 172 [.inr (.inr (.inl 176)), .inl a1, .inl a2, .inl x3, .inl x4, .inl x5, .inl (jand x4 (jxor (jshl 1 x5) (-1))), .inl (jw32 ((jw32 (v42 + v44)) - v48))] [.inl x4, .inr (.inr (.inl 223))] 229 jr0 g
                  refine jGo_blk qX12_solve_172 ?_
                  refine st_gr jo_176 jr_176_54 ?_
                  refine st_ai jo_223 (show 0 ≤ x4 by omega) (show x4 < ((64 : Nat) : Int) by omega) (fun v53 ev53 b54 => ?_)
                  replace ev53 : v53 = g 223 x4 := ev53
                  replace b54 := (jba_223 x4 _).1 b54
                  show jGo E l 117 229 229 _ 179 [.inr (.inr (.inl 176)), .inl a1, .inl a2, .inl x3, .inl x4, .inl x5, .inl (jand x4 (jxor (jshl 1 x5) (-1))), .inl (jw32 ((jw32 (v42 + v44)) - v48))] [.inl v53, .inl x4, .inr (.inr (.inl 223))] 229 jr0 g
                  refine jGo_blk qX12_solve_179 ?_
                  refine st_si jo_223 (show 0 ≤ x4 by omega) (show x4 < ((64 : Nat) : Int) by omega) (fun hx => (jba_223 _ _).2 hx) (fun g55 eg55 => ?_)
                  replace eg55 : g55 = jup g 223 x4 v53 := eg55
                  have fg55 : jfr w_X12_solve h g55 := jfr_up hf eg55 (by unfold w_X12_solve; omega)
                  have e56 : g55 223 x4 = v53 := jup_s eg55
                  show jGo E l 117 229 229 _ 180 [.inr (.inr (.inl 176)), .inl a1, .inl a2, .inl x3, .inl x4, .inl x5, .inl (jand x4 (jxor (jshl 1 x5) (-1))), .inl (jw32 ((jw32 (v42 + v44)) - v48))] [] 229 jr0 g55
                  refine jGo_blk qX12_solve_180 ?_
                  have e57 : jw32 (x5 + 1) = x5 + 1 := jzj32 (by omega)
                  show jGo E l 117 229 229 _ 64 [.inr (.inr (.inl 176)), .inl a1, .inl a2, .inl x3, .inl x4, .inl (jw32 (x5 + 1)), .inl (jand x4 (jxor (jshl 1 x5) (-1))), .inl (jw32 ((jw32 (v42 + v44)) - v48))] [] 229 jr0 g55
                  have hc58 : (t37 = 1 ∧ jmft h x3 (6 * a1 + x5)) ∨ (t37 = 0 ∧ ¬ jmft h x3 (6 * a1 + x5)) := by
                    have q9 := jmft_c (t := x3) (k' := jw32 ((jw32 (6 * a1)) + x5)) (k := 6 * a1 + x5) hz3 (by omega)
                    rcases zt37 with k | k
                    · exact Or.inl ⟨k.1, q9.1 k.2⟩
                    · exact Or.inr ⟨k.1, fun w => k.2 (q9.2 w)⟩
                  have hc59 : jmft h x3 (6 * a1 + x5) := by rcases hc58 with k | k; exact k.2; omega
                  have ew60 : jw32 ((jw32 (v42 + v44)) - v48) = jw32 (jw32 (g 223 (jand x4 (jxor (jshl 1 x5) (-1))) + h 207 x3) - h 214 (6 * a1 + x5)) := by rw [ev42, ev44, ev48, hz3 207 _ (by decide) (by decide), hz3 214 _ (by decide) (by decide), show (jw32 ((jw32 (6 * a1)) + x5)) = 6 * a1 + x5 by omega]
                  exact ih.2.2.2.1 x3 x4 (jw32 (x5 + 1)) (.inl (jand x4 (jxor (jshl 1 x5) (-1)))) (.inl (jw32 ((jw32 (v42 + v44)) - v48))) g55 (by omega) (by rw [show jw32 (x5 + 1) = x5 + 1 by omega]; exact jM_u (w := jw32 ((jw32 (v42 + v44)) - v48)) hx0 q0 hB (by omega) (by omega) (by omega) (by omega) (by omega) (by omega) (by omega) (by omega) (by omega) (by omega) (by omega) hc59 ew60 eg55 (by omega)) (by omega) (by omega) fg55 (by omega)
                · replace c52 : jw32 ((jw32 (v42 + v44)) - v48) < v50 := by first | exact c52 | exact Int.not_le.mp c52 | exact Int.not_lt.mp c52 | exact Decidable.not_not.mp c52
                  show jGo E l 117 229 229 _ 179 [.inr (.inr (.inl 176)), .inl a1, .inl a2, .inl x3, .inl x4, .inl x5, .inl (jand x4 (jxor (jshl 1 x5) (-1))), .inl (jw32 ((jw32 (v42 + v44)) - v48))] [.inl (jw32 ((jw32 (v42 + v44)) - v48)), .inl x4, .inr (.inr (.inl 223))] 229 jr0 g
                  refine jGo_blk qX12_solve_179 ?_
                  refine st_si jo_223 (show 0 ≤ x4 by omega) (show x4 < ((64 : Nat) : Int) by omega) (fun hx => (jba_223 _ _).2 hx) (fun g61 eg61 => ?_)
                  replace eg61 : g61 = jup g 223 x4 (jw32 ((jw32 (v42 + v44)) - v48)) := eg61
                  have fg61 : jfr w_X12_solve h g61 := jfr_up hf eg61 (by unfold w_X12_solve; omega)
                  have e62 : g61 223 x4 = jw32 ((jw32 (v42 + v44)) - v48) := jup_s eg61
                  show jGo E l 117 229 229 _ 180 [.inr (.inr (.inl 176)), .inl a1, .inl a2, .inl x3, .inl x4, .inl x5, .inl (jand x4 (jxor (jshl 1 x5) (-1))), .inl (jw32 ((jw32 (v42 + v44)) - v48))] [] 229 jr0 g61
                  refine jGo_blk qX12_solve_180 ?_
                  have e63 : jw32 (x5 + 1) = x5 + 1 := jzj32 (by omega)
                  show jGo E l 117 229 229 _ 64 [.inr (.inr (.inl 176)), .inl a1, .inl a2, .inl x3, .inl x4, .inl (jw32 (x5 + 1)), .inl (jand x4 (jxor (jshl 1 x5) (-1))), .inl (jw32 ((jw32 (v42 + v44)) - v48))] [] 229 jr0 g61
                  have hc64 : (t37 = 1 ∧ jmft h x3 (6 * a1 + x5)) ∨ (t37 = 0 ∧ ¬ jmft h x3 (6 * a1 + x5)) := by
                    have q9 := jmft_c (t := x3) (k' := jw32 ((jw32 (6 * a1)) + x5)) (k := 6 * a1 + x5) hz3 (by omega)
                    rcases zt37 with k | k
                    · exact Or.inl ⟨k.1, q9.1 k.2⟩
                    · exact Or.inr ⟨k.1, fun w => k.2 (q9.2 w)⟩
                  have hc65 : jmft h x3 (6 * a1 + x5) := by rcases hc64 with k | k; exact k.2; omega
                  have ew66 : jw32 ((jw32 (v42 + v44)) - v48) = jw32 (jw32 (g 223 (jand x4 (jxor (jshl 1 x5) (-1))) + h 207 x3) - h 214 (6 * a1 + x5)) := by rw [ev42, ev44, ev48, hz3 207 _ (by decide) (by decide), hz3 214 _ (by decide) (by decide), show (jw32 ((jw32 (6 * a1)) + x5)) = 6 * a1 + x5 by omega]
                  exact ih.2.2.2.1 x3 x4 (jw32 (x5 + 1)) (.inl (jand x4 (jxor (jshl 1 x5) (-1)))) (.inl (jw32 ((jw32 (v42 + v44)) - v48))) g61 (by omega) (by rw [show jw32 (x5 + 1) = x5 + 1 by omega]; exact jM_u (w := jw32 ((jw32 (v42 + v44)) - v48)) hx0 q0 hB (by omega) (by omega) (by omega) (by omega) (by omega) (by omega) (by omega) (by omega) (by omega) (by omega) (by omega) hc65 ew66 eg61 (by omega)) (by omega) (by omega) fg61 (by omega)
      · intro x3 x4 x5 x6 x7 g hi hx0 hx1 hf hN
        have hz6 : x3 < 64 → g 223 x3 ≤ 2000000000 := fun q => jM1_b hx0 (by omega) q
        refine jGo_blk qX12_solve_210 ?_
        refine And.intro (fun c67 => ?_) (fun c67 => ?_)
        · replace c67 : 64 ≤ x3 := c67
          show jGo E l 117 229 229 _ 298 [.inr (.inr (.inl 176)), .inl a1, .inl a2, .inl x3, x4, x5, x6, x7] [] 229 jr0 g
          refine jGo_blk qX12_solve_298 ?_
          exact ⟨rfl, rfl, hf, rfl, (by exact jMs_e q0 hB (by omega) hx0 (by have y9 := hx1; rw [show x3 = 64 by omega] at y9; exact y9))⟩
        · replace c67 : x3 < 64 := by first | exact c67 | exact Int.not_le.mp c67 | exact Int.not_lt.mp c67 | exact Decidable.not_not.mp c67
          refine st_gr jo_176 jr_176_54 ?_
          refine st_ai jo_223 (show 0 ≤ x3 by omega) (show x3 < ((64 : Nat) : Int) by omega) (fun v68 ev68 b69 => ?_)
          replace ev68 : v68 = g 223 x3 := ev68
          replace b69 := (jba_223 x3 _).1 b69
          refine And.intro (fun c70 => ?_) (fun c70 => ?_)
          · replace c70 : 2000000000 ≤ v68 := c70
            show jGo E l 117 229 229 _ 231 [.inr (.inr (.inl 176)), .inl a1, .inl a2, .inl x3, x4, x5, x6, x7] [] 229 jr0 g
            refine jGo_blk qX12_solve_231 ?_
            show jGo E l 117 229 229 _ 232 [.inr (.inr (.inl 176)), .inl a1, .inl a2, .inl x3, x4, x5, x6, x7] [.inl 0] 229 jr0 g
            refine jGo_blk qX12_solve_232 ?_
            refine st_cs (na := 1) (st := [.inl x3]) rfl rfl rfl (c_X12_ones x3 g (by omega)) rfl ?_
            rintro _ _ _ ⟨rfl, rfl, t71, rfl, ht71, zt71⟩ kt71
            replace kt71 : -2147483648 ≤ t71 ∧ t71 ≤ 2147483647 := kt71
            replace zt71 : t71 = jpp (x3).toNat := zt71
            refine And.intro (fun c73 => ?_) (fun c73 => ?_)
            · replace c73 : (0 : Int) = 0 := c73
              show jGo E l 117 229 229 _ 292 [.inr (.inr (.inl 176)), .inl a1, .inl a2, .inl x3, .inl 0, .inl t71, x6, x7] [] 229 jr0 g
              refine jGo_blk qX12_solve_292 ?_
              have e74 : jw32 (x3 + 1) = x3 + 1 := jzj32 (by omega)
              show jGo E l 117 229 229 _ 210 [.inr (.inr (.inl 176)), .inl a1, .inl a2, .inl (jw32 (x3 + 1)), .inl 0, .inl t71, x6, x7] [] 229 jr0 g
              exact ih.2.2.2.2 (jw32 (x3 + 1)) (.inl 0) (.inl t71) x6 x7 g (by omega) (by exact fun z hz => (rfl).trans (hx0 z hz)) (by rw [show jw32 (x3 + 1) = x3 + 1 by omega]; exact jMb_n hx1 (by omega) zt71 (by omega)) hf (by omega)
            · replace c73 : ¬ (0 : Int) = 0 := by first | exact c73 | exact Int.not_le.mp c73 | exact Int.not_lt.mp c73 | exact Decidable.not_not.mp c73
              exfalso; omega
          · replace c70 : v68 < 2000000000 := by first | exact c70 | exact Int.not_le.mp c70 | exact Int.not_lt.mp c70 | exact Decidable.not_not.mp c70
            show jGo E l 117 229 229 _ 232 [.inr (.inr (.inl 176)), .inl a1, .inl a2, .inl x3, x4, x5, x6, x7] [.inl 1] 229 jr0 g
            refine jGo_blk qX12_solve_232 ?_
            refine st_cs (na := 1) (st := [.inl x3]) rfl rfl rfl (c_X12_ones x3 g (by omega)) rfl ?_
            rintro _ _ _ ⟨rfl, rfl, t75, rfl, ht75, zt75⟩ kt75
            replace kt75 : -2147483648 ≤ t75 ∧ t75 ≤ 2147483647 := kt75
            replace zt75 : t75 = jpp (x3).toNat := zt75
            refine And.intro (fun c77 => ?_) (fun c77 => ?_)
            · replace c77 : (1 : Int) = 0 := c77
              exfalso; omega
            · replace c77 : ¬ (1 : Int) = 0 := by first | exact c77 | exact Int.not_le.mp c77 | exact Int.not_lt.mp c77 | exact Decidable.not_not.mp c77
              refine st_gi jo_176 (fun v78 ev78 b79 => ?_)
              replace ev78 : v78 = g 176 55 := ev78
              replace b79 := (jbf_12_55 jo_176 _).1 b79
              refine And.intro (fun c80 => ?_) (fun c80 => ?_)
              · replace c80 : v78 < t75 := c80
                show jGo E l 117 229 229 _ 276 [.inr (.inr (.inl 176)), .inl a1, .inl a2, .inl x3, .inl 1, .inl t75, x6, x7] [] 229 jr0 g
                refine jGo_blk qX12_solve_276 ?_
                refine st_pi jo_176 (fun hx => (jbf_12_55 jo_176 _).2 hx) (fun g81 eg81 => ?_)
                replace eg81 : g81 = jup g 176 55 t75 := eg81
                have fg81 : jfr w_X12_solve h g81 := jfr_up hf eg81 (by unfold w_X12_solve; omega)
                have e82 : g81 176 55 = t75 := jup_s eg81
                refine st_gr jo_176 jr_176_54 ?_
                refine st_ai jo_223 (show 0 ≤ x3 by omega) (show x3 < ((64 : Nat) : Int) by omega) (fun v83 ev83 b84 => ?_)
                replace ev83 : v83 = g81 223 x3 := ev83
                replace b84 := (jba_223 x3 _).1 b84
                refine st_pi jo_176 (fun hx => (jbf_12_56 jo_176 _).2 hx) (fun g85 eg85 => ?_)
                replace eg85 : g85 = jup g81 176 56 v83 := eg85
                have fg85 : jfr w_X12_solve h g85 := jfr_up fg81 eg85 (by unfold w_X12_solve; omega)
                have e86 : g85 176 56 = v83 := jup_s eg85
                show jGo E l 117 229 229 _ 292 [.inr (.inr (.inl 176)), .inl a1, .inl a2, .inl x3, .inl 1, .inl t75, x6, x7] [] 229 jr0 g85
                refine jGo_blk qX12_solve_292 ?_
                have e87 : jw32 (x3 + 1) = x3 + 1 := jzj32 (by omega)
                show jGo E l 117 229 229 _ 210 [.inr (.inr (.inl 176)), .inl a1, .inl a2, .inl (jw32 (x3 + 1)), .inl 1, .inl t75, x6, x7] [] 229 jr0 g85
                have e88 : g85 176 55 = g81 176 55 := jup_o eg85 (by first | exact fun q => absurd q.1 (by decide) | exact fun q => absurd q.2 (by decide) | omega)
                exact ih.2.2.2.2 (jw32 (x3 + 1)) (.inl 1) (.inl t75) x6 x7 g85 (by omega) (by exact fun z hz => (((jup_o eg85 (by first | exact fun q => absurd q.1 (by decide) | exact fun q => absurd q.2 (by decide) | omega)).trans (jup_o eg81 (by first | exact fun q => absurd q.1 (by decide) | exact fun q => absurd q.2 (by decide) | omega)))).trans (hx0 z hz)) (by rw [show jw32 (x3 + 1) = x3 + 1 by omega]; exact jMb_c (fun k => ((jup_o eg85 (by first | exact fun q => absurd q.1 (by decide) | exact fun q => absurd q.2 (by decide) | omega)).trans (jup_o eg81 (by first | exact fun q => absurd q.1 (by decide) | exact fun q => absurd q.2 (by decide) | omega)))) ((jup_o eg85 (by first | exact fun q => absurd q.1 (by decide) | exact fun q => absurd q.2 (by decide) | omega)).trans (jup_s eg81)) ((jup_s eg85).trans (ev83.trans (jup_o eg81 (by first | exact fun q => absurd q.1 (by decide) | exact fun q => absurd q.2 (by decide) | omega)))) (jMb_y hx1 (by omega) zt75 (by omega) (by omega))) fg85 (by omega)
              · replace c80 : t75 ≤ v78 := by first | exact c80 | exact Int.not_le.mp c80 | exact Int.not_lt.mp c80 | exact Decidable.not_not.mp c80
                refine st_gi jo_176 (fun v89 ev89 b90 => ?_)
                replace ev89 : v89 = g 176 55 := ev89
                replace b90 := (jbf_12_55 jo_176 _).1 b90
                refine And.intro (fun c91 => ?_) (fun c91 => ?_)
                · replace c91 : ¬ t75 = v89 := c91
                  show jGo E l 117 229 229 _ 292 [.inr (.inr (.inl 176)), .inl a1, .inl a2, .inl x3, .inl 1, .inl t75, x6, x7] [] 229 jr0 g
                  refine jGo_blk qX12_solve_292 ?_
                  have e92 : jw32 (x3 + 1) = x3 + 1 := jzj32 (by omega)
                  show jGo E l 117 229 229 _ 210 [.inr (.inr (.inl 176)), .inl a1, .inl a2, .inl (jw32 (x3 + 1)), .inl 1, .inl t75, x6, x7] [] 229 jr0 g
                  exact ih.2.2.2.2 (jw32 (x3 + 1)) (.inl 1) (.inl t75) x6 x7 g (by omega) (by exact fun z hz => (rfl).trans (hx0 z hz)) (by rw [show jw32 (x3 + 1) = x3 + 1 by omega]; exact jMb_n hx1 (by omega) zt75 (by omega)) hf (by omega)
                · replace c91 : t75 = v89 := by first | exact c91 | exact Int.not_le.mp c91 | exact Int.not_lt.mp c91 | exact Decidable.not_not.mp c91
                  refine st_gr jo_176 jr_176_54 ?_
                  refine st_ai jo_223 (show 0 ≤ x3 by omega) (show x3 < ((64 : Nat) : Int) by omega) (fun v93 ev93 b94 => ?_)
                  replace ev93 : v93 = g 223 x3 := ev93
                  replace b94 := (jba_223 x3 _).1 b94
                  refine st_gi jo_176 (fun v95 ev95 b96 => ?_)
                  replace ev95 : v95 = g 176 56 := ev95
                  replace b96 := (jbf_12_56 jo_176 _).1 b96
                  refine And.intro (fun c97 => ?_) (fun c97 => ?_)
                  · replace c97 : v95 ≤ v93 := c97
                    show jGo E l 117 229 229 _ 292 [.inr (.inr (.inl 176)), .inl a1, .inl a2, .inl x3, .inl 1, .inl t75, x6, x7] [] 229 jr0 g
                    refine jGo_blk qX12_solve_292 ?_
                    have e98 : jw32 (x3 + 1) = x3 + 1 := jzj32 (by omega)
                    show jGo E l 117 229 229 _ 210 [.inr (.inr (.inl 176)), .inl a1, .inl a2, .inl (jw32 (x3 + 1)), .inl 1, .inl t75, x6, x7] [] 229 jr0 g
                    exact ih.2.2.2.2 (jw32 (x3 + 1)) (.inl 1) (.inl t75) x6 x7 g (by omega) (by exact fun z hz => (rfl).trans (hx0 z hz)) (by rw [show jw32 (x3 + 1) = x3 + 1 by omega]; exact jMb_n hx1 (by omega) zt75 (by omega)) hf (by omega)
                  · replace c97 : v93 < v95 := by first | exact c97 | exact Int.not_le.mp c97 | exact Int.not_lt.mp c97 | exact Decidable.not_not.mp c97
                    show jGo E l 117 229 229 _ 276 [.inr (.inr (.inl 176)), .inl a1, .inl a2, .inl x3, .inl 1, .inl t75, x6, x7] [] 229 jr0 g
                    refine jGo_blk qX12_solve_276 ?_
                    refine st_pi jo_176 (fun hx => (jbf_12_55 jo_176 _).2 hx) (fun g99 eg99 => ?_)
                    replace eg99 : g99 = jup g 176 55 t75 := eg99
                    have fg99 : jfr w_X12_solve h g99 := jfr_up hf eg99 (by unfold w_X12_solve; omega)
                    have e100 : g99 176 55 = t75 := jup_s eg99
                    refine st_gr jo_176 jr_176_54 ?_
                    refine st_ai jo_223 (show 0 ≤ x3 by omega) (show x3 < ((64 : Nat) : Int) by omega) (fun v101 ev101 b102 => ?_)
                    replace ev101 : v101 = g99 223 x3 := ev101
                    replace b102 := (jba_223 x3 _).1 b102
                    refine st_pi jo_176 (fun hx => (jbf_12_56 jo_176 _).2 hx) (fun g103 eg103 => ?_)
                    replace eg103 : g103 = jup g99 176 56 v101 := eg103
                    have fg103 : jfr w_X12_solve h g103 := jfr_up fg99 eg103 (by unfold w_X12_solve; omega)
                    have e104 : g103 176 56 = v101 := jup_s eg103
                    show jGo E l 117 229 229 _ 292 [.inr (.inr (.inl 176)), .inl a1, .inl a2, .inl x3, .inl 1, .inl t75, x6, x7] [] 229 jr0 g103
                    refine jGo_blk qX12_solve_292 ?_
                    have e105 : jw32 (x3 + 1) = x3 + 1 := jzj32 (by omega)
                    show jGo E l 117 229 229 _ 210 [.inr (.inr (.inl 176)), .inl a1, .inl a2, .inl (jw32 (x3 + 1)), .inl 1, .inl t75, x6, x7] [] 229 jr0 g103
                    have e106 : g103 176 55 = g99 176 55 := jup_o eg103 (by first | exact fun q => absurd q.1 (by decide) | exact fun q => absurd q.2 (by decide) | omega)
                    exact ih.2.2.2.2 (jw32 (x3 + 1)) (.inl 1) (.inl t75) x6 x7 g103 (by omega) (by exact fun z hz => (((jup_o eg103 (by first | exact fun q => absurd q.1 (by decide) | exact fun q => absurd q.2 (by decide) | omega)).trans (jup_o eg99 (by first | exact fun q => absurd q.1 (by decide) | exact fun q => absurd q.2 (by decide) | omega)))).trans (hx0 z hz)) (by rw [show jw32 (x3 + 1) = x3 + 1 by omega]; exact jMb_c (fun k => ((jup_o eg103 (by first | exact fun q => absurd q.1 (by decide) | exact fun q => absurd q.2 (by decide) | omega)).trans (jup_o eg99 (by first | exact fun q => absurd q.1 (by decide) | exact fun q => absurd q.2 (by decide) | omega)))) ((jup_o eg103 (by first | exact fun q => absurd q.1 (by decide) | exact fun q => absurd q.2 (by decide) | omega)).trans (jup_s eg99)) ((jup_s eg103).trans (ev101.trans (jup_o eg99 (by first | exact fun q => absurd q.1 (by decide) | exact fun q => absurd q.2 (by decide) | omega)))) (jMb_y hx1 (by omega) zt75 (by omega) (by omega))) fg103 (by omega)
  refine jGo_blk qX12_solve_0 ?_
  show jGo E l 117 229 229 _ 2 [.inr (.inr (.inl 176)), .inl a1, .inl a2, .inl 0, .inr (.inr (.inr ())), .inr (.inr (.inr ())), .inr (.inr (.inr ())), .inr (.inr (.inr ()))] [] 229 jr0 h
  exact (key 1000000000000000000000000).1 0 h (by omega) (by exact fun z hz => absurd hz (by omega)) f0 (by omega)
