def w_X12_aside (i k : Int) : Prop := (i = 181) ∨ (i = 190) ∨ (192 ≤ i ∧ i ≤ 200) ∨ (i = 202) ∨ (224 ≤ i ∧ i ≤ 225) ∨ (i = 176 ∧ k = 0) ∨ (i = 176 ∧ 30 ≤ k ∧ k ≤ 32)
def k_X12_aside (a1 : Int) (h : JH) (v : Option JV) (r' g : JH) : Prop := r' = jr0 ∧ jfr w_X12_aside h g ∧ v = none ∧ ((a1 = 0 → g 224 0 = h 176 0 ∧ g 176 0 = h 176 0) ∧ (¬ a1 = 0 → g 176 0 = h 224 0))
set_option maxHeartbeats 4000000 in
theorem c_X12_aside {E : JE} {l : Launch} (a1 : Int) (h : JH) (p1 : a1 = 0 ∨ a1 = 1) : jMt E l 149 [.inr (.inr (.inl 176)), .inl a1] 229 jr0 h (k_X12_aside a1 h) := by
  refine jMt0 (nL := 5) (ls := [.inr (.inr (.inl 176)), .inl a1, .inr (.inr (.inr ())), .inr (.inr (.inr ())), .inr (.inr (.inr ()))]) (by decide +kernel) (by decide +kernel) (by decide +kernel) rfl rfl ?_
  have f0 : jfr w_X12_aside h h := jfr_rf _ _
  have key : ∀ N : Nat, (∀ (x2 : Int) (g : JH), (0 ≤ x2 ∧ x2 ≤ 6) → ((a1 = 0 → g 224 0 = h 176 0 ∧ g 176 0 = h 176 0) ∧ (¬ a1 = 0 → g 176 0 = h 224 0)) → jfr w_X12_aside h g → ((6 - x2) + 40000) * 1000000 + 999999 < (N : Int) → jGo E l 149 229 229 (jRK (k_X12_aside a1 h)) 58 [.inr (.inr (.inl 176)), .inl a1, .inl x2, .inr (.inr (.inr ())), .inr (.inr (.inr ()))] [] 229 jr0 g) ∧
      (∀ (x2 : Int) (x3 : JV) (x4 : JV) (g : JH), (0 ≤ x2 ∧ x2 ≤ 16) → ((a1 = 0 → g 224 0 = h 176 0 ∧ g 176 0 = h 176 0) ∧ (¬ a1 = 0 → g 176 0 = h 224 0)) → jfr w_X12_aside h g → ((16 - x2) + 20000) * 1000000 + 999999 < (N : Int) → jGo E l 149 229 229 (jRK (k_X12_aside a1 h)) 113 [.inr (.inr (.inl 176)), .inl a1, .inl x2, x3, x4] [] 229 jr0 g) ∧
      (∀ (x2 : Int) (x3 : Int) (x4 : Int) (g : JH), (0 ≤ x2 ∧ x2 ≤ 15 ∧ 20 ≤ x3 ∧ x3 ≤ 260 ∧ 0 ≤ x4 ∧ x4 ≤ 6) → ((a1 = 0 → g 224 0 = h 176 0 ∧ g 176 0 = h 176 0) ∧ (¬ a1 = 0 → g 176 0 = h 224 0)) → (x3 = 20 + 16 * x2) → jfr w_X12_aside h g → ((16 - x2) + 20000) * 1000000 + (6 - x4) < (N : Int) → jGo E l 149 229 229 (jRK (k_X12_aside a1 h)) 307 [.inr (.inr (.inl 176)), .inl a1, .inl x2, .inl x3, .inl x4] [] 229 jr0 g) ∧
      (∀ (x2 : Int) (x3 : JV) (x4 : JV) (g : JH), (0 ≤ x2 ∧ x2 ≤ 96) → ((a1 = 0 → g 224 0 = h 176 0 ∧ g 176 0 = h 176 0) ∧ (¬ a1 = 0 → g 176 0 = h 224 0)) → jfr w_X12_aside h g → (96 - x2) * 1000000 + 999999 < (N : Int) → jGo E l 149 229 229 (jRK (k_X12_aside a1 h)) 364 [.inr (.inr (.inl 176)), .inl a1, .inl x2, x3, x4] [] 229 jr0 g) := by
    intro N
    induction N with
    | zero => exact ⟨fun _ _ hi hx0 _ hN => absurd hN (by omega), fun _ _ _ _ hi hx0 _ hN => absurd hN (by omega), fun _ _ _ _ hi hx0 hx1 _ hN => absurd hN (by omega), fun _ _ _ _ hi hx0 _ hN => absurd hN (by omega)⟩
    | succ N ih =>
      refine ⟨?_, ?_, ?_, ?_⟩
      · intro x2 g hi hx0 hf hN
        refine jGo_blk qX12_aside_58 ?_
        refine And.intro (fun c1 => ?_) (fun c1 => ?_)
        · replace c1 : 6 ≤ x2 := c1
          show jGo E l 149 229 229 _ 111 [.inr (.inr (.inl 176)), .inl a1, .inl x2, .inr (.inr (.inr ())), .inr (.inr (.inr ()))] [] 229 jr0 g
          refine jGo_blk qX12_aside_111 ?_
          show jGo E l 149 229 229 _ 113 [.inr (.inr (.inl 176)), .inl a1, .inl 0, .inr (.inr (.inr ())), .inr (.inr (.inr ()))] [] 229 jr0 g
          exact ih.2.1 0 (.inr (.inr (.inr ()))) (.inr (.inr (.inr ()))) g (by omega) (by omega) hf (by omega)
        · replace c1 : x2 < 6 := by first | exact c1 | exact Int.not_le.mp c1 | exact Int.not_lt.mp c1 | exact Decidable.not_not.mp c1
          refine st_gr jo_176 jr_176_5 ?_
          have e2 : jw32 (4 + x2) = 4 + x2 := j32e (by omega) (by omega)
          refine st_gr jo_176 jr_176_5 ?_
          refine st_ai jo_181 (show 0 ≤ x2 by omega) (show x2 < ((6 : Nat) : Int) by omega) (fun v3 ev3 b4 => ?_)
          replace ev3 : v3 = g 181 x2 := ev3
          replace b4 := (jba_181 x2 _).1 b4
          refine st_cv (na := 3) (st := [.inl a1, .inl v3, .inl (jw32 (4 + x2)), .inr (.inr (.inl 176)), .inl x2, .inr (.inr (.inl 181))]) jo_176 rfl rfl rfl (c_X12_swap (jw32 (4 + x2)) v3 a1 g (by omega) (by omega) (fun hx => (jk_df (by omega) (by omega) (by omega) _).2 hx)) rfl ?_
          rintro _ _ g6 ⟨rfl, ft5, t5, rfl, ht5, zt5⟩ kt5
          replace kt5 : -2147483648 ≤ t5 ∧ t5 ≤ 2147483647 := kt5
          have fg6 : jfr w_X12_aside h g6 := jfr_tr hf ft5 (fun i k q => by unfold w_X12_swap at q; unfold w_X12_aside; omega)
          replace zt5 : jbd 224 (jw32 (4 + x2)) t5 ∧ (a1 = 0 → t5 = v3 ∧ g6 = jup g 224 (jw32 (4 + x2)) v3) ∧ (¬ a1 = 0 → t5 = g 224 (jw32 (4 + x2)) ∧ g6 = g) ∧ (∀ j : Int, j ≠ (jw32 (4 + x2)) → g6 224 j = g 224 j) := zt5
          have jst5 : g6 224 0 = g 224 0 := zt5.2.2.2 0 (by omega)
          clear zt5
          refine st_si jo_181 (show 0 ≤ x2 by omega) (show x2 < ((6 : Nat) : Int) by omega) (fun hx => (jba_181 _ _).2 hx) (fun g7 eg7 => ?_)
          replace eg7 : g7 = jup g6 181 x2 t5 := eg7
          have fg7 : jfr w_X12_aside h g7 := jfr_up fg6 eg7 (by unfold w_X12_aside; omega)
          have e8 : g7 181 x2 = t5 := jup_s eg7
          refine st_gr jo_176 jr_176_28 ?_
          have e9 : jw32 (10 + x2) = 10 + x2 := j32e (by omega) (by omega)
          refine st_gr jo_176 jr_176_28 ?_
          refine st_ai jo_202 (show 0 ≤ x2 by omega) (show x2 < ((6 : Nat) : Int) by omega) (fun v10 ev10 b11 => ?_)
          replace ev10 : v10 = g7 202 x2 := ev10
          replace b11 := (jba_202 x2 _).1 b11
          refine st_cv (na := 3) (st := [.inl a1, .inl v10, .inl (jw32 (10 + x2)), .inr (.inr (.inl 176)), .inl x2, .inr (.inr (.inl 202))]) jo_176 rfl rfl rfl (c_X12_swap (jw32 (10 + x2)) v10 a1 g7 (by omega) (by omega) (fun hx => (jk_bas (by omega) _).2 (by omega))) rfl ?_
          rintro _ _ g13 ⟨rfl, ft12, t12, rfl, ht12, zt12⟩ kt12
          replace kt12 : -2147483648 ≤ t12 ∧ t12 ≤ 2147483647 := kt12
          have fg13 : jfr w_X12_aside h g13 := jfr_tr fg7 ft12 (fun i k q => by unfold w_X12_swap at q; unfold w_X12_aside; omega)
          replace zt12 : jbd 224 (jw32 (10 + x2)) t12 ∧ (a1 = 0 → t12 = v10 ∧ g13 = jup g7 224 (jw32 (10 + x2)) v10) ∧ (¬ a1 = 0 → t12 = g7 224 (jw32 (10 + x2)) ∧ g13 = g7) ∧ (∀ j : Int, j ≠ (jw32 (10 + x2)) → g13 224 j = g7 224 j) := zt12
          have jct12 := (jk_bas (by omega) _).1 zt12.1
          have jst12 : g13 224 0 = g7 224 0 := zt12.2.2.2 0 (by omega)
          clear zt12
          refine st_si jo_202 (show 0 ≤ x2 by omega) (show x2 < ((6 : Nat) : Int) by omega) (fun hx => (jba_202 _ _).2 (show (-1 ≤ t12 ∧ t12 ≤ 15) ∨ t12 = 100 by omega)) (fun g14 eg14 => ?_)
          replace eg14 : g14 = jup g13 202 x2 t12 := eg14
          have fg14 : jfr w_X12_aside h g14 := jfr_up fg13 eg14 (by unfold w_X12_aside; omega)
          have e15 : g14 202 x2 = t12 := jup_s eg14
          have e16 : jw32 (x2 + 1) = x2 + 1 := j32e (by omega) (by omega)
          show jGo E l 149 229 229 _ 58 [.inr (.inr (.inl 176)), .inl a1, .inl (jw32 (x2 + 1)), .inr (.inr (.inr ())), .inr (.inr (.inr ()))] [] 229 jr0 g14
          have e17 : g14 224 0 = g13 224 0 := jup_o eg14 (by omega)
          have e18 : g7 224 0 = g6 224 0 := jup_o eg7 (by omega)
          have e19 : g14 176 0 = g13 176 0 := jup_o eg14 (by omega)
          have e20 : g13 176 0 = g7 176 0 := ft12 176 0 (by unfold w_X12_swap; omega)
          have e21 : g7 176 0 = g6 176 0 := jup_o eg7 (by omega)
          have e22 : g6 176 0 = g 176 0 := ft5 176 0 (by unfold w_X12_swap; omega)
          have e23 : g14 176 0 = g13 176 0 := jup_o eg14 (by omega)
          have e24 : g13 176 0 = g7 176 0 := ft12 176 0 (by unfold w_X12_swap; omega)
          have e25 : g7 176 0 = g6 176 0 := jup_o eg7 (by omega)
          have e26 : g6 176 0 = g 176 0 := ft5 176 0 (by unfold w_X12_swap; omega)
          exact ih.1 (jw32 (x2 + 1)) g14 (by omega) (by omega) fg14 (by omega)
      · intro x2 x3 x4 g hi hx0 hf hN
        refine jGo_blk qX12_aside_113 ?_
        refine And.intro (fun c27 => ?_) (fun c27 => ?_)
        · replace c27 : 16 ≤ x2 := c27
          show jGo E l 149 229 229 _ 362 [.inr (.inr (.inl 176)), .inl a1, .inl x2, x3, x4] [] 229 jr0 g
          refine jGo_blk qX12_aside_362 ?_
          show jGo E l 149 229 229 _ 364 [.inr (.inr (.inl 176)), .inl a1, .inl 0, x3, x4] [] 229 jr0 g
          exact ih.2.2.2 0 x3 x4 g (by omega) (by omega) hf (by omega)
        · replace c27 : x2 < 16 := by first | exact c27 | exact Int.not_le.mp c27 | exact Int.not_lt.mp c27 | exact Decidable.not_not.mp c27
          have e28 : jw32 (16 * x2) = 16 * x2 := j32e (by omega) (by omega)
          have e29 : jw32 (20 + (jw32 (16 * x2))) = 20 + (jw32 (16 * x2)) := j32e (by omega) (by omega)
          refine st_gr jo_176 jr_176_18 ?_
          refine st_gr jo_176 jr_176_18 ?_
          refine st_ai jo_192 (show 0 ≤ x2 by omega) (show x2 < ((16 : Nat) : Int) by omega) (fun v30 ev30 b31 => ?_)
          replace ev30 : v30 = g 192 x2 := ev30
          replace b31 := (jba_192 x2 _).1 b31
          refine st_cv (na := 3) (st := [.inl a1, .inl v30, .inl (jw32 (20 + (jw32 (16 * x2)))), .inr (.inr (.inl 176)), .inl x2, .inr (.inr (.inl 192))]) jo_176 rfl rfl rfl (c_X12_swap (jw32 (20 + (jw32 (16 * x2)))) v30 a1 g (by omega) (by omega) (fun hx => (jk_st (by omega) (by omega) _).2 (by omega))) rfl ?_
          rintro _ _ g33 ⟨rfl, ft32, t32, rfl, ht32, zt32⟩ kt32
          replace kt32 : -2147483648 ≤ t32 ∧ t32 ≤ 2147483647 := kt32
          have fg33 : jfr w_X12_aside h g33 := jfr_tr hf ft32 (fun i k q => by unfold w_X12_swap at q; unfold w_X12_aside; omega)
          replace zt32 : jbd 224 (jw32 (20 + (jw32 (16 * x2)))) t32 ∧ (a1 = 0 → t32 = v30 ∧ g33 = jup g 224 (jw32 (20 + (jw32 (16 * x2)))) v30) ∧ (¬ a1 = 0 → t32 = g 224 (jw32 (20 + (jw32 (16 * x2)))) ∧ g33 = g) ∧ (∀ j : Int, j ≠ (jw32 (20 + (jw32 (16 * x2)))) → g33 224 j = g 224 j) := zt32
          have jct32 := (jk_st (by omega) (by omega) _).1 zt32.1
          have jst32 : g33 224 0 = g 224 0 := zt32.2.2.2 0 (by omega)
          clear zt32
          refine st_si jo_192 (show 0 ≤ x2 by omega) (show x2 < ((16 : Nat) : Int) by omega) (fun hx => (jba_192 _ _).2 (show 0 ≤ t32 ∧ t32 ≤ 3 by omega)) (fun g34 eg34 => ?_)
          replace eg34 : g34 = jup g33 192 x2 t32 := eg34
          have fg34 : jfr w_X12_aside h g34 := jfr_up fg33 eg34 (by unfold w_X12_aside; omega)
          have e35 : g34 192 x2 = t32 := jup_s eg34
          refine st_gr jo_176 jr_176_19 ?_
          have e36 : jw32 ((jw32 (20 + (jw32 (16 * x2)))) + 1) = (jw32 (20 + (jw32 (16 * x2)))) + 1 := j32e (by omega) (by omega)
          refine st_gr jo_176 jr_176_19 ?_
          refine st_ai jo_193 (show 0 ≤ x2 by omega) (show x2 < ((16 : Nat) : Int) by omega) (fun v37 ev37 b38 => ?_)
          replace ev37 : v37 = g34 193 x2 := ev37
          replace b38 := (jba_193 x2 _).1 b38
          refine st_cv (na := 3) (st := [.inl a1, .inl v37, .inl (jw32 ((jw32 (20 + (jw32 (16 * x2)))) + 1)), .inr (.inr (.inl 176)), .inl x2, .inr (.inr (.inl 193))]) jo_176 rfl rfl rfl (c_X12_swap (jw32 ((jw32 (20 + (jw32 (16 * x2)))) + 1)) v37 a1 g34 (by omega) (by omega) (fun hx => (jk_at (by omega) (by omega) _).2 (by omega))) rfl ?_
          rintro _ _ g40 ⟨rfl, ft39, t39, rfl, ht39, zt39⟩ kt39
          replace kt39 : -2147483648 ≤ t39 ∧ t39 ≤ 2147483647 := kt39
          have fg40 : jfr w_X12_aside h g40 := jfr_tr fg34 ft39 (fun i k q => by unfold w_X12_swap at q; unfold w_X12_aside; omega)
          replace zt39 : jbd 224 (jw32 ((jw32 (20 + (jw32 (16 * x2)))) + 1)) t39 ∧ (a1 = 0 → t39 = v37 ∧ g40 = jup g34 224 (jw32 ((jw32 (20 + (jw32 (16 * x2)))) + 1)) v37) ∧ (¬ a1 = 0 → t39 = g34 224 (jw32 ((jw32 (20 + (jw32 (16 * x2)))) + 1)) ∧ g40 = g34) ∧ (∀ j : Int, j ≠ (jw32 ((jw32 (20 + (jw32 (16 * x2)))) + 1)) → g40 224 j = g34 224 j) := zt39
          have jct39 := (jk_at (by omega) (by omega) _).1 zt39.1
          have jst39 : g40 224 0 = g34 224 0 := zt39.2.2.2 0 (by omega)
          clear zt39
          refine st_si jo_193 (show 0 ≤ x2 by omega) (show x2 < ((16 : Nat) : Int) by omega) (fun hx => (jba_193 _ _).2 (show -9 ≤ t39 ∧ t39 ≤ 5 by omega)) (fun g41 eg41 => ?_)
          replace eg41 : g41 = jup g40 193 x2 t39 := eg41
          have fg41 : jfr w_X12_aside h g41 := jfr_up fg40 eg41 (by unfold w_X12_aside; omega)
          have e42 : g41 193 x2 = t39 := jup_s eg41
          refine st_gr jo_176 jr_176_20 ?_
          have e43 : jw32 ((jw32 (20 + (jw32 (16 * x2)))) + 2) = (jw32 (20 + (jw32 (16 * x2)))) + 2 := j32e (by omega) (by omega)
          refine st_gr jo_176 jr_176_20 ?_
          refine st_ai jo_194 (show 0 ≤ x2 by omega) (show x2 < ((16 : Nat) : Int) by omega) (fun v44 ev44 b45 => ?_)
          replace ev44 : v44 = g41 194 x2 := ev44
          replace b45 := (jba_194 x2 _).1 b45
          refine st_cv (na := 3) (st := [.inl a1, .inl v44, .inl (jw32 ((jw32 (20 + (jw32 (16 * x2)))) + 2)), .inr (.inr (.inl 176)), .inl x2, .inr (.inr (.inl 194))]) jo_176 rfl rfl rfl (c_X12_swap (jw32 ((jw32 (20 + (jw32 (16 * x2)))) + 2)) v44 a1 g41 (by omega) (by omega) (fun hx => (jk_cr (by omega) (by omega) _).2 (by omega))) rfl ?_
          rintro _ _ g47 ⟨rfl, ft46, t46, rfl, ht46, zt46⟩ kt46
          replace kt46 : -2147483648 ≤ t46 ∧ t46 ≤ 2147483647 := kt46
          have fg47 : jfr w_X12_aside h g47 := jfr_tr fg41 ft46 (fun i k q => by unfold w_X12_swap at q; unfold w_X12_aside; omega)
          replace zt46 : jbd 224 (jw32 ((jw32 (20 + (jw32 (16 * x2)))) + 2)) t46 ∧ (a1 = 0 → t46 = v44 ∧ g47 = jup g41 224 (jw32 ((jw32 (20 + (jw32 (16 * x2)))) + 2)) v44) ∧ (¬ a1 = 0 → t46 = g41 224 (jw32 ((jw32 (20 + (jw32 (16 * x2)))) + 2)) ∧ g47 = g41) ∧ (∀ j : Int, j ≠ (jw32 ((jw32 (20 + (jw32 (16 * x2)))) + 2)) → g47 224 j = g41 224 j) := zt46
          have jct46 := (jk_cr (by omega) (by omega) _).1 zt46.1
          have jst46 : g47 224 0 = g41 224 0 := zt46.2.2.2 0 (by omega)
          clear zt46
          refine st_si jo_194 (show 0 ≤ x2 by omega) (show x2 < ((16 : Nat) : Int) by omega) (fun hx => (jba_194 _ _).2 (show 0 ≤ t46 ∧ t46 ≤ 3 by omega)) (fun g48 eg48 => ?_)
          replace eg48 : g48 = jup g47 194 x2 t46 := eg48
          have fg48 : jfr w_X12_aside h g48 := jfr_up fg47 eg48 (by unfold w_X12_aside; omega)
          have e49 : g48 194 x2 = t46 := jup_s eg48
          refine st_gr jo_176 jr_176_21 ?_
          have e50 : jw32 ((jw32 (20 + (jw32 (16 * x2)))) + 3) = (jw32 (20 + (jw32 (16 * x2)))) + 3 := j32e (by omega) (by omega)
          refine st_gr jo_176 jr_176_21 ?_
          refine st_ai jo_195 (show 0 ≤ x2 by omega) (show x2 < ((16 : Nat) : Int) by omega) (fun v51 ev51 b52 => ?_)
          replace ev51 : v51 = g48 195 x2 := ev51
          replace b52 := (jba_195 x2 _).1 b52
          refine st_cv (na := 3) (st := [.inl a1, .inl v51, .inl (jw32 ((jw32 (20 + (jw32 (16 * x2)))) + 3)), .inr (.inr (.inl 176)), .inl x2, .inr (.inr (.inl 195))]) jo_176 rfl rfl rfl (c_X12_swap (jw32 ((jw32 (20 + (jw32 (16 * x2)))) + 3)) v51 a1 g48 (by omega) (by omega) (fun hx => (jk_df (by omega) (by omega) (by omega) _).2 hx)) rfl ?_
          rintro _ _ g54 ⟨rfl, ft53, t53, rfl, ht53, zt53⟩ kt53
          replace kt53 : -2147483648 ≤ t53 ∧ t53 ≤ 2147483647 := kt53
          have fg54 : jfr w_X12_aside h g54 := jfr_tr fg48 ft53 (fun i k q => by unfold w_X12_swap at q; unfold w_X12_aside; omega)
          replace zt53 : jbd 224 (jw32 ((jw32 (20 + (jw32 (16 * x2)))) + 3)) t53 ∧ (a1 = 0 → t53 = v51 ∧ g54 = jup g48 224 (jw32 ((jw32 (20 + (jw32 (16 * x2)))) + 3)) v51) ∧ (¬ a1 = 0 → t53 = g48 224 (jw32 ((jw32 (20 + (jw32 (16 * x2)))) + 3)) ∧ g54 = g48) ∧ (∀ j : Int, j ≠ (jw32 ((jw32 (20 + (jw32 (16 * x2)))) + 3)) → g54 224 j = g48 224 j) := zt53
          have jst53 : g54 224 0 = g48 224 0 := zt53.2.2.2 0 (by omega)
          clear zt53
          refine st_si jo_195 (show 0 ≤ x2 by omega) (show x2 < ((16 : Nat) : Int) by omega) (fun hx => (jba_195 _ _).2 hx) (fun g55 eg55 => ?_)
          replace eg55 : g55 = jup g54 195 x2 t53 := eg55
          have fg55 : jfr w_X12_aside h g55 := jfr_up fg54 eg55 (by unfold w_X12_aside; omega)
          have e56 : g55 195 x2 = t53 := jup_s eg55
          refine st_gr jo_176 jr_176_22 ?_
          have e57 : jw32 ((jw32 (20 + (jw32 (16 * x2)))) + 4) = (jw32 (20 + (jw32 (16 * x2)))) + 4 := j32e (by omega) (by omega)
          refine st_gr jo_176 jr_176_22 ?_
          refine st_bi jo_196 (show 0 ≤ x2 by omega) (show x2 < ((16 : Nat) : Int) by omega) (fun v58 ev58 b59 => ?_)
          replace ev58 : v58 = g55 196 x2 := ev58
          replace b59 := (jba_196 x2 _).1 b59
          refine And.intro (fun c60 => ?_) (fun c60 => ?_)
          · replace c60 : v58 = 0 := c60
            show jGo E l 149 229 229 _ 227 [.inr (.inr (.inl 176)), .inl a1, .inl x2, .inl (jw32 (20 + (jw32 (16 * x2)))), x4] [.inl (jw32 ((jw32 (20 + (jw32 (16 * x2)))) + 4)), .inr (.inr (.inl 176)), .inl x2, .inr (.inr (.inl 196))] 229 jr0 g55
            refine jGo_blk qX12_aside_227 ?_
            show jGo E l 149 229 229 _ 228 [.inr (.inr (.inl 176)), .inl a1, .inl x2, .inl (jw32 (20 + (jw32 (16 * x2)))), x4] [.inl 0, .inl (jw32 ((jw32 (20 + (jw32 (16 * x2)))) + 4)), .inr (.inr (.inl 176)), .inl x2, .inr (.inr (.inl 196))] 229 jr0 g55
            refine jGo_blk qX12_aside_228 ?_
            refine st_cv (na := 3) (st := [.inl a1, .inl 0, .inl (jw32 ((jw32 (20 + (jw32 (16 * x2)))) + 4)), .inr (.inr (.inl 176)), .inl x2, .inr (.inr (.inl 196))]) jo_176 rfl rfl rfl (c_X12_swap (jw32 ((jw32 (20 + (jw32 (16 * x2)))) + 4)) 0 a1 g55 (by omega) (by omega) (fun hx => (jk_df (by omega) (by omega) (by omega) _).2 hx)) rfl ?_
            rintro _ _ g62 ⟨rfl, ft61, t61, rfl, ht61, zt61⟩ kt61
            replace kt61 : -2147483648 ≤ t61 ∧ t61 ≤ 2147483647 := kt61
            have fg62 : jfr w_X12_aside h g62 := jfr_tr fg55 ft61 (fun i k q => by unfold w_X12_swap at q; unfold w_X12_aside; omega)
            replace zt61 : jbd 224 (jw32 ((jw32 (20 + (jw32 (16 * x2)))) + 4)) t61 ∧ (a1 = 0 → t61 = (0 : Int) ∧ g62 = jup g55 224 (jw32 ((jw32 (20 + (jw32 (16 * x2)))) + 4)) (0 : Int)) ∧ (¬ a1 = 0 → t61 = g55 224 (jw32 ((jw32 (20 + (jw32 (16 * x2)))) + 4)) ∧ g62 = g55) ∧ (∀ j : Int, j ≠ (jw32 ((jw32 (20 + (jw32 (16 * x2)))) + 4)) → g62 224 j = g55 224 j) := zt61
            have jst61 : g62 224 0 = g55 224 0 := zt61.2.2.2 0 (by omega)
            clear zt61
            refine And.intro (fun c63 => ?_) (fun c63 => ?_)
            · replace c63 : ¬ t61 = 1 := c63
              show jGo E l 149 229 229 _ 240 [.inr (.inr (.inl 176)), .inl a1, .inl x2, .inl (jw32 (20 + (jw32 (16 * x2)))), x4] [.inl x2, .inr (.inr (.inl 196))] 229 jr0 g62
              refine jGo_blk qX12_aside_240 ?_
              show jGo E l 149 229 229 _ 241 [.inr (.inr (.inl 176)), .inl a1, .inl x2, .inl (jw32 (20 + (jw32 (16 * x2)))), x4] [.inl 0, .inl x2, .inr (.inr (.inl 196))] 229 jr0 g62
              refine jGo_blk qX12_aside_241 ?_
              refine st_sb jo_196 (show 0 ≤ x2 by omega) (show x2 < ((16 : Nat) : Int) by omega) (fun hx => (jba_196 _ _).2 (show 0 ≤ 0 ∧ 0 ≤ 1 by omega)) (fun g64 eg64 => ?_)
              replace eg64 : g64 = jup g62 196 x2 0 := eg64
              have fg64 : jfr w_X12_aside h g64 := jfr_up fg62 eg64 (by unfold w_X12_aside; omega)
              have e65 : g64 196 x2 = 0 := jup_s eg64
              refine st_gr jo_176 jr_176_23 ?_
              have e66 : jw32 ((jw32 (20 + (jw32 (16 * x2)))) + 5) = (jw32 (20 + (jw32 (16 * x2)))) + 5 := j32e (by omega) (by omega)
              refine st_gr jo_176 jr_176_23 ?_
              refine st_ai jo_197 (show 0 ≤ x2 by omega) (show x2 < ((16 : Nat) : Int) by omega) (fun v67 ev67 b68 => ?_)
              replace ev67 : v67 = g64 197 x2 := ev67
              replace b68 := (jba_197 x2 _).1 b68
              refine st_cv (na := 3) (st := [.inl a1, .inl v67, .inl (jw32 ((jw32 (20 + (jw32 (16 * x2)))) + 5)), .inr (.inr (.inl 176)), .inl x2, .inr (.inr (.inl 197))]) jo_176 rfl rfl rfl (c_X12_swap (jw32 ((jw32 (20 + (jw32 (16 * x2)))) + 5)) v67 a1 g64 (by omega) (by omega) (fun hx => (jk_df (by omega) (by omega) (by omega) _).2 hx)) rfl ?_
              rintro _ _ g70 ⟨rfl, ft69, t69, rfl, ht69, zt69⟩ kt69
              replace kt69 : -2147483648 ≤ t69 ∧ t69 ≤ 2147483647 := kt69
              have fg70 : jfr w_X12_aside h g70 := jfr_tr fg64 ft69 (fun i k q => by unfold w_X12_swap at q; unfold w_X12_aside; omega)
              replace zt69 : jbd 224 (jw32 ((jw32 (20 + (jw32 (16 * x2)))) + 5)) t69 ∧ (a1 = 0 → t69 = v67 ∧ g70 = jup g64 224 (jw32 ((jw32 (20 + (jw32 (16 * x2)))) + 5)) v67) ∧ (¬ a1 = 0 → t69 = g64 224 (jw32 ((jw32 (20 + (jw32 (16 * x2)))) + 5)) ∧ g70 = g64) ∧ (∀ j : Int, j ≠ (jw32 ((jw32 (20 + (jw32 (16 * x2)))) + 5)) → g70 224 j = g64 224 j) := zt69
              have jst69 : g70 224 0 = g64 224 0 := zt69.2.2.2 0 (by omega)
              clear zt69
              refine st_si jo_197 (show 0 ≤ x2 by omega) (show x2 < ((16 : Nat) : Int) by omega) (fun hx => (jba_197 _ _).2 hx) (fun g71 eg71 => ?_)
              replace eg71 : g71 = jup g70 197 x2 t69 := eg71
              have fg71 : jfr w_X12_aside h g71 := jfr_up fg70 eg71 (by unfold w_X12_aside; omega)
              have e72 : g71 197 x2 = t69 := jup_s eg71
              refine st_gr jo_176 jr_176_24 ?_
              have e73 : jw32 ((jw32 (20 + (jw32 (16 * x2)))) + 6) = (jw32 (20 + (jw32 (16 * x2)))) + 6 := j32e (by omega) (by omega)
              refine st_gr jo_176 jr_176_24 ?_
              refine st_ai jo_198 (show 0 ≤ x2 by omega) (show x2 < ((16 : Nat) : Int) by omega) (fun v74 ev74 b75 => ?_)
              replace ev74 : v74 = g71 198 x2 := ev74
              replace b75 := (jba_198 x2 _).1 b75
              refine st_cv (na := 3) (st := [.inl a1, .inl v74, .inl (jw32 ((jw32 (20 + (jw32 (16 * x2)))) + 6)), .inr (.inr (.inl 176)), .inl x2, .inr (.inr (.inl 198))]) jo_176 rfl rfl rfl (c_X12_swap (jw32 ((jw32 (20 + (jw32 (16 * x2)))) + 6)) v74 a1 g71 (by omega) (by omega) (fun hx => (jk_df (by omega) (by omega) (by omega) _).2 hx)) rfl ?_
              rintro _ _ g77 ⟨rfl, ft76, t76, rfl, ht76, zt76⟩ kt76
              replace kt76 : -2147483648 ≤ t76 ∧ t76 ≤ 2147483647 := kt76
              have fg77 : jfr w_X12_aside h g77 := jfr_tr fg71 ft76 (fun i k q => by unfold w_X12_swap at q; unfold w_X12_aside; omega)
              replace zt76 : jbd 224 (jw32 ((jw32 (20 + (jw32 (16 * x2)))) + 6)) t76 ∧ (a1 = 0 → t76 = v74 ∧ g77 = jup g71 224 (jw32 ((jw32 (20 + (jw32 (16 * x2)))) + 6)) v74) ∧ (¬ a1 = 0 → t76 = g71 224 (jw32 ((jw32 (20 + (jw32 (16 * x2)))) + 6)) ∧ g77 = g71) ∧ (∀ j : Int, j ≠ (jw32 ((jw32 (20 + (jw32 (16 * x2)))) + 6)) → g77 224 j = g71 224 j) := zt76
              have jst76 : g77 224 0 = g71 224 0 := zt76.2.2.2 0 (by omega)
              clear zt76
              refine st_si jo_198 (show 0 ≤ x2 by omega) (show x2 < ((16 : Nat) : Int) by omega) (fun hx => (jba_198 _ _).2 hx) (fun g78 eg78 => ?_)
              replace eg78 : g78 = jup g77 198 x2 t76 := eg78
              have fg78 : jfr w_X12_aside h g78 := jfr_up fg77 eg78 (by unfold w_X12_aside; omega)
              have e79 : g78 198 x2 = t76 := jup_s eg78
              refine st_gr jo_176 jr_176_16 ?_
              have e80 : jw32 ((jw32 (20 + (jw32 (16 * x2)))) + 7) = (jw32 (20 + (jw32 (16 * x2)))) + 7 := j32e (by omega) (by omega)
              refine st_gr jo_176 jr_176_16 ?_
              refine st_ai jo_190 (show 0 ≤ x2 by omega) (show x2 < ((16 : Nat) : Int) by omega) (fun v81 ev81 b82 => ?_)
              replace ev81 : v81 = g78 190 x2 := ev81
              replace b82 := (jba_190 x2 _).1 b82
              refine st_cv (na := 3) (st := [.inl a1, .inl v81, .inl (jw32 ((jw32 (20 + (jw32 (16 * x2)))) + 7)), .inr (.inr (.inl 176)), .inl x2, .inr (.inr (.inl 190))]) jo_176 rfl rfl rfl (c_X12_swap (jw32 ((jw32 (20 + (jw32 (16 * x2)))) + 7)) v81 a1 g78 (by omega) (by omega) (fun hx => (jk_pr (by omega) (by omega) _).2 (by omega))) rfl ?_
              rintro _ _ g84 ⟨rfl, ft83, t83, rfl, ht83, zt83⟩ kt83
              replace kt83 : -2147483648 ≤ t83 ∧ t83 ≤ 2147483647 := kt83
              have fg84 : jfr w_X12_aside h g84 := jfr_tr fg78 ft83 (fun i k q => by unfold w_X12_swap at q; unfold w_X12_aside; omega)
              replace zt83 : jbd 224 (jw32 ((jw32 (20 + (jw32 (16 * x2)))) + 7)) t83 ∧ (a1 = 0 → t83 = v81 ∧ g84 = jup g78 224 (jw32 ((jw32 (20 + (jw32 (16 * x2)))) + 7)) v81) ∧ (¬ a1 = 0 → t83 = g78 224 (jw32 ((jw32 (20 + (jw32 (16 * x2)))) + 7)) ∧ g84 = g78) ∧ (∀ j : Int, j ≠ (jw32 ((jw32 (20 + (jw32 (16 * x2)))) + 7)) → g84 224 j = g78 224 j) := zt83
              have jct83 := (jk_pr (by omega) (by omega) _).1 zt83.1
              have jst83 : g84 224 0 = g78 224 0 := zt83.2.2.2 0 (by omega)
              clear zt83
              refine st_si jo_190 (show 0 ≤ x2 by omega) (show x2 < ((16 : Nat) : Int) by omega) (fun hx => (jba_190 _ _).2 (show 0 ≤ t83 ∧ t83 ≤ 99 by omega)) (fun g85 eg85 => ?_)
              replace eg85 : g85 = jup g84 190 x2 t83 := eg85
              have fg85 : jfr w_X12_aside h g85 := jfr_up fg84 eg85 (by unfold w_X12_aside; omega)
              have e86 : g85 190 x2 = t83 := jup_s eg85
              show jGo E l 149 229 229 _ 307 [.inr (.inr (.inl 176)), .inl a1, .inl x2, .inl (jw32 (20 + (jw32 (16 * x2)))), .inl 0] [] 229 jr0 g85
              have e87 : g85 224 0 = g84 224 0 := jup_o eg85 (by omega)
              have e88 : g78 224 0 = g77 224 0 := jup_o eg78 (by omega)
              have e89 : g71 224 0 = g70 224 0 := jup_o eg71 (by omega)
              have e90 : g64 224 0 = g62 224 0 := jup_o eg64 (by omega)
              have e91 : g55 224 0 = g54 224 0 := jup_o eg55 (by omega)
              have e92 : g48 224 0 = g47 224 0 := jup_o eg48 (by omega)
              have e93 : g41 224 0 = g40 224 0 := jup_o eg41 (by omega)
              have e94 : g34 224 0 = g33 224 0 := jup_o eg34 (by omega)
              have e95 : g85 176 0 = g84 176 0 := jup_o eg85 (by omega)
              have e96 : g84 176 0 = g78 176 0 := ft83 176 0 (by unfold w_X12_swap; omega)
              have e97 : g78 176 0 = g77 176 0 := jup_o eg78 (by omega)
              have e98 : g77 176 0 = g71 176 0 := ft76 176 0 (by unfold w_X12_swap; omega)
              have e99 : g71 176 0 = g70 176 0 := jup_o eg71 (by omega)
              have e100 : g70 176 0 = g64 176 0 := ft69 176 0 (by unfold w_X12_swap; omega)
              have e101 : g64 176 0 = g62 176 0 := jup_o eg64 (by omega)
              have e102 : g62 176 0 = g55 176 0 := ft61 176 0 (by unfold w_X12_swap; omega)
              have e103 : g55 176 0 = g54 176 0 := jup_o eg55 (by omega)
              have e104 : g54 176 0 = g48 176 0 := ft53 176 0 (by unfold w_X12_swap; omega)
              have e105 : g48 176 0 = g47 176 0 := jup_o eg48 (by omega)
              have e106 : g47 176 0 = g41 176 0 := ft46 176 0 (by unfold w_X12_swap; omega)
              have e107 : g41 176 0 = g40 176 0 := jup_o eg41 (by omega)
              have e108 : g40 176 0 = g34 176 0 := ft39 176 0 (by unfold w_X12_swap; omega)
              have e109 : g34 176 0 = g33 176 0 := jup_o eg34 (by omega)
              have e110 : g33 176 0 = g 176 0 := ft32 176 0 (by unfold w_X12_swap; omega)
              have e111 : g85 176 0 = g84 176 0 := jup_o eg85 (by omega)
              have e112 : g84 176 0 = g78 176 0 := ft83 176 0 (by unfold w_X12_swap; omega)
              have e113 : g78 176 0 = g77 176 0 := jup_o eg78 (by omega)
              have e114 : g77 176 0 = g71 176 0 := ft76 176 0 (by unfold w_X12_swap; omega)
              have e115 : g71 176 0 = g70 176 0 := jup_o eg71 (by omega)
              have e116 : g70 176 0 = g64 176 0 := ft69 176 0 (by unfold w_X12_swap; omega)
              have e117 : g64 176 0 = g62 176 0 := jup_o eg64 (by omega)
              have e118 : g62 176 0 = g55 176 0 := ft61 176 0 (by unfold w_X12_swap; omega)
              have e119 : g55 176 0 = g54 176 0 := jup_o eg55 (by omega)
              have e120 : g54 176 0 = g48 176 0 := ft53 176 0 (by unfold w_X12_swap; omega)
              have e121 : g48 176 0 = g47 176 0 := jup_o eg48 (by omega)
              have e122 : g47 176 0 = g41 176 0 := ft46 176 0 (by unfold w_X12_swap; omega)
              have e123 : g41 176 0 = g40 176 0 := jup_o eg41 (by omega)
              have e124 : g40 176 0 = g34 176 0 := ft39 176 0 (by unfold w_X12_swap; omega)
              have e125 : g34 176 0 = g33 176 0 := jup_o eg34 (by omega)
              have e126 : g33 176 0 = g 176 0 := ft32 176 0 (by unfold w_X12_swap; omega)
              exact ih.2.2.1 x2 (jw32 (20 + (jw32 (16 * x2)))) 0 g85 (by omega) (by omega) (by omega) fg85 (by omega)
            · replace c63 : t61 = 1 := by first | exact c63 | exact Int.not_le.mp c63 | exact Int.not_lt.mp c63 | exact Decidable.not_not.mp c63
              show jGo E l 149 229 229 _ 241 [.inr (.inr (.inl 176)), .inl a1, .inl x2, .inl (jw32 (20 + (jw32 (16 * x2)))), x4] [.inl 1, .inl x2, .inr (.inr (.inl 196))] 229 jr0 g62
              refine jGo_blk qX12_aside_241 ?_
              refine st_sb jo_196 (show 0 ≤ x2 by omega) (show x2 < ((16 : Nat) : Int) by omega) (fun hx => (jba_196 _ _).2 (show 0 ≤ 1 ∧ 1 ≤ 1 by omega)) (fun g127 eg127 => ?_)
              replace eg127 : g127 = jup g62 196 x2 1 := eg127
              have fg127 : jfr w_X12_aside h g127 := jfr_up fg62 eg127 (by unfold w_X12_aside; omega)
              have e128 : g127 196 x2 = 1 := jup_s eg127
              refine st_gr jo_176 jr_176_23 ?_
              have e129 : jw32 ((jw32 (20 + (jw32 (16 * x2)))) + 5) = (jw32 (20 + (jw32 (16 * x2)))) + 5 := j32e (by omega) (by omega)
              refine st_gr jo_176 jr_176_23 ?_
              refine st_ai jo_197 (show 0 ≤ x2 by omega) (show x2 < ((16 : Nat) : Int) by omega) (fun v130 ev130 b131 => ?_)
              replace ev130 : v130 = g127 197 x2 := ev130
              replace b131 := (jba_197 x2 _).1 b131
              refine st_cv (na := 3) (st := [.inl a1, .inl v130, .inl (jw32 ((jw32 (20 + (jw32 (16 * x2)))) + 5)), .inr (.inr (.inl 176)), .inl x2, .inr (.inr (.inl 197))]) jo_176 rfl rfl rfl (c_X12_swap (jw32 ((jw32 (20 + (jw32 (16 * x2)))) + 5)) v130 a1 g127 (by omega) (by omega) (fun hx => (jk_df (by omega) (by omega) (by omega) _).2 hx)) rfl ?_
              rintro _ _ g133 ⟨rfl, ft132, t132, rfl, ht132, zt132⟩ kt132
              replace kt132 : -2147483648 ≤ t132 ∧ t132 ≤ 2147483647 := kt132
              have fg133 : jfr w_X12_aside h g133 := jfr_tr fg127 ft132 (fun i k q => by unfold w_X12_swap at q; unfold w_X12_aside; omega)
              replace zt132 : jbd 224 (jw32 ((jw32 (20 + (jw32 (16 * x2)))) + 5)) t132 ∧ (a1 = 0 → t132 = v130 ∧ g133 = jup g127 224 (jw32 ((jw32 (20 + (jw32 (16 * x2)))) + 5)) v130) ∧ (¬ a1 = 0 → t132 = g127 224 (jw32 ((jw32 (20 + (jw32 (16 * x2)))) + 5)) ∧ g133 = g127) ∧ (∀ j : Int, j ≠ (jw32 ((jw32 (20 + (jw32 (16 * x2)))) + 5)) → g133 224 j = g127 224 j) := zt132
              have jst132 : g133 224 0 = g127 224 0 := zt132.2.2.2 0 (by omega)
              clear zt132
              refine st_si jo_197 (show 0 ≤ x2 by omega) (show x2 < ((16 : Nat) : Int) by omega) (fun hx => (jba_197 _ _).2 hx) (fun g134 eg134 => ?_)
              replace eg134 : g134 = jup g133 197 x2 t132 := eg134
              have fg134 : jfr w_X12_aside h g134 := jfr_up fg133 eg134 (by unfold w_X12_aside; omega)
              have e135 : g134 197 x2 = t132 := jup_s eg134
              refine st_gr jo_176 jr_176_24 ?_
              have e136 : jw32 ((jw32 (20 + (jw32 (16 * x2)))) + 6) = (jw32 (20 + (jw32 (16 * x2)))) + 6 := j32e (by omega) (by omega)
              refine st_gr jo_176 jr_176_24 ?_
              refine st_ai jo_198 (show 0 ≤ x2 by omega) (show x2 < ((16 : Nat) : Int) by omega) (fun v137 ev137 b138 => ?_)
              replace ev137 : v137 = g134 198 x2 := ev137
              replace b138 := (jba_198 x2 _).1 b138
              refine st_cv (na := 3) (st := [.inl a1, .inl v137, .inl (jw32 ((jw32 (20 + (jw32 (16 * x2)))) + 6)), .inr (.inr (.inl 176)), .inl x2, .inr (.inr (.inl 198))]) jo_176 rfl rfl rfl (c_X12_swap (jw32 ((jw32 (20 + (jw32 (16 * x2)))) + 6)) v137 a1 g134 (by omega) (by omega) (fun hx => (jk_df (by omega) (by omega) (by omega) _).2 hx)) rfl ?_
              rintro _ _ g140 ⟨rfl, ft139, t139, rfl, ht139, zt139⟩ kt139
              replace kt139 : -2147483648 ≤ t139 ∧ t139 ≤ 2147483647 := kt139
              have fg140 : jfr w_X12_aside h g140 := jfr_tr fg134 ft139 (fun i k q => by unfold w_X12_swap at q; unfold w_X12_aside; omega)
              replace zt139 : jbd 224 (jw32 ((jw32 (20 + (jw32 (16 * x2)))) + 6)) t139 ∧ (a1 = 0 → t139 = v137 ∧ g140 = jup g134 224 (jw32 ((jw32 (20 + (jw32 (16 * x2)))) + 6)) v137) ∧ (¬ a1 = 0 → t139 = g134 224 (jw32 ((jw32 (20 + (jw32 (16 * x2)))) + 6)) ∧ g140 = g134) ∧ (∀ j : Int, j ≠ (jw32 ((jw32 (20 + (jw32 (16 * x2)))) + 6)) → g140 224 j = g134 224 j) := zt139
              have jst139 : g140 224 0 = g134 224 0 := zt139.2.2.2 0 (by omega)
              clear zt139
              refine st_si jo_198 (show 0 ≤ x2 by omega) (show x2 < ((16 : Nat) : Int) by omega) (fun hx => (jba_198 _ _).2 hx) (fun g141 eg141 => ?_)
              replace eg141 : g141 = jup g140 198 x2 t139 := eg141
              have fg141 : jfr w_X12_aside h g141 := jfr_up fg140 eg141 (by unfold w_X12_aside; omega)
              have e142 : g141 198 x2 = t139 := jup_s eg141
              refine st_gr jo_176 jr_176_16 ?_
              have e143 : jw32 ((jw32 (20 + (jw32 (16 * x2)))) + 7) = (jw32 (20 + (jw32 (16 * x2)))) + 7 := j32e (by omega) (by omega)
              refine st_gr jo_176 jr_176_16 ?_
              refine st_ai jo_190 (show 0 ≤ x2 by omega) (show x2 < ((16 : Nat) : Int) by omega) (fun v144 ev144 b145 => ?_)
              replace ev144 : v144 = g141 190 x2 := ev144
              replace b145 := (jba_190 x2 _).1 b145
              refine st_cv (na := 3) (st := [.inl a1, .inl v144, .inl (jw32 ((jw32 (20 + (jw32 (16 * x2)))) + 7)), .inr (.inr (.inl 176)), .inl x2, .inr (.inr (.inl 190))]) jo_176 rfl rfl rfl (c_X12_swap (jw32 ((jw32 (20 + (jw32 (16 * x2)))) + 7)) v144 a1 g141 (by omega) (by omega) (fun hx => (jk_pr (by omega) (by omega) _).2 (by omega))) rfl ?_
              rintro _ _ g147 ⟨rfl, ft146, t146, rfl, ht146, zt146⟩ kt146
              replace kt146 : -2147483648 ≤ t146 ∧ t146 ≤ 2147483647 := kt146
              have fg147 : jfr w_X12_aside h g147 := jfr_tr fg141 ft146 (fun i k q => by unfold w_X12_swap at q; unfold w_X12_aside; omega)
              replace zt146 : jbd 224 (jw32 ((jw32 (20 + (jw32 (16 * x2)))) + 7)) t146 ∧ (a1 = 0 → t146 = v144 ∧ g147 = jup g141 224 (jw32 ((jw32 (20 + (jw32 (16 * x2)))) + 7)) v144) ∧ (¬ a1 = 0 → t146 = g141 224 (jw32 ((jw32 (20 + (jw32 (16 * x2)))) + 7)) ∧ g147 = g141) ∧ (∀ j : Int, j ≠ (jw32 ((jw32 (20 + (jw32 (16 * x2)))) + 7)) → g147 224 j = g141 224 j) := zt146
              have jct146 := (jk_pr (by omega) (by omega) _).1 zt146.1
              have jst146 : g147 224 0 = g141 224 0 := zt146.2.2.2 0 (by omega)
              clear zt146
              refine st_si jo_190 (show 0 ≤ x2 by omega) (show x2 < ((16 : Nat) : Int) by omega) (fun hx => (jba_190 _ _).2 (show 0 ≤ t146 ∧ t146 ≤ 99 by omega)) (fun g148 eg148 => ?_)
              replace eg148 : g148 = jup g147 190 x2 t146 := eg148
              have fg148 : jfr w_X12_aside h g148 := jfr_up fg147 eg148 (by unfold w_X12_aside; omega)
              have e149 : g148 190 x2 = t146 := jup_s eg148
              show jGo E l 149 229 229 _ 307 [.inr (.inr (.inl 176)), .inl a1, .inl x2, .inl (jw32 (20 + (jw32 (16 * x2)))), .inl 0] [] 229 jr0 g148
              have e150 : g148 224 0 = g147 224 0 := jup_o eg148 (by omega)
              have e151 : g141 224 0 = g140 224 0 := jup_o eg141 (by omega)
              have e152 : g134 224 0 = g133 224 0 := jup_o eg134 (by omega)
              have e153 : g127 224 0 = g62 224 0 := jup_o eg127 (by omega)
              have e154 : g55 224 0 = g54 224 0 := jup_o eg55 (by omega)
              have e155 : g48 224 0 = g47 224 0 := jup_o eg48 (by omega)
              have e156 : g41 224 0 = g40 224 0 := jup_o eg41 (by omega)
              have e157 : g34 224 0 = g33 224 0 := jup_o eg34 (by omega)
              have e158 : g148 176 0 = g147 176 0 := jup_o eg148 (by omega)
              have e159 : g147 176 0 = g141 176 0 := ft146 176 0 (by unfold w_X12_swap; omega)
              have e160 : g141 176 0 = g140 176 0 := jup_o eg141 (by omega)
              have e161 : g140 176 0 = g134 176 0 := ft139 176 0 (by unfold w_X12_swap; omega)
              have e162 : g134 176 0 = g133 176 0 := jup_o eg134 (by omega)
              have e163 : g133 176 0 = g127 176 0 := ft132 176 0 (by unfold w_X12_swap; omega)
              have e164 : g127 176 0 = g62 176 0 := jup_o eg127 (by omega)
              have e165 : g62 176 0 = g55 176 0 := ft61 176 0 (by unfold w_X12_swap; omega)
              have e166 : g55 176 0 = g54 176 0 := jup_o eg55 (by omega)
              have e167 : g54 176 0 = g48 176 0 := ft53 176 0 (by unfold w_X12_swap; omega)
              have e168 : g48 176 0 = g47 176 0 := jup_o eg48 (by omega)
              have e169 : g47 176 0 = g41 176 0 := ft46 176 0 (by unfold w_X12_swap; omega)
              have e170 : g41 176 0 = g40 176 0 := jup_o eg41 (by omega)
              have e171 : g40 176 0 = g34 176 0 := ft39 176 0 (by unfold w_X12_swap; omega)
              have e172 : g34 176 0 = g33 176 0 := jup_o eg34 (by omega)
              have e173 : g33 176 0 = g 176 0 := ft32 176 0 (by unfold w_X12_swap; omega)
              have e174 : g148 176 0 = g147 176 0 := jup_o eg148 (by omega)
              have e175 : g147 176 0 = g141 176 0 := ft146 176 0 (by unfold w_X12_swap; omega)
              have e176 : g141 176 0 = g140 176 0 := jup_o eg141 (by omega)
              have e177 : g140 176 0 = g134 176 0 := ft139 176 0 (by unfold w_X12_swap; omega)
              have e178 : g134 176 0 = g133 176 0 := jup_o eg134 (by omega)
              have e179 : g133 176 0 = g127 176 0 := ft132 176 0 (by unfold w_X12_swap; omega)
              have e180 : g127 176 0 = g62 176 0 := jup_o eg127 (by omega)
              have e181 : g62 176 0 = g55 176 0 := ft61 176 0 (by unfold w_X12_swap; omega)
              have e182 : g55 176 0 = g54 176 0 := jup_o eg55 (by omega)
              have e183 : g54 176 0 = g48 176 0 := ft53 176 0 (by unfold w_X12_swap; omega)
              have e184 : g48 176 0 = g47 176 0 := jup_o eg48 (by omega)
              have e185 : g47 176 0 = g41 176 0 := ft46 176 0 (by unfold w_X12_swap; omega)
              have e186 : g41 176 0 = g40 176 0 := jup_o eg41 (by omega)
              have e187 : g40 176 0 = g34 176 0 := ft39 176 0 (by unfold w_X12_swap; omega)
              have e188 : g34 176 0 = g33 176 0 := jup_o eg34 (by omega)
              have e189 : g33 176 0 = g 176 0 := ft32 176 0 (by unfold w_X12_swap; omega)
              exact ih.2.2.1 x2 (jw32 (20 + (jw32 (16 * x2)))) 0 g148 (by omega) (by omega) (by omega) fg148 (by omega)
          · replace c60 : ¬ v58 = 0 := by first | exact c60 | exact Int.not_le.mp c60 | exact Int.not_lt.mp c60 | exact Decidable.not_not.mp c60
            show jGo E l 149 229 229 _ 228 [.inr (.inr (.inl 176)), .inl a1, .inl x2, .inl (jw32 (20 + (jw32 (16 * x2)))), x4] [.inl 1, .inl (jw32 ((jw32 (20 + (jw32 (16 * x2)))) + 4)), .inr (.inr (.inl 176)), .inl x2, .inr (.inr (.inl 196))] 229 jr0 g55
            refine jGo_blk qX12_aside_228 ?_
            refine st_cv (na := 3) (st := [.inl a1, .inl 1, .inl (jw32 ((jw32 (20 + (jw32 (16 * x2)))) + 4)), .inr (.inr (.inl 176)), .inl x2, .inr (.inr (.inl 196))]) jo_176 rfl rfl rfl (c_X12_swap (jw32 ((jw32 (20 + (jw32 (16 * x2)))) + 4)) 1 a1 g55 (by omega) (by omega) (fun hx => (jk_df (by omega) (by omega) (by omega) _).2 hx)) rfl ?_
            rintro _ _ g191 ⟨rfl, ft190, t190, rfl, ht190, zt190⟩ kt190
            replace kt190 : -2147483648 ≤ t190 ∧ t190 ≤ 2147483647 := kt190
            have fg191 : jfr w_X12_aside h g191 := jfr_tr fg55 ft190 (fun i k q => by unfold w_X12_swap at q; unfold w_X12_aside; omega)
            replace zt190 : jbd 224 (jw32 ((jw32 (20 + (jw32 (16 * x2)))) + 4)) t190 ∧ (a1 = 0 → t190 = (1 : Int) ∧ g191 = jup g55 224 (jw32 ((jw32 (20 + (jw32 (16 * x2)))) + 4)) (1 : Int)) ∧ (¬ a1 = 0 → t190 = g55 224 (jw32 ((jw32 (20 + (jw32 (16 * x2)))) + 4)) ∧ g191 = g55) ∧ (∀ j : Int, j ≠ (jw32 ((jw32 (20 + (jw32 (16 * x2)))) + 4)) → g191 224 j = g55 224 j) := zt190
            have jst190 : g191 224 0 = g55 224 0 := zt190.2.2.2 0 (by omega)
            clear zt190
            refine And.intro (fun c192 => ?_) (fun c192 => ?_)
            · replace c192 : ¬ t190 = 1 := c192
              show jGo E l 149 229 229 _ 240 [.inr (.inr (.inl 176)), .inl a1, .inl x2, .inl (jw32 (20 + (jw32 (16 * x2)))), x4] [.inl x2, .inr (.inr (.inl 196))] 229 jr0 g191
              refine jGo_blk qX12_aside_240 ?_
              show jGo E l 149 229 229 _ 241 [.inr (.inr (.inl 176)), .inl a1, .inl x2, .inl (jw32 (20 + (jw32 (16 * x2)))), x4] [.inl 0, .inl x2, .inr (.inr (.inl 196))] 229 jr0 g191
              refine jGo_blk qX12_aside_241 ?_
              refine st_sb jo_196 (show 0 ≤ x2 by omega) (show x2 < ((16 : Nat) : Int) by omega) (fun hx => (jba_196 _ _).2 (show 0 ≤ 0 ∧ 0 ≤ 1 by omega)) (fun g193 eg193 => ?_)
              replace eg193 : g193 = jup g191 196 x2 0 := eg193
              have fg193 : jfr w_X12_aside h g193 := jfr_up fg191 eg193 (by unfold w_X12_aside; omega)
              have e194 : g193 196 x2 = 0 := jup_s eg193
              refine st_gr jo_176 jr_176_23 ?_
              have e195 : jw32 ((jw32 (20 + (jw32 (16 * x2)))) + 5) = (jw32 (20 + (jw32 (16 * x2)))) + 5 := j32e (by omega) (by omega)
              refine st_gr jo_176 jr_176_23 ?_
              refine st_ai jo_197 (show 0 ≤ x2 by omega) (show x2 < ((16 : Nat) : Int) by omega) (fun v196 ev196 b197 => ?_)
              replace ev196 : v196 = g193 197 x2 := ev196
              replace b197 := (jba_197 x2 _).1 b197
              refine st_cv (na := 3) (st := [.inl a1, .inl v196, .inl (jw32 ((jw32 (20 + (jw32 (16 * x2)))) + 5)), .inr (.inr (.inl 176)), .inl x2, .inr (.inr (.inl 197))]) jo_176 rfl rfl rfl (c_X12_swap (jw32 ((jw32 (20 + (jw32 (16 * x2)))) + 5)) v196 a1 g193 (by omega) (by omega) (fun hx => (jk_df (by omega) (by omega) (by omega) _).2 hx)) rfl ?_
              rintro _ _ g199 ⟨rfl, ft198, t198, rfl, ht198, zt198⟩ kt198
              replace kt198 : -2147483648 ≤ t198 ∧ t198 ≤ 2147483647 := kt198
              have fg199 : jfr w_X12_aside h g199 := jfr_tr fg193 ft198 (fun i k q => by unfold w_X12_swap at q; unfold w_X12_aside; omega)
              replace zt198 : jbd 224 (jw32 ((jw32 (20 + (jw32 (16 * x2)))) + 5)) t198 ∧ (a1 = 0 → t198 = v196 ∧ g199 = jup g193 224 (jw32 ((jw32 (20 + (jw32 (16 * x2)))) + 5)) v196) ∧ (¬ a1 = 0 → t198 = g193 224 (jw32 ((jw32 (20 + (jw32 (16 * x2)))) + 5)) ∧ g199 = g193) ∧ (∀ j : Int, j ≠ (jw32 ((jw32 (20 + (jw32 (16 * x2)))) + 5)) → g199 224 j = g193 224 j) := zt198
              have jst198 : g199 224 0 = g193 224 0 := zt198.2.2.2 0 (by omega)
              clear zt198
              refine st_si jo_197 (show 0 ≤ x2 by omega) (show x2 < ((16 : Nat) : Int) by omega) (fun hx => (jba_197 _ _).2 hx) (fun g200 eg200 => ?_)
              replace eg200 : g200 = jup g199 197 x2 t198 := eg200
              have fg200 : jfr w_X12_aside h g200 := jfr_up fg199 eg200 (by unfold w_X12_aside; omega)
              have e201 : g200 197 x2 = t198 := jup_s eg200
              refine st_gr jo_176 jr_176_24 ?_
              have e202 : jw32 ((jw32 (20 + (jw32 (16 * x2)))) + 6) = (jw32 (20 + (jw32 (16 * x2)))) + 6 := j32e (by omega) (by omega)
              refine st_gr jo_176 jr_176_24 ?_
              refine st_ai jo_198 (show 0 ≤ x2 by omega) (show x2 < ((16 : Nat) : Int) by omega) (fun v203 ev203 b204 => ?_)
              replace ev203 : v203 = g200 198 x2 := ev203
              replace b204 := (jba_198 x2 _).1 b204
              refine st_cv (na := 3) (st := [.inl a1, .inl v203, .inl (jw32 ((jw32 (20 + (jw32 (16 * x2)))) + 6)), .inr (.inr (.inl 176)), .inl x2, .inr (.inr (.inl 198))]) jo_176 rfl rfl rfl (c_X12_swap (jw32 ((jw32 (20 + (jw32 (16 * x2)))) + 6)) v203 a1 g200 (by omega) (by omega) (fun hx => (jk_df (by omega) (by omega) (by omega) _).2 hx)) rfl ?_
              rintro _ _ g206 ⟨rfl, ft205, t205, rfl, ht205, zt205⟩ kt205
              replace kt205 : -2147483648 ≤ t205 ∧ t205 ≤ 2147483647 := kt205
              have fg206 : jfr w_X12_aside h g206 := jfr_tr fg200 ft205 (fun i k q => by unfold w_X12_swap at q; unfold w_X12_aside; omega)
              replace zt205 : jbd 224 (jw32 ((jw32 (20 + (jw32 (16 * x2)))) + 6)) t205 ∧ (a1 = 0 → t205 = v203 ∧ g206 = jup g200 224 (jw32 ((jw32 (20 + (jw32 (16 * x2)))) + 6)) v203) ∧ (¬ a1 = 0 → t205 = g200 224 (jw32 ((jw32 (20 + (jw32 (16 * x2)))) + 6)) ∧ g206 = g200) ∧ (∀ j : Int, j ≠ (jw32 ((jw32 (20 + (jw32 (16 * x2)))) + 6)) → g206 224 j = g200 224 j) := zt205
              have jst205 : g206 224 0 = g200 224 0 := zt205.2.2.2 0 (by omega)
              clear zt205
              refine st_si jo_198 (show 0 ≤ x2 by omega) (show x2 < ((16 : Nat) : Int) by omega) (fun hx => (jba_198 _ _).2 hx) (fun g207 eg207 => ?_)
              replace eg207 : g207 = jup g206 198 x2 t205 := eg207
              have fg207 : jfr w_X12_aside h g207 := jfr_up fg206 eg207 (by unfold w_X12_aside; omega)
              have e208 : g207 198 x2 = t205 := jup_s eg207
              refine st_gr jo_176 jr_176_16 ?_
              have e209 : jw32 ((jw32 (20 + (jw32 (16 * x2)))) + 7) = (jw32 (20 + (jw32 (16 * x2)))) + 7 := j32e (by omega) (by omega)
              refine st_gr jo_176 jr_176_16 ?_
              refine st_ai jo_190 (show 0 ≤ x2 by omega) (show x2 < ((16 : Nat) : Int) by omega) (fun v210 ev210 b211 => ?_)
              replace ev210 : v210 = g207 190 x2 := ev210
              replace b211 := (jba_190 x2 _).1 b211
              refine st_cv (na := 3) (st := [.inl a1, .inl v210, .inl (jw32 ((jw32 (20 + (jw32 (16 * x2)))) + 7)), .inr (.inr (.inl 176)), .inl x2, .inr (.inr (.inl 190))]) jo_176 rfl rfl rfl (c_X12_swap (jw32 ((jw32 (20 + (jw32 (16 * x2)))) + 7)) v210 a1 g207 (by omega) (by omega) (fun hx => (jk_pr (by omega) (by omega) _).2 (by omega))) rfl ?_
              rintro _ _ g213 ⟨rfl, ft212, t212, rfl, ht212, zt212⟩ kt212
              replace kt212 : -2147483648 ≤ t212 ∧ t212 ≤ 2147483647 := kt212
              have fg213 : jfr w_X12_aside h g213 := jfr_tr fg207 ft212 (fun i k q => by unfold w_X12_swap at q; unfold w_X12_aside; omega)
              replace zt212 : jbd 224 (jw32 ((jw32 (20 + (jw32 (16 * x2)))) + 7)) t212 ∧ (a1 = 0 → t212 = v210 ∧ g213 = jup g207 224 (jw32 ((jw32 (20 + (jw32 (16 * x2)))) + 7)) v210) ∧ (¬ a1 = 0 → t212 = g207 224 (jw32 ((jw32 (20 + (jw32 (16 * x2)))) + 7)) ∧ g213 = g207) ∧ (∀ j : Int, j ≠ (jw32 ((jw32 (20 + (jw32 (16 * x2)))) + 7)) → g213 224 j = g207 224 j) := zt212
              have jct212 := (jk_pr (by omega) (by omega) _).1 zt212.1
              have jst212 : g213 224 0 = g207 224 0 := zt212.2.2.2 0 (by omega)
              clear zt212
              refine st_si jo_190 (show 0 ≤ x2 by omega) (show x2 < ((16 : Nat) : Int) by omega) (fun hx => (jba_190 _ _).2 (show 0 ≤ t212 ∧ t212 ≤ 99 by omega)) (fun g214 eg214 => ?_)
              replace eg214 : g214 = jup g213 190 x2 t212 := eg214
              have fg214 : jfr w_X12_aside h g214 := jfr_up fg213 eg214 (by unfold w_X12_aside; omega)
              have e215 : g214 190 x2 = t212 := jup_s eg214
              show jGo E l 149 229 229 _ 307 [.inr (.inr (.inl 176)), .inl a1, .inl x2, .inl (jw32 (20 + (jw32 (16 * x2)))), .inl 0] [] 229 jr0 g214
              have e216 : g214 224 0 = g213 224 0 := jup_o eg214 (by omega)
              have e217 : g207 224 0 = g206 224 0 := jup_o eg207 (by omega)
              have e218 : g200 224 0 = g199 224 0 := jup_o eg200 (by omega)
              have e219 : g193 224 0 = g191 224 0 := jup_o eg193 (by omega)
              have e220 : g55 224 0 = g54 224 0 := jup_o eg55 (by omega)
              have e221 : g48 224 0 = g47 224 0 := jup_o eg48 (by omega)
              have e222 : g41 224 0 = g40 224 0 := jup_o eg41 (by omega)
              have e223 : g34 224 0 = g33 224 0 := jup_o eg34 (by omega)
              have e224 : g214 176 0 = g213 176 0 := jup_o eg214 (by omega)
              have e225 : g213 176 0 = g207 176 0 := ft212 176 0 (by unfold w_X12_swap; omega)
              have e226 : g207 176 0 = g206 176 0 := jup_o eg207 (by omega)
              have e227 : g206 176 0 = g200 176 0 := ft205 176 0 (by unfold w_X12_swap; omega)
              have e228 : g200 176 0 = g199 176 0 := jup_o eg200 (by omega)
              have e229 : g199 176 0 = g193 176 0 := ft198 176 0 (by unfold w_X12_swap; omega)
              have e230 : g193 176 0 = g191 176 0 := jup_o eg193 (by omega)
              have e231 : g191 176 0 = g55 176 0 := ft190 176 0 (by unfold w_X12_swap; omega)
              have e232 : g55 176 0 = g54 176 0 := jup_o eg55 (by omega)
              have e233 : g54 176 0 = g48 176 0 := ft53 176 0 (by unfold w_X12_swap; omega)
              have e234 : g48 176 0 = g47 176 0 := jup_o eg48 (by omega)
              have e235 : g47 176 0 = g41 176 0 := ft46 176 0 (by unfold w_X12_swap; omega)
              have e236 : g41 176 0 = g40 176 0 := jup_o eg41 (by omega)
              have e237 : g40 176 0 = g34 176 0 := ft39 176 0 (by unfold w_X12_swap; omega)
              have e238 : g34 176 0 = g33 176 0 := jup_o eg34 (by omega)
              have e239 : g33 176 0 = g 176 0 := ft32 176 0 (by unfold w_X12_swap; omega)
              have e240 : g214 176 0 = g213 176 0 := jup_o eg214 (by omega)
              have e241 : g213 176 0 = g207 176 0 := ft212 176 0 (by unfold w_X12_swap; omega)
              have e242 : g207 176 0 = g206 176 0 := jup_o eg207 (by omega)
              have e243 : g206 176 0 = g200 176 0 := ft205 176 0 (by unfold w_X12_swap; omega)
              have e244 : g200 176 0 = g199 176 0 := jup_o eg200 (by omega)
              have e245 : g199 176 0 = g193 176 0 := ft198 176 0 (by unfold w_X12_swap; omega)
              have e246 : g193 176 0 = g191 176 0 := jup_o eg193 (by omega)
              have e247 : g191 176 0 = g55 176 0 := ft190 176 0 (by unfold w_X12_swap; omega)
              have e248 : g55 176 0 = g54 176 0 := jup_o eg55 (by omega)
              have e249 : g54 176 0 = g48 176 0 := ft53 176 0 (by unfold w_X12_swap; omega)
              have e250 : g48 176 0 = g47 176 0 := jup_o eg48 (by omega)
              have e251 : g47 176 0 = g41 176 0 := ft46 176 0 (by unfold w_X12_swap; omega)
              have e252 : g41 176 0 = g40 176 0 := jup_o eg41 (by omega)
              have e253 : g40 176 0 = g34 176 0 := ft39 176 0 (by unfold w_X12_swap; omega)
              have e254 : g34 176 0 = g33 176 0 := jup_o eg34 (by omega)
              have e255 : g33 176 0 = g 176 0 := ft32 176 0 (by unfold w_X12_swap; omega)
              exact ih.2.2.1 x2 (jw32 (20 + (jw32 (16 * x2)))) 0 g214 (by omega) (by omega) (by omega) fg214 (by omega)
            · replace c192 : t190 = 1 := by first | exact c192 | exact Int.not_le.mp c192 | exact Int.not_lt.mp c192 | exact Decidable.not_not.mp c192
              show jGo E l 149 229 229 _ 241 [.inr (.inr (.inl 176)), .inl a1, .inl x2, .inl (jw32 (20 + (jw32 (16 * x2)))), x4] [.inl 1, .inl x2, .inr (.inr (.inl 196))] 229 jr0 g191
              refine jGo_blk qX12_aside_241 ?_
              refine st_sb jo_196 (show 0 ≤ x2 by omega) (show x2 < ((16 : Nat) : Int) by omega) (fun hx => (jba_196 _ _).2 (show 0 ≤ 1 ∧ 1 ≤ 1 by omega)) (fun g256 eg256 => ?_)
              replace eg256 : g256 = jup g191 196 x2 1 := eg256
              have fg256 : jfr w_X12_aside h g256 := jfr_up fg191 eg256 (by unfold w_X12_aside; omega)
              have e257 : g256 196 x2 = 1 := jup_s eg256
              refine st_gr jo_176 jr_176_23 ?_
              have e258 : jw32 ((jw32 (20 + (jw32 (16 * x2)))) + 5) = (jw32 (20 + (jw32 (16 * x2)))) + 5 := j32e (by omega) (by omega)
              refine st_gr jo_176 jr_176_23 ?_
              refine st_ai jo_197 (show 0 ≤ x2 by omega) (show x2 < ((16 : Nat) : Int) by omega) (fun v259 ev259 b260 => ?_)
              replace ev259 : v259 = g256 197 x2 := ev259
              replace b260 := (jba_197 x2 _).1 b260
              refine st_cv (na := 3) (st := [.inl a1, .inl v259, .inl (jw32 ((jw32 (20 + (jw32 (16 * x2)))) + 5)), .inr (.inr (.inl 176)), .inl x2, .inr (.inr (.inl 197))]) jo_176 rfl rfl rfl (c_X12_swap (jw32 ((jw32 (20 + (jw32 (16 * x2)))) + 5)) v259 a1 g256 (by omega) (by omega) (fun hx => (jk_df (by omega) (by omega) (by omega) _).2 hx)) rfl ?_
              rintro _ _ g262 ⟨rfl, ft261, t261, rfl, ht261, zt261⟩ kt261
              replace kt261 : -2147483648 ≤ t261 ∧ t261 ≤ 2147483647 := kt261
              have fg262 : jfr w_X12_aside h g262 := jfr_tr fg256 ft261 (fun i k q => by unfold w_X12_swap at q; unfold w_X12_aside; omega)
              replace zt261 : jbd 224 (jw32 ((jw32 (20 + (jw32 (16 * x2)))) + 5)) t261 ∧ (a1 = 0 → t261 = v259 ∧ g262 = jup g256 224 (jw32 ((jw32 (20 + (jw32 (16 * x2)))) + 5)) v259) ∧ (¬ a1 = 0 → t261 = g256 224 (jw32 ((jw32 (20 + (jw32 (16 * x2)))) + 5)) ∧ g262 = g256) ∧ (∀ j : Int, j ≠ (jw32 ((jw32 (20 + (jw32 (16 * x2)))) + 5)) → g262 224 j = g256 224 j) := zt261
              have jst261 : g262 224 0 = g256 224 0 := zt261.2.2.2 0 (by omega)
              clear zt261
              refine st_si jo_197 (show 0 ≤ x2 by omega) (show x2 < ((16 : Nat) : Int) by omega) (fun hx => (jba_197 _ _).2 hx) (fun g263 eg263 => ?_)
              replace eg263 : g263 = jup g262 197 x2 t261 := eg263
              have fg263 : jfr w_X12_aside h g263 := jfr_up fg262 eg263 (by unfold w_X12_aside; omega)
              have e264 : g263 197 x2 = t261 := jup_s eg263
              refine st_gr jo_176 jr_176_24 ?_
              have e265 : jw32 ((jw32 (20 + (jw32 (16 * x2)))) + 6) = (jw32 (20 + (jw32 (16 * x2)))) + 6 := j32e (by omega) (by omega)
              refine st_gr jo_176 jr_176_24 ?_
              refine st_ai jo_198 (show 0 ≤ x2 by omega) (show x2 < ((16 : Nat) : Int) by omega) (fun v266 ev266 b267 => ?_)
              replace ev266 : v266 = g263 198 x2 := ev266
              replace b267 := (jba_198 x2 _).1 b267
              refine st_cv (na := 3) (st := [.inl a1, .inl v266, .inl (jw32 ((jw32 (20 + (jw32 (16 * x2)))) + 6)), .inr (.inr (.inl 176)), .inl x2, .inr (.inr (.inl 198))]) jo_176 rfl rfl rfl (c_X12_swap (jw32 ((jw32 (20 + (jw32 (16 * x2)))) + 6)) v266 a1 g263 (by omega) (by omega) (fun hx => (jk_df (by omega) (by omega) (by omega) _).2 hx)) rfl ?_
              rintro _ _ g269 ⟨rfl, ft268, t268, rfl, ht268, zt268⟩ kt268
              replace kt268 : -2147483648 ≤ t268 ∧ t268 ≤ 2147483647 := kt268
              have fg269 : jfr w_X12_aside h g269 := jfr_tr fg263 ft268 (fun i k q => by unfold w_X12_swap at q; unfold w_X12_aside; omega)
              replace zt268 : jbd 224 (jw32 ((jw32 (20 + (jw32 (16 * x2)))) + 6)) t268 ∧ (a1 = 0 → t268 = v266 ∧ g269 = jup g263 224 (jw32 ((jw32 (20 + (jw32 (16 * x2)))) + 6)) v266) ∧ (¬ a1 = 0 → t268 = g263 224 (jw32 ((jw32 (20 + (jw32 (16 * x2)))) + 6)) ∧ g269 = g263) ∧ (∀ j : Int, j ≠ (jw32 ((jw32 (20 + (jw32 (16 * x2)))) + 6)) → g269 224 j = g263 224 j) := zt268
              have jst268 : g269 224 0 = g263 224 0 := zt268.2.2.2 0 (by omega)
              clear zt268
              refine st_si jo_198 (show 0 ≤ x2 by omega) (show x2 < ((16 : Nat) : Int) by omega) (fun hx => (jba_198 _ _).2 hx) (fun g270 eg270 => ?_)
              replace eg270 : g270 = jup g269 198 x2 t268 := eg270
              have fg270 : jfr w_X12_aside h g270 := jfr_up fg269 eg270 (by unfold w_X12_aside; omega)
              have e271 : g270 198 x2 = t268 := jup_s eg270
              refine st_gr jo_176 jr_176_16 ?_
              have e272 : jw32 ((jw32 (20 + (jw32 (16 * x2)))) + 7) = (jw32 (20 + (jw32 (16 * x2)))) + 7 := j32e (by omega) (by omega)
              refine st_gr jo_176 jr_176_16 ?_
              refine st_ai jo_190 (show 0 ≤ x2 by omega) (show x2 < ((16 : Nat) : Int) by omega) (fun v273 ev273 b274 => ?_)
              replace ev273 : v273 = g270 190 x2 := ev273
              replace b274 := (jba_190 x2 _).1 b274
              refine st_cv (na := 3) (st := [.inl a1, .inl v273, .inl (jw32 ((jw32 (20 + (jw32 (16 * x2)))) + 7)), .inr (.inr (.inl 176)), .inl x2, .inr (.inr (.inl 190))]) jo_176 rfl rfl rfl (c_X12_swap (jw32 ((jw32 (20 + (jw32 (16 * x2)))) + 7)) v273 a1 g270 (by omega) (by omega) (fun hx => (jk_pr (by omega) (by omega) _).2 (by omega))) rfl ?_
              rintro _ _ g276 ⟨rfl, ft275, t275, rfl, ht275, zt275⟩ kt275
              replace kt275 : -2147483648 ≤ t275 ∧ t275 ≤ 2147483647 := kt275
              have fg276 : jfr w_X12_aside h g276 := jfr_tr fg270 ft275 (fun i k q => by unfold w_X12_swap at q; unfold w_X12_aside; omega)
              replace zt275 : jbd 224 (jw32 ((jw32 (20 + (jw32 (16 * x2)))) + 7)) t275 ∧ (a1 = 0 → t275 = v273 ∧ g276 = jup g270 224 (jw32 ((jw32 (20 + (jw32 (16 * x2)))) + 7)) v273) ∧ (¬ a1 = 0 → t275 = g270 224 (jw32 ((jw32 (20 + (jw32 (16 * x2)))) + 7)) ∧ g276 = g270) ∧ (∀ j : Int, j ≠ (jw32 ((jw32 (20 + (jw32 (16 * x2)))) + 7)) → g276 224 j = g270 224 j) := zt275
              have jct275 := (jk_pr (by omega) (by omega) _).1 zt275.1
              have jst275 : g276 224 0 = g270 224 0 := zt275.2.2.2 0 (by omega)
              clear zt275
              refine st_si jo_190 (show 0 ≤ x2 by omega) (show x2 < ((16 : Nat) : Int) by omega) (fun hx => (jba_190 _ _).2 (show 0 ≤ t275 ∧ t275 ≤ 99 by omega)) (fun g277 eg277 => ?_)
              replace eg277 : g277 = jup g276 190 x2 t275 := eg277
              have fg277 : jfr w_X12_aside h g277 := jfr_up fg276 eg277 (by unfold w_X12_aside; omega)
              have e278 : g277 190 x2 = t275 := jup_s eg277
              show jGo E l 149 229 229 _ 307 [.inr (.inr (.inl 176)), .inl a1, .inl x2, .inl (jw32 (20 + (jw32 (16 * x2)))), .inl 0] [] 229 jr0 g277
              have e279 : g277 224 0 = g276 224 0 := jup_o eg277 (by omega)
              have e280 : g270 224 0 = g269 224 0 := jup_o eg270 (by omega)
              have e281 : g263 224 0 = g262 224 0 := jup_o eg263 (by omega)
              have e282 : g256 224 0 = g191 224 0 := jup_o eg256 (by omega)
              have e283 : g55 224 0 = g54 224 0 := jup_o eg55 (by omega)
              have e284 : g48 224 0 = g47 224 0 := jup_o eg48 (by omega)
              have e285 : g41 224 0 = g40 224 0 := jup_o eg41 (by omega)
              have e286 : g34 224 0 = g33 224 0 := jup_o eg34 (by omega)
              have e287 : g277 176 0 = g276 176 0 := jup_o eg277 (by omega)
              have e288 : g276 176 0 = g270 176 0 := ft275 176 0 (by unfold w_X12_swap; omega)
              have e289 : g270 176 0 = g269 176 0 := jup_o eg270 (by omega)
              have e290 : g269 176 0 = g263 176 0 := ft268 176 0 (by unfold w_X12_swap; omega)
              have e291 : g263 176 0 = g262 176 0 := jup_o eg263 (by omega)
              have e292 : g262 176 0 = g256 176 0 := ft261 176 0 (by unfold w_X12_swap; omega)
              have e293 : g256 176 0 = g191 176 0 := jup_o eg256 (by omega)
              have e294 : g191 176 0 = g55 176 0 := ft190 176 0 (by unfold w_X12_swap; omega)
              have e295 : g55 176 0 = g54 176 0 := jup_o eg55 (by omega)
              have e296 : g54 176 0 = g48 176 0 := ft53 176 0 (by unfold w_X12_swap; omega)
              have e297 : g48 176 0 = g47 176 0 := jup_o eg48 (by omega)
              have e298 : g47 176 0 = g41 176 0 := ft46 176 0 (by unfold w_X12_swap; omega)
              have e299 : g41 176 0 = g40 176 0 := jup_o eg41 (by omega)
              have e300 : g40 176 0 = g34 176 0 := ft39 176 0 (by unfold w_X12_swap; omega)
              have e301 : g34 176 0 = g33 176 0 := jup_o eg34 (by omega)
              have e302 : g33 176 0 = g 176 0 := ft32 176 0 (by unfold w_X12_swap; omega)
              have e303 : g277 176 0 = g276 176 0 := jup_o eg277 (by omega)
              have e304 : g276 176 0 = g270 176 0 := ft275 176 0 (by unfold w_X12_swap; omega)
              have e305 : g270 176 0 = g269 176 0 := jup_o eg270 (by omega)
              have e306 : g269 176 0 = g263 176 0 := ft268 176 0 (by unfold w_X12_swap; omega)
              have e307 : g263 176 0 = g262 176 0 := jup_o eg263 (by omega)
              have e308 : g262 176 0 = g256 176 0 := ft261 176 0 (by unfold w_X12_swap; omega)
              have e309 : g256 176 0 = g191 176 0 := jup_o eg256 (by omega)
              have e310 : g191 176 0 = g55 176 0 := ft190 176 0 (by unfold w_X12_swap; omega)
              have e311 : g55 176 0 = g54 176 0 := jup_o eg55 (by omega)
              have e312 : g54 176 0 = g48 176 0 := ft53 176 0 (by unfold w_X12_swap; omega)
              have e313 : g48 176 0 = g47 176 0 := jup_o eg48 (by omega)
              have e314 : g47 176 0 = g41 176 0 := ft46 176 0 (by unfold w_X12_swap; omega)
              have e315 : g41 176 0 = g40 176 0 := jup_o eg41 (by omega)
              have e316 : g40 176 0 = g34 176 0 := ft39 176 0 (by unfold w_X12_swap; omega)
              have e317 : g34 176 0 = g33 176 0 := jup_o eg34 (by omega)
              have e318 : g33 176 0 = g 176 0 := ft32 176 0 (by unfold w_X12_swap; omega)
              exact ih.2.2.1 x2 (jw32 (20 + (jw32 (16 * x2)))) 0 g277 (by omega) (by omega) (by omega) fg277 (by omega)
      · intro x2 x3 x4 g hi hx0 hx1 hf hN
        refine jGo_blk qX12_aside_307 ?_
        refine And.intro (fun c319 => ?_) (fun c319 => ?_)
        · replace c319 : 6 ≤ x4 := c319
          show jGo E l 149 229 229 _ 356 [.inr (.inr (.inl 176)), .inl a1, .inl x2, .inl x3, .inl x4] [] 229 jr0 g
          refine jGo_blk qX12_aside_356 ?_
          have e320 : jw32 (x2 + 1) = x2 + 1 := j32e (by omega) (by omega)
          show jGo E l 149 229 229 _ 113 [.inr (.inr (.inl 176)), .inl a1, .inl (jw32 (x2 + 1)), .inl x3, .inl x4] [] 229 jr0 g
          exact ih.2.1 (jw32 (x2 + 1)) (.inl x3) (.inl x4) g (by omega) (by omega) hf (by omega)
        · replace c319 : x4 < 6 := by first | exact c319 | exact Int.not_le.mp c319 | exact Int.not_lt.mp c319 | exact Decidable.not_not.mp c319
          refine st_gr jo_176 jr_176_25 ?_
          have e321 : jw32 (6 * x2) = 6 * x2 := j32e (by omega) (by omega)
          have e322 : jw32 ((jw32 (6 * x2)) + x4) = (jw32 (6 * x2)) + x4 := j32e (by omega) (by omega)
          have e323 : jw32 (x3 + 8) = x3 + 8 := j32e (by omega) (by omega)
          have e324 : jw32 ((jw32 (x3 + 8)) + x4) = (jw32 (x3 + 8)) + x4 := j32e (by omega) (by omega)
          refine st_gr jo_176 jr_176_25 ?_
          have e325 : jw32 (6 * x2) = 6 * x2 := j32e (by omega) (by omega)
          have e326 : jw32 ((jw32 (6 * x2)) + x4) = (jw32 (6 * x2)) + x4 := j32e (by omega) (by omega)
          refine st_ai jo_199 (show 0 ≤ jw32 ((jw32 (6 * x2)) + x4) by omega) (show jw32 ((jw32 (6 * x2)) + x4) < ((96 : Nat) : Int) by omega) (fun v327 ev327 b328 => ?_)
          replace ev327 : v327 = g 199 (jw32 ((jw32 (6 * x2)) + x4)) := ev327
          replace b328 := (jba_199 (jw32 ((jw32 (6 * x2)) + x4)) _).1 b328
          refine st_cv (na := 3) (st := [.inl a1, .inl v327, .inl (jw32 ((jw32 (x3 + 8)) + x4)), .inr (.inr (.inl 176)), .inl (jw32 ((jw32 (6 * x2)) + x4)), .inr (.inr (.inl 199))]) jo_176 rfl rfl rfl (c_X12_swap (jw32 ((jw32 (x3 + 8)) + x4)) v327 a1 g (by omega) (by omega) (fun hx => (jk_df (by omega) (by omega) (by omega) _).2 hx)) rfl ?_
          rintro _ _ g330 ⟨rfl, ft329, t329, rfl, ht329, zt329⟩ kt329
          replace kt329 : -2147483648 ≤ t329 ∧ t329 ≤ 2147483647 := kt329
          have fg330 : jfr w_X12_aside h g330 := jfr_tr hf ft329 (fun i k q => by unfold w_X12_swap at q; unfold w_X12_aside; omega)
          replace zt329 : jbd 224 (jw32 ((jw32 (x3 + 8)) + x4)) t329 ∧ (a1 = 0 → t329 = v327 ∧ g330 = jup g 224 (jw32 ((jw32 (x3 + 8)) + x4)) v327) ∧ (¬ a1 = 0 → t329 = g 224 (jw32 ((jw32 (x3 + 8)) + x4)) ∧ g330 = g) ∧ (∀ j : Int, j ≠ (jw32 ((jw32 (x3 + 8)) + x4)) → g330 224 j = g 224 j) := zt329
          have jst329 : g330 224 0 = g 224 0 := zt329.2.2.2 0 (by omega)
          clear zt329
          refine st_si jo_199 (show 0 ≤ jw32 ((jw32 (6 * x2)) + x4) by omega) (show jw32 ((jw32 (6 * x2)) + x4) < ((96 : Nat) : Int) by omega) (fun hx => (jba_199 _ _).2 hx) (fun g331 eg331 => ?_)
          replace eg331 : g331 = jup g330 199 (jw32 ((jw32 (6 * x2)) + x4)) t329 := eg331
          have fg331 : jfr w_X12_aside h g331 := jfr_up fg330 eg331 (by unfold w_X12_aside; omega)
          have e332 : g331 199 (jw32 ((jw32 (6 * x2)) + x4)) = t329 := jup_s eg331
          have e333 : jw32 (x4 + 1) = x4 + 1 := j32e (by omega) (by omega)
          show jGo E l 149 229 229 _ 307 [.inr (.inr (.inl 176)), .inl a1, .inl x2, .inl x3, .inl (jw32 (x4 + 1))] [] 229 jr0 g331
          have e334 : g331 224 0 = g330 224 0 := jup_o eg331 (by omega)
          have e335 : g331 176 0 = g330 176 0 := jup_o eg331 (by omega)
          have e336 : g330 176 0 = g 176 0 := ft329 176 0 (by unfold w_X12_swap; omega)
          have e337 : g331 176 0 = g330 176 0 := jup_o eg331 (by omega)
          have e338 : g330 176 0 = g 176 0 := ft329 176 0 (by unfold w_X12_swap; omega)
          exact ih.2.2.1 x2 x3 (jw32 (x4 + 1)) g331 (by omega) (by omega) (by omega) fg331 (by omega)
      · intro x2 x3 x4 g hi hx0 hf hN
        refine jGo_blk qX12_aside_364 ?_
        refine And.intro (fun c339 => ?_) (fun c339 => ?_)
        · replace c339 : 96 ≤ x2 := c339
          show jGo E l 149 229 229 _ 413 [.inr (.inr (.inl 176)), .inl a1, .inl x2, x3, x4] [] 229 jr0 g
          refine jGo_blk qX12_aside_413 ?_
          exact ⟨rfl, rfl, hf, rfl, (by omega)⟩
        · replace c339 : x2 < 96 := by first | exact c339 | exact Int.not_le.mp c339 | exact Int.not_lt.mp c339 | exact Decidable.not_not.mp c339
          refine st_gr jo_176 jr_176_60 ?_
          refine And.intro (fun c340 => ?_) (fun c340 => ?_)
          · replace c340 : a1 = 0 := c340
            show jGo E l 149 229 229 _ 388 [.inr (.inr (.inl 176)), .inl a1, .inl x2, x3, x4] [.inl x2, .inr (.inr (.inl 225))] 229 jr0 g
            refine jGo_blk qX12_aside_388 ?_
            refine st_gr jo_176 jr_176_26 ?_
            refine st_ai jo_200 (show 0 ≤ x2 by omega) (show x2 < ((96 : Nat) : Int) by omega) (fun v341 ev341 b342 => ?_)
            replace ev341 : v341 = g 200 x2 := ev341
            replace b342 := (jba_200 x2 _).1 b342
            show jGo E l 149 229 229 _ 394 [.inr (.inr (.inl 176)), .inl a1, .inl x2, x3, x4] [.inl v341, .inl x2, .inr (.inr (.inl 225))] 229 jr0 g
            refine jGo_blk qX12_aside_394 ?_
            refine st_si jo_225 (show 0 ≤ x2 by omega) (show x2 < ((96 : Nat) : Int) by omega) (fun hx => (jba_225 _ _).2 hx) (fun g343 eg343 => ?_)
            replace eg343 : g343 = jup g 225 x2 v341 := eg343
            have fg343 : jfr w_X12_aside h g343 := jfr_up hf eg343 (by unfold w_X12_aside; omega)
            have e344 : g343 225 x2 = v341 := jup_s eg343
            refine st_gr jo_176 jr_176_26 ?_
            refine st_gr jo_176 jr_176_60 ?_
            refine st_ai jo_225 (show 0 ≤ x2 by omega) (show x2 < ((96 : Nat) : Int) by omega) (fun v345 ev345 b346 => ?_)
            replace ev345 : v345 = g343 225 x2 := ev345
            replace b346 := (jba_225 x2 _).1 b346
            refine st_si jo_200 (show 0 ≤ x2 by omega) (show x2 < ((96 : Nat) : Int) by omega) (fun hx => (jba_200 _ _).2 hx) (fun g347 eg347 => ?_)
            replace eg347 : g347 = jup g343 200 x2 v345 := eg347
            have fg347 : jfr w_X12_aside h g347 := jfr_up fg343 eg347 (by unfold w_X12_aside; omega)
            have e348 : g347 200 x2 = v345 := jup_s eg347
            have e349 : jw32 (x2 + 1) = x2 + 1 := j32e (by omega) (by omega)
            show jGo E l 149 229 229 _ 364 [.inr (.inr (.inl 176)), .inl a1, .inl (jw32 (x2 + 1)), x3, x4] [] 229 jr0 g347
            have e350 : g347 224 0 = g343 224 0 := jup_o eg347 (by omega)
            have e351 : g343 224 0 = g 224 0 := jup_o eg343 (by omega)
            have e352 : g347 176 0 = g343 176 0 := jup_o eg347 (by omega)
            have e353 : g343 176 0 = g 176 0 := jup_o eg343 (by omega)
            have e354 : g347 176 0 = g343 176 0 := jup_o eg347 (by omega)
            have e355 : g343 176 0 = g 176 0 := jup_o eg343 (by omega)
            exact ih.2.2.2 (jw32 (x2 + 1)) x3 x4 g347 (by omega) (by omega) fg347 (by omega)
          · replace c340 : ¬ a1 = 0 := by first | exact c340 | exact Int.not_le.mp c340 | exact Int.not_lt.mp c340 | exact Decidable.not_not.mp c340
            refine st_gr jo_176 jr_176_60 ?_
            refine st_ai jo_225 (show 0 ≤ x2 by omega) (show x2 < ((96 : Nat) : Int) by omega) (fun v356 ev356 b357 => ?_)
            replace ev356 : v356 = g 225 x2 := ev356
            replace b357 := (jba_225 x2 _).1 b357
            show jGo E l 149 229 229 _ 394 [.inr (.inr (.inl 176)), .inl a1, .inl x2, x3, x4] [.inl v356, .inl x2, .inr (.inr (.inl 225))] 229 jr0 g
            refine jGo_blk qX12_aside_394 ?_
            refine st_si jo_225 (show 0 ≤ x2 by omega) (show x2 < ((96 : Nat) : Int) by omega) (fun hx => (jba_225 _ _).2 hx) (fun g358 eg358 => ?_)
            replace eg358 : g358 = jup g 225 x2 v356 := eg358
            have fg358 : jfr w_X12_aside h g358 := jfr_up hf eg358 (by unfold w_X12_aside; omega)
            have e359 : g358 225 x2 = v356 := jup_s eg358
            refine st_gr jo_176 jr_176_26 ?_
            refine st_gr jo_176 jr_176_60 ?_
            refine st_ai jo_225 (show 0 ≤ x2 by omega) (show x2 < ((96 : Nat) : Int) by omega) (fun v360 ev360 b361 => ?_)
            replace ev360 : v360 = g358 225 x2 := ev360
            replace b361 := (jba_225 x2 _).1 b361
            refine st_si jo_200 (show 0 ≤ x2 by omega) (show x2 < ((96 : Nat) : Int) by omega) (fun hx => (jba_200 _ _).2 hx) (fun g362 eg362 => ?_)
            replace eg362 : g362 = jup g358 200 x2 v360 := eg362
            have fg362 : jfr w_X12_aside h g362 := jfr_up fg358 eg362 (by unfold w_X12_aside; omega)
            have e363 : g362 200 x2 = v360 := jup_s eg362
            have e364 : jw32 (x2 + 1) = x2 + 1 := j32e (by omega) (by omega)
            show jGo E l 149 229 229 _ 364 [.inr (.inr (.inl 176)), .inl a1, .inl (jw32 (x2 + 1)), x3, x4] [] 229 jr0 g362
            have e365 : g362 224 0 = g358 224 0 := jup_o eg362 (by omega)
            have e366 : g358 224 0 = g 224 0 := jup_o eg358 (by omega)
            have e367 : g362 176 0 = g358 176 0 := jup_o eg362 (by omega)
            have e368 : g358 176 0 = g 176 0 := jup_o eg358 (by omega)
            have e369 : g362 176 0 = g358 176 0 := jup_o eg362 (by omega)
            have e370 : g358 176 0 = g 176 0 := jup_o eg358 (by omega)
            exact ih.2.2.2 (jw32 (x2 + 1)) x3 x4 g362 (by omega) (by omega) fg362 (by omega)
  refine jGo_blk qX12_aside_0 ?_
  refine st_gi jo_176 (fun v371 ev371 b372 => ?_)
  replace ev371 : v371 = h 176 0 := ev371
  replace b372 := (jbf_12_0 jo_176 _).1 b372
  refine st_cv (na := 3) (st := [.inl a1, .inl v371, .inl 0, .inr (.inr (.inl 176)), .inr (.inr (.inl 176))]) jo_176 rfl rfl rfl (c_X12_swap 0 v371 a1 h (by omega) (by omega) (fun hx => (jk_day _).2 (by omega))) rfl ?_
  rintro _ _ g374 ⟨rfl, ft373, t373, rfl, ht373, zt373⟩ kt373
  replace kt373 : -2147483648 ≤ t373 ∧ t373 ≤ 2147483647 := kt373
  have fg374 : jfr w_X12_aside h g374 := jfr_tr f0 ft373 (fun i k q => by unfold w_X12_swap at q; unfold w_X12_aside; omega)
  replace zt373 : jbd 224 (0 : Int) t373 ∧ (a1 = 0 → t373 = v371 ∧ g374 = jup h 224 (0 : Int) v371) ∧ (¬ a1 = 0 → t373 = h 224 (0 : Int) ∧ g374 = h) ∧ (∀ j : Int, j ≠ (0 : Int) → g374 224 j = h 224 j) := zt373
  have jct373 := (jk_day _).1 zt373.1
  have jdt373 : (a1 = 0 → t373 = v371 ∧ g374 224 0 = v371) ∧ (¬ a1 = 0 → t373 = h 224 0) := ⟨fun q => ⟨(zt373.2.1 q).1, jup_s (zt373.2.1 q).2⟩, fun q => (zt373.2.2.1 q).1⟩
  clear zt373
  refine st_pi jo_176 (fun hx => (jbf_12_0 jo_176 _).2 (show 0 ≤ t373 ∧ t373 ≤ 2300 by omega)) (fun g375 eg375 => ?_)
  replace eg375 : g375 = jup g374 176 0 t373 := eg375
  have fg375 : jfr w_X12_aside h g375 := jfr_up fg374 eg375 (by unfold w_X12_aside; omega)
  have e376 : g375 176 0 = t373 := jup_s eg375
  refine st_gi jo_176 (fun v377 ev377 b378 => ?_)
  replace ev377 : v377 = g375 176 30 := ev377
  replace b378 := (jbf_12_30 jo_176 _).1 b378
  have e379 : g375 176 30 = g374 176 30 := jup_o eg375 (by omega)
  have e380 : g374 176 30 = h 176 30 := ft373 176 30 (by unfold w_X12_swap; omega)
  refine st_cv (na := 3) (st := [.inl a1, .inl v377, .inl 1, .inr (.inr (.inl 176)), .inr (.inr (.inl 176))]) jo_176 rfl rfl rfl (c_X12_swap 1 v377 a1 g375 (by omega) (by omega) (fun hx => (jk_df (by omega) (by omega) (by omega) _).2 hx)) rfl ?_
  rintro _ _ g382 ⟨rfl, ft381, t381, rfl, ht381, zt381⟩ kt381
  replace kt381 : -2147483648 ≤ t381 ∧ t381 ≤ 2147483647 := kt381
  have fg382 : jfr w_X12_aside h g382 := jfr_tr fg375 ft381 (fun i k q => by unfold w_X12_swap at q; unfold w_X12_aside; omega)
  replace zt381 : jbd 224 (1 : Int) t381 ∧ (a1 = 0 → t381 = v377 ∧ g382 = jup g375 224 (1 : Int) v377) ∧ (¬ a1 = 0 → t381 = g375 224 (1 : Int) ∧ g382 = g375) ∧ (∀ j : Int, j ≠ (1 : Int) → g382 224 j = g375 224 j) := zt381
  have jst381 : g382 224 0 = g375 224 0 := zt381.2.2.2 0 (by omega)
  clear zt381
  refine st_pi jo_176 (fun hx => (jbf_12_30 jo_176 _).2 hx) (fun g383 eg383 => ?_)
  replace eg383 : g383 = jup g382 176 30 t381 := eg383
  have fg383 : jfr w_X12_aside h g383 := jfr_up fg382 eg383 (by unfold w_X12_aside; omega)
  have e384 : g383 176 30 = t381 := jup_s eg383
  refine st_gi jo_176 (fun v385 ev385 b386 => ?_)
  replace ev385 : v385 = g383 176 31 := ev385
  replace b386 := (jbf_12_31 jo_176 _).1 b386
  have e387 : g383 176 31 = g382 176 31 := jup_o eg383 (by omega)
  have e388 : g382 176 31 = g375 176 31 := ft381 176 31 (by unfold w_X12_swap; omega)
  have e389 : g375 176 31 = g374 176 31 := jup_o eg375 (by omega)
  have e390 : g374 176 31 = h 176 31 := ft373 176 31 (by unfold w_X12_swap; omega)
  refine st_cv (na := 3) (st := [.inl a1, .inl v385, .inl 2, .inr (.inr (.inl 176)), .inr (.inr (.inl 176))]) jo_176 rfl rfl rfl (c_X12_swap 2 v385 a1 g383 (by omega) (by omega) (fun hx => (jk_df (by omega) (by omega) (by omega) _).2 hx)) rfl ?_
  rintro _ _ g392 ⟨rfl, ft391, t391, rfl, ht391, zt391⟩ kt391
  replace kt391 : -2147483648 ≤ t391 ∧ t391 ≤ 2147483647 := kt391
  have fg392 : jfr w_X12_aside h g392 := jfr_tr fg383 ft391 (fun i k q => by unfold w_X12_swap at q; unfold w_X12_aside; omega)
  replace zt391 : jbd 224 (2 : Int) t391 ∧ (a1 = 0 → t391 = v385 ∧ g392 = jup g383 224 (2 : Int) v385) ∧ (¬ a1 = 0 → t391 = g383 224 (2 : Int) ∧ g392 = g383) ∧ (∀ j : Int, j ≠ (2 : Int) → g392 224 j = g383 224 j) := zt391
  have jst391 : g392 224 0 = g383 224 0 := zt391.2.2.2 0 (by omega)
  clear zt391
  refine st_pi jo_176 (fun hx => (jbf_12_31 jo_176 _).2 hx) (fun g393 eg393 => ?_)
  replace eg393 : g393 = jup g392 176 31 t391 := eg393
  have fg393 : jfr w_X12_aside h g393 := jfr_up fg392 eg393 (by unfold w_X12_aside; omega)
  have e394 : g393 176 31 = t391 := jup_s eg393
  refine st_gi jo_176 (fun v395 ev395 b396 => ?_)
  replace ev395 : v395 = g393 176 32 := ev395
  replace b396 := (jbf_12_32 jo_176 _).1 b396
  have e397 : g393 176 32 = g392 176 32 := jup_o eg393 (by omega)
  have e398 : g392 176 32 = g383 176 32 := ft391 176 32 (by unfold w_X12_swap; omega)
  have e399 : g383 176 32 = g382 176 32 := jup_o eg383 (by omega)
  have e400 : g382 176 32 = g375 176 32 := ft381 176 32 (by unfold w_X12_swap; omega)
  have e401 : g375 176 32 = g374 176 32 := jup_o eg375 (by omega)
  have e402 : g374 176 32 = h 176 32 := ft373 176 32 (by unfold w_X12_swap; omega)
  refine st_cv (na := 3) (st := [.inl a1, .inl v395, .inl 3, .inr (.inr (.inl 176)), .inr (.inr (.inl 176))]) jo_176 rfl rfl rfl (c_X12_swap 3 v395 a1 g393 (by omega) (by omega) (fun hx => (jk_df (by omega) (by omega) (by omega) _).2 hx)) rfl ?_
  rintro _ _ g404 ⟨rfl, ft403, t403, rfl, ht403, zt403⟩ kt403
  replace kt403 : -2147483648 ≤ t403 ∧ t403 ≤ 2147483647 := kt403
  have fg404 : jfr w_X12_aside h g404 := jfr_tr fg393 ft403 (fun i k q => by unfold w_X12_swap at q; unfold w_X12_aside; omega)
  replace zt403 : jbd 224 (3 : Int) t403 ∧ (a1 = 0 → t403 = v395 ∧ g404 = jup g393 224 (3 : Int) v395) ∧ (¬ a1 = 0 → t403 = g393 224 (3 : Int) ∧ g404 = g393) ∧ (∀ j : Int, j ≠ (3 : Int) → g404 224 j = g393 224 j) := zt403
  have jst403 : g404 224 0 = g393 224 0 := zt403.2.2.2 0 (by omega)
  clear zt403
  refine st_pi jo_176 (fun hx => (jbf_12_32 jo_176 _).2 hx) (fun g405 eg405 => ?_)
  replace eg405 : g405 = jup g404 176 32 t403 := eg405
  have fg405 : jfr w_X12_aside h g405 := jfr_up fg404 eg405 (by unfold w_X12_aside; omega)
  have e406 : g405 176 32 = t403 := jup_s eg405
  show jGo E l 149 229 229 _ 58 [.inr (.inr (.inl 176)), .inl a1, .inl 0, .inr (.inr (.inr ())), .inr (.inr (.inr ()))] [] 229 jr0 g405
  have e407 : g405 224 0 = g404 224 0 := jup_o eg405 (by omega)
  have e408 : g393 224 0 = g392 224 0 := jup_o eg393 (by omega)
  have e409 : g383 224 0 = g382 224 0 := jup_o eg383 (by omega)
  have e410 : g375 224 0 = g374 224 0 := jup_o eg375 (by omega)
  have e411 : g405 176 0 = g404 176 0 := jup_o eg405 (by omega)
  have e412 : g404 176 0 = g393 176 0 := ft403 176 0 (by unfold w_X12_swap; omega)
  have e413 : g393 176 0 = g392 176 0 := jup_o eg393 (by omega)
  have e414 : g392 176 0 = g383 176 0 := ft391 176 0 (by unfold w_X12_swap; omega)
  have e415 : g383 176 0 = g382 176 0 := jup_o eg383 (by omega)
  have e416 : g382 176 0 = g375 176 0 := ft381 176 0 (by unfold w_X12_swap; omega)
  have e417 : g405 176 0 = g404 176 0 := jup_o eg405 (by omega)
  have e418 : g404 176 0 = g393 176 0 := ft403 176 0 (by unfold w_X12_swap; omega)
  have e419 : g393 176 0 = g392 176 0 := jup_o eg393 (by omega)
  have e420 : g392 176 0 = g383 176 0 := ft391 176 0 (by unfold w_X12_swap; omega)
  have e421 : g383 176 0 = g382 176 0 := jup_o eg383 (by omega)
  have e422 : g382 176 0 = g375 176 0 := ft381 176 0 (by unfold w_X12_swap; omega)
  exact (key 1000000000000000000).1 0 g405 (by omega) (by omega) fg405 (by omega)
