def w_X12_aside (i k : Int) : Prop := (i = 181) ∨ (i = 190) ∨ (192 ≤ i ∧ i ≤ 200) ∨ (i = 202) ∨ (224 ≤ i ∧ i ≤ 225) ∨ (i = 176 ∧ k = 0) ∨ (i = 176 ∧ 30 ≤ k ∧ k ≤ 32)
theorem ws_X12_swap__X12_aside (i k : Int) (q : w_X12_swap i k) : w_X12_aside i k := by
  unfold w_X12_swap at q; unfold w_X12_aside
  exact (Or.inr (Or.inr (Or.inr (Or.inr (Or.inl (by omega))))))
set_option maxHeartbeats 4000000 in
theorem sg_X12_aside_241 {E : JE} {l : Launch} {RT : JR} (a1 x2 x3 u : Int) (x4 : JV) (h : JH) (p1 : a1 = 0 ∨ a1 = 1) (q2 : 0 ≤ x2 ∧ x2 ≤ 15) (q3 : x3 = 20 + 16 * x2) (q4 : u = 0 ∨ u = 1) (K : ∀ G : JH, jfr w_X12_aside h G → G = jSw a1 (20 + 16 * x2 + 7) 190 x2 (jSw a1 (20 + 16 * x2 + 6) 198 x2 (jSw a1 (20 + 16 * x2 + 5) 197 x2 (jup h 196 x2 u))) → G 224 0 = h 224 0 → G 176 0 = h 176 0 → jGo E l 149 229 229 RT 307 [.inr (.inr (.inl 176)), .inl a1, .inl x2, .inl x3, .inl 0] [] 229 jr0 G) : jGo E l 149 229 229 RT 241 [.inr (.inr (.inl 176)), .inl a1, .inl x2, .inl x3, x4] [.inl u, .inl x2, .inr (.inr (.inl 196))] 229 jr0 h := by
  have f0 : jfr w_X12_aside h h := jfr_rf _ _
  refine jGo_blk qX12_aside_241 ?_
  refine st_sb jo_196 (show 0 ≤ x2 by omega) (show x2 < ((16 : Nat) : Int) by omega) (fun hx => (jba_196 _ _).2 (show 0 ≤ u ∧ u ≤ 1 by omega)) (fun g1 eg1 => ?_)
  replace eg1 : g1 = jup h 196 x2 u := eg1
  have fg1 : jfr w_X12_aside h g1 := jfr_up f0 eg1 (by unfold w_X12_aside; omega)
  have e2 : g1 196 x2 = u := jup_s eg1
  refine st_gr jo_176 jr_176_23 ?_
  have e3 : jw32 (x3 + 5) = x3 + 5 := jzj32 (by omega)
  refine st_gr jo_176 jr_176_23 ?_
  refine st_ai jo_197 (show 0 ≤ x2 by omega) (show x2 < ((16 : Nat) : Int) by omega) (fun v4 ev4 b5 => ?_)
  replace ev4 : v4 = g1 197 x2 := ev4
  replace b5 := (jba_197 x2 _).1 b5
  refine st_cv (na := 3) (st := [.inl a1, .inl v4, .inl (jw32 (x3 + 5)), .inr (.inr (.inl 176)), .inl x2, .inr (.inr (.inl 197))]) jo_176 rfl rfl rfl (c_X12_swap (jw32 (x3 + 5)) v4 a1 g1 (by omega) (by omega) (fun hx => (jk_df (by omega) (by omega) (by omega) _).2 hx)) rfl ?_
  rintro _ _ g7 ⟨rfl, ft6, t6, rfl, ht6, zt6⟩ kt6
  replace kt6 : -2147483648 ≤ t6 ∧ t6 ≤ 2147483647 := kt6
  have fg7 : jfr w_X12_aside h g7 := jfr_tr fg1 ft6 ws_X12_swap__X12_aside
  replace zt6 : jbd 224 (jw32 (x3 + 5)) t6 ∧ (a1 = 0 → t6 = v4 ∧ g7 = jup g1 224 (jw32 (x3 + 5)) v4) ∧ (¬ a1 = 0 → t6 = g1 224 (jw32 (x3 + 5)) ∧ g7 = g1) ∧ (∀ j : Int, j ≠ (jw32 (x3 + 5)) → g7 224 j = g1 224 j) ∧ (t6 = if a1 = 0 then v4 else g1 224 (jw32 (x3 + 5))) ∧ (g7 = if a1 = 0 then jup g1 224 (jw32 (x3 + 5)) v4 else g1) := zt6
  have y8 := zt6.2.2.2.2.1
  have y9 := zt6.2.2.2.2.2
  have jst6 : g7 224 0 = g1 224 0 := zt6.2.2.2.1 0 (by omega)
  clear zt6
  refine st_si jo_197 (show 0 ≤ x2 by omega) (show x2 < ((16 : Nat) : Int) by omega) (fun hx => (jba_197 _ _).2 hx) (fun g10 eg10 => ?_)
  replace eg10 : g10 = jup g7 197 x2 t6 := eg10
  have fg10 : jfr w_X12_aside h g10 := jfr_up fg7 eg10 (by unfold w_X12_aside; omega)
  have e11 : g10 197 x2 = t6 := jup_s eg10
  rw [show jw32 (x3 + 5) = 20 + 16 * x2 + 5 by omega] at y8 y9
  have sw12 : g10 = jSw a1 (20 + 16 * x2 + 5) 197 x2 g1 := by
    unfold jSw; rw [eg10, y9, y8, ev4]
  clear y8 y9
  refine st_gr jo_176 jr_176_24 ?_
  have e13 : jw32 (x3 + 6) = x3 + 6 := jzj32 (by omega)
  refine st_gr jo_176 jr_176_24 ?_
  refine st_ai jo_198 (show 0 ≤ x2 by omega) (show x2 < ((16 : Nat) : Int) by omega) (fun v14 ev14 b15 => ?_)
  replace ev14 : v14 = g10 198 x2 := ev14
  replace b15 := (jba_198 x2 _).1 b15
  refine st_cv (na := 3) (st := [.inl a1, .inl v14, .inl (jw32 (x3 + 6)), .inr (.inr (.inl 176)), .inl x2, .inr (.inr (.inl 198))]) jo_176 rfl rfl rfl (c_X12_swap (jw32 (x3 + 6)) v14 a1 g10 (by omega) (by omega) (fun hx => (jk_df (by omega) (by omega) (by omega) _).2 hx)) rfl ?_
  rintro _ _ g17 ⟨rfl, ft16, t16, rfl, ht16, zt16⟩ kt16
  replace kt16 : -2147483648 ≤ t16 ∧ t16 ≤ 2147483647 := kt16
  have fg17 : jfr w_X12_aside h g17 := jfr_tr fg10 ft16 ws_X12_swap__X12_aside
  replace zt16 : jbd 224 (jw32 (x3 + 6)) t16 ∧ (a1 = 0 → t16 = v14 ∧ g17 = jup g10 224 (jw32 (x3 + 6)) v14) ∧ (¬ a1 = 0 → t16 = g10 224 (jw32 (x3 + 6)) ∧ g17 = g10) ∧ (∀ j : Int, j ≠ (jw32 (x3 + 6)) → g17 224 j = g10 224 j) ∧ (t16 = if a1 = 0 then v14 else g10 224 (jw32 (x3 + 6))) ∧ (g17 = if a1 = 0 then jup g10 224 (jw32 (x3 + 6)) v14 else g10) := zt16
  have y18 := zt16.2.2.2.2.1
  have y19 := zt16.2.2.2.2.2
  have jst16 : g17 224 0 = g10 224 0 := zt16.2.2.2.1 0 (by omega)
  clear zt16
  refine st_si jo_198 (show 0 ≤ x2 by omega) (show x2 < ((16 : Nat) : Int) by omega) (fun hx => (jba_198 _ _).2 hx) (fun g20 eg20 => ?_)
  replace eg20 : g20 = jup g17 198 x2 t16 := eg20
  have fg20 : jfr w_X12_aside h g20 := jfr_up fg17 eg20 (by unfold w_X12_aside; omega)
  have e21 : g20 198 x2 = t16 := jup_s eg20
  rw [show jw32 (x3 + 6) = 20 + 16 * x2 + 6 by omega] at y18 y19
  have sw22 : g20 = jSw a1 (20 + 16 * x2 + 6) 198 x2 g10 := by
    unfold jSw; rw [eg20, y19, y18, ev14]
  clear y18 y19
  refine st_gr jo_176 jr_176_16 ?_
  have e23 : jw32 (x3 + 7) = x3 + 7 := jzj32 (by omega)
  refine st_gr jo_176 jr_176_16 ?_
  refine st_ai jo_190 (show 0 ≤ x2 by omega) (show x2 < ((16 : Nat) : Int) by omega) (fun v24 ev24 b25 => ?_)
  replace ev24 : v24 = g20 190 x2 := ev24
  replace b25 := (jba_190 x2 _).1 b25
  refine st_cv (na := 3) (st := [.inl a1, .inl v24, .inl (jw32 (x3 + 7)), .inr (.inr (.inl 176)), .inl x2, .inr (.inr (.inl 190))]) jo_176 rfl rfl rfl (c_X12_swap (jw32 (x3 + 7)) v24 a1 g20 (by omega) (by omega) (fun hx => (jk_pr (by omega) (by omega) _).2 (by omega))) rfl ?_
  rintro _ _ g27 ⟨rfl, ft26, t26, rfl, ht26, zt26⟩ kt26
  replace kt26 : -2147483648 ≤ t26 ∧ t26 ≤ 2147483647 := kt26
  have fg27 : jfr w_X12_aside h g27 := jfr_tr fg20 ft26 ws_X12_swap__X12_aside
  replace zt26 : jbd 224 (jw32 (x3 + 7)) t26 ∧ (a1 = 0 → t26 = v24 ∧ g27 = jup g20 224 (jw32 (x3 + 7)) v24) ∧ (¬ a1 = 0 → t26 = g20 224 (jw32 (x3 + 7)) ∧ g27 = g20) ∧ (∀ j : Int, j ≠ (jw32 (x3 + 7)) → g27 224 j = g20 224 j) ∧ (t26 = if a1 = 0 then v24 else g20 224 (jw32 (x3 + 7))) ∧ (g27 = if a1 = 0 then jup g20 224 (jw32 (x3 + 7)) v24 else g20) := zt26
  have y28 := zt26.2.2.2.2.1
  have y29 := zt26.2.2.2.2.2
  have jct26 := (jk_pr (by omega) (by omega) _).1 zt26.1
  have jst26 : g27 224 0 = g20 224 0 := zt26.2.2.2.1 0 (by omega)
  clear zt26
  refine st_si jo_190 (show 0 ≤ x2 by omega) (show x2 < ((16 : Nat) : Int) by omega) (fun hx => (jba_190 _ _).2 (show 0 ≤ t26 ∧ t26 ≤ 99 by omega)) (fun g30 eg30 => ?_)
  replace eg30 : g30 = jup g27 190 x2 t26 := eg30
  have fg30 : jfr w_X12_aside h g30 := jfr_up fg27 eg30 (by unfold w_X12_aside; omega)
  have e31 : g30 190 x2 = t26 := jup_s eg30
  rw [show jw32 (x3 + 7) = 20 + 16 * x2 + 7 by omega] at y28 y29
  have sw32 : g30 = jSw a1 (20 + 16 * x2 + 7) 190 x2 g20 := by
    unfold jSw; rw [eg30, y29, y28, ev24]
  clear y28 y29
  show jGo E l 149 229 229 _ 307 [.inr (.inr (.inl 176)), .inl a1, .inl x2, .inl x3, .inl 0] [] 229 jr0 g30
  have e33 : g30 176 0 = g27 176 0 := jup_o eg30 (by first | exact fun q => absurd q.1 (by decide) | exact fun q => absurd q.2 (by decide) | omega)
  have e34 : g27 176 0 = g20 176 0 := ft26 176 0 (by unfold w_X12_swap; omega)
  have e35 : g20 176 0 = g17 176 0 := jup_o eg20 (by first | exact fun q => absurd q.1 (by decide) | exact fun q => absurd q.2 (by decide) | omega)
  have e36 : g17 176 0 = g10 176 0 := ft16 176 0 (by unfold w_X12_swap; omega)
  have e37 : g10 176 0 = g7 176 0 := jup_o eg10 (by first | exact fun q => absurd q.1 (by decide) | exact fun q => absurd q.2 (by decide) | omega)
  have e38 : g7 176 0 = g1 176 0 := ft6 176 0 (by unfold w_X12_swap; omega)
  have e39 : g1 176 0 = h 176 0 := jup_o eg1 (by first | exact fun q => absurd q.1 (by decide) | exact fun q => absurd q.2 (by decide) | omega)
  have e40 : g30 224 0 = g27 224 0 := jup_o eg30 (by first | exact fun q => absurd q.1 (by decide) | exact fun q => absurd q.2 (by decide) | omega)
  have e41 : g20 224 0 = g17 224 0 := jup_o eg20 (by first | exact fun q => absurd q.1 (by decide) | exact fun q => absurd q.2 (by decide) | omega)
  have e42 : g10 224 0 = g7 224 0 := jup_o eg10 (by first | exact fun q => absurd q.1 (by decide) | exact fun q => absurd q.2 (by decide) | omega)
  have e43 : g1 224 0 = h 224 0 := jup_o eg1 (by first | exact fun q => absurd q.1 (by decide) | exact fun q => absurd q.2 (by decide) | omega)
  exact K g30 fg30 (by rw [sw32, sw22, sw12, eg1]) (by omega) (by omega)
set_option maxHeartbeats 4000000 in
theorem sg_X12_aside_228 {E : JE} {l : Launch} {RT : JR} (a1 x2 x3 i4 v : Int) (x4 : JV) (h : JH) (p1 : a1 = 0 ∨ a1 = 1) (q2 : 0 ≤ x2 ∧ x2 ≤ 15) (q3 : x3 = 20 + 16 * x2) (q4 : i4 = 20 + 16 * x2 + 4) (qv : v = if h 196 x2 = 0 then 0 else 1) (K : ∀ G : JH, jfr w_X12_aside h G → G = jSw a1 (20 + 16 * x2 + 7) 190 x2 (jSw a1 (20 + 16 * x2 + 6) 198 x2 (jSw a1 (20 + 16 * x2 + 5) 197 x2 (jSh a1 (20 + 16 * x2 + 4) x2 h))) → G 224 0 = h 224 0 → G 176 0 = h 176 0 → jGo E l 149 229 229 RT 307 [.inr (.inr (.inl 176)), .inl a1, .inl x2, .inl x3, .inl 0] [] 229 jr0 G) : jGo E l 149 229 229 RT 228 [.inr (.inr (.inl 176)), .inl a1, .inl x2, .inl x3, x4] [.inl v, .inl i4, .inr (.inr (.inl 176)), .inl x2, .inr (.inr (.inl 196))] 229 jr0 h := by
  have f0 : jfr w_X12_aside h h := jfr_rf _ _
  have v01 : v = 0 ∨ v = 1 := by rw [qv]; by_cases z : h 196 x2 = 0; exact Or.inl (if_pos z); exact Or.inr (if_neg z)
  refine jGo_blk qX12_aside_228 ?_
  refine st_cv (na := 3) (st := [.inl a1, .inl v, .inl i4, .inr (.inr (.inl 176)), .inl x2, .inr (.inr (.inl 196))]) jo_176 rfl rfl rfl (c_X12_swap i4 v a1 h (by omega) (by omega) (fun hx => (jk_df (by omega) (by omega) (by omega) _).2 hx)) rfl ?_
  rintro _ _ g2 ⟨rfl, ft1, t1, rfl, ht1, zt1⟩ kt1
  replace kt1 : -2147483648 ≤ t1 ∧ t1 ≤ 2147483647 := kt1
  have fg2 : jfr w_X12_aside h g2 := jfr_tr f0 ft1 ws_X12_swap__X12_aside
  replace zt1 : jbd 224 i4 t1 ∧ (a1 = 0 → t1 = v ∧ g2 = jup h 224 i4 v) ∧ (¬ a1 = 0 → t1 = h 224 i4 ∧ g2 = h) ∧ (∀ j : Int, j ≠ i4 → g2 224 j = h 224 j) ∧ (t1 = if a1 = 0 then v else h 224 i4) ∧ (g2 = if a1 = 0 then jup h 224 i4 v else h) := zt1
  have y3 := zt1.2.2.2.2.1
  have y4 := zt1.2.2.2.2.2
  have jst1 : g2 224 0 = h 224 0 := zt1.2.2.2.1 0 (by omega)
  clear zt1
  refine And.intro (fun c5 => ?_) (fun c5 => ?_)
  · replace c5 : ¬ t1 = 1 := c5
    show jGo E l 149 229 229 _ 240 [.inr (.inr (.inl 176)), .inl a1, .inl x2, .inl x3, x4] [.inl x2, .inr (.inr (.inl 196))] 229 jr0 g2
    refine jGo_blk qX12_aside_240 ?_
    show jGo E l 149 229 229 _ 241 [.inr (.inr (.inl 176)), .inl a1, .inl x2, .inl x3, x4] [.inl 0, .inl x2, .inr (.inr (.inl 196))] 229 jr0 g2
    have e6 : g2 176 0 = h 176 0 := ft1 176 0 (by unfold w_X12_swap; omega)
    refine sg_X12_aside_241 a1 x2 x3 0 x4 g2 p1 q2 q3 (by omega) (fun G fG eG k1 k2 => ?_)
    refine K G (jfr_tr fg2 fG (fun i k q => q)) (eG.trans ?_) (by omega) (by omega)
    have w9 : jup g2 196 x2 0 = jSh a1 (20 + 16 * x2 + 4) x2 h := by
      rw [show i4 = 20 + 16 * x2 + 4 by omega] at y3 y4
      have z2 : (if (if a1 = 0 then v else h 224 (20 + 16 * x2 + 4)) = 1 then (1 : Int) else 0) = 0 := by rw [← y3]; first | exact if_pos (by omega) | exact if_neg (by omega)
      unfold jSh; rw [← qv, z2, y4]
    rw [w9]
  · replace c5 : t1 = 1 := by first | exact c5 | exact Int.not_le.mp c5 | exact Int.not_lt.mp c5 | exact Decidable.not_not.mp c5
    show jGo E l 149 229 229 _ 241 [.inr (.inr (.inl 176)), .inl a1, .inl x2, .inl x3, x4] [.inl 1, .inl x2, .inr (.inr (.inl 196))] 229 jr0 g2
    have e7 : g2 176 0 = h 176 0 := ft1 176 0 (by unfold w_X12_swap; omega)
    refine sg_X12_aside_241 a1 x2 x3 1 x4 g2 p1 q2 q3 (by omega) (fun G fG eG k1 k2 => ?_)
    refine K G (jfr_tr fg2 fG (fun i k q => q)) (eG.trans ?_) (by omega) (by omega)
    have w9 : jup g2 196 x2 1 = jSh a1 (20 + 16 * x2 + 4) x2 h := by
      rw [show i4 = 20 + 16 * x2 + 4 by omega] at y3 y4
      have z2 : (if (if a1 = 0 then v else h 224 (20 + 16 * x2 + 4)) = 1 then (1 : Int) else 0) = 1 := by rw [← y3]; first | exact if_pos (by omega) | exact if_neg (by omega)
      unfold jSh; rw [← qv, z2, y4]
    rw [w9]
def k_X12_aside (a1 : Int) (h : JH) (v : Option JV) (r' g : JH) : Prop := r' = jr0 ∧ jfr w_X12_aside h g ∧ v = none ∧ (((a1 = 0 → g 224 0 = h 176 0 ∧ g 176 0 = h 176 0) ∧ (¬ a1 = 0 → g 176 0 = h 224 0)) ∧ g = jAs a1 h)
set_option maxHeartbeats 4000000 in
theorem c_X12_aside {E : JE} {l : Launch} (a1 : Int) (h : JH) (p1 : a1 = 0 ∨ a1 = 1) : jMt E l 149 [.inr (.inr (.inl 176)), .inl a1] 229 jr0 h (k_X12_aside a1 h) := by
  refine jMt0 (nL := 5) (ls := [.inr (.inr (.inl 176)), .inl a1, .inr (.inr (.inr ())), .inr (.inr (.inr ())), .inr (.inr (.inr ()))]) (by decide +kernel) (by decide +kernel) (by decide +kernel) rfl rfl ?_
  have f0 : jfr w_X12_aside h h := jfr_rf _ _
  have key : ∀ N : Nat, (∀ (x2 : Int) (g : JH), (0 ≤ x2 ∧ x2 ≤ 6) → ((a1 = 0 → g 224 0 = h 176 0 ∧ g 176 0 = h 176 0) ∧ (¬ a1 = 0 → g 176 0 = h 224 0)) → (g = jit (jA1 a1) (x2).toNat (jA0 a1 h)) → jfr w_X12_aside h g → ((6 - x2) + 40000) * 1000000 + 999999 < (N : Int) → jGo E l 149 229 229 (jRK (k_X12_aside a1 h)) 58 [.inr (.inr (.inl 176)), .inl a1, .inl x2, .inr (.inr (.inr ())), .inr (.inr (.inr ()))] [] 229 jr0 g) ∧
      (∀ (x2 : Int) (x3 : JV) (x4 : JV) (g : JH), (0 ≤ x2 ∧ x2 ≤ 16) → ((a1 = 0 → g 224 0 = h 176 0 ∧ g 176 0 = h 176 0) ∧ (¬ a1 = 0 → g 176 0 = h 224 0)) → (g = jit (jA4 a1) (x2).toNat (jit (jA1 a1) 6 (jA0 a1 h))) → jfr w_X12_aside h g → ((16 - x2) + 20000) * 1000000 + 999999 < (N : Int) → jGo E l 149 229 229 (jRK (k_X12_aside a1 h)) 113 [.inr (.inr (.inl 176)), .inl a1, .inl x2, x3, x4] [] 229 jr0 g) ∧
      (∀ (x2 : Int) (x3 : Int) (x4 : Int) (g : JH), (0 ≤ x2 ∧ x2 ≤ 15 ∧ 20 ≤ x3 ∧ x3 ≤ 260 ∧ 0 ≤ x4 ∧ x4 ≤ 6) → ((a1 = 0 → g 224 0 = h 176 0 ∧ g 176 0 = h 176 0) ∧ (¬ a1 = 0 → g 176 0 = h 224 0)) → (x3 = 20 + 16 * x2) → (g = jit (jA3 a1 x3 x2) (x4).toNat (jA2 a1 x2 (jit (jA4 a1) (x2).toNat (jit (jA1 a1) 6 (jA0 a1 h))))) → jfr w_X12_aside h g → ((16 - x2) + 20000) * 1000000 + (6 - x4) < (N : Int) → jGo E l 149 229 229 (jRK (k_X12_aside a1 h)) 307 [.inr (.inr (.inl 176)), .inl a1, .inl x2, .inl x3, .inl x4] [] 229 jr0 g) ∧
      (∀ (x2 : Int) (x3 : JV) (x4 : JV) (g : JH), (0 ≤ x2 ∧ x2 ≤ 96) → ((a1 = 0 → g 224 0 = h 176 0 ∧ g 176 0 = h 176 0) ∧ (¬ a1 = 0 → g 176 0 = h 224 0)) → (g = jit (jA5 a1) (x2).toNat (jit (jA4 a1) 16 (jit (jA1 a1) 6 (jA0 a1 h)))) → jfr w_X12_aside h g → (96 - x2) * 1000000 + 999999 < (N : Int) → jGo E l 149 229 229 (jRK (k_X12_aside a1 h)) 364 [.inr (.inr (.inl 176)), .inl a1, .inl x2, x3, x4] [] 229 jr0 g) := by
    intro N
    induction N with
    | zero => exact ⟨fun _ _ hi hx0 hx1 _ hN => absurd hN (by omega), fun _ _ _ _ hi hx0 hx1 _ hN => absurd hN (by omega), fun _ _ _ _ hi hx0 hx1 hx2 _ hN => absurd hN (by omega), fun _ _ _ _ hi hx0 hx1 _ hN => absurd hN (by omega)⟩
    | succ N ih =>
      refine ⟨?_, ?_, ?_, ?_⟩
      · intro x2 g hi hx0 hx1 hf hN
        refine jGo_blk qX12_aside_58 ?_
        refine And.intro (fun c1 => ?_) (fun c1 => ?_)
        · replace c1 : 6 ≤ x2 := c1
          show jGo E l 149 229 229 _ 111 [.inr (.inr (.inl 176)), .inl a1, .inl x2, .inr (.inr (.inr ())), .inr (.inr (.inr ()))] [] 229 jr0 g
          refine jGo_blk qX12_aside_111 ?_
          show jGo E l 149 229 229 _ 113 [.inr (.inr (.inl 176)), .inl a1, .inl 0, .inr (.inr (.inr ())), .inr (.inr (.inr ()))] [] 229 jr0 g
          exact ih.2.1 0 (.inr (.inr (.inr ()))) (.inr (.inr (.inr ()))) g (by omega) (by omega) (by rw [jit_0, hx1, show x2 = 6 by omega, jtn6]) hf (by omega)
        · replace c1 : x2 < 6 := by first | exact c1 | exact Int.not_le.mp c1 | exact Int.not_lt.mp c1 | exact Decidable.not_not.mp c1
          refine st_gr jo_176 jr_176_5 ?_
          have e2 : jw32 (4 + x2) = 4 + x2 := jzj32 (by omega)
          refine st_gr jo_176 jr_176_5 ?_
          refine st_ai jo_181 (show 0 ≤ x2 by omega) (show x2 < ((6 : Nat) : Int) by omega) (fun v3 ev3 b4 => ?_)
          replace ev3 : v3 = g 181 x2 := ev3
          replace b4 := (jba_181 x2 _).1 b4
          refine st_cv (na := 3) (st := [.inl a1, .inl v3, .inl (jw32 (4 + x2)), .inr (.inr (.inl 176)), .inl x2, .inr (.inr (.inl 181))]) jo_176 rfl rfl rfl (c_X12_swap (jw32 (4 + x2)) v3 a1 g (by omega) (by omega) (fun hx => (jk_df (by omega) (by omega) (by omega) _).2 hx)) rfl ?_
          rintro _ _ g6 ⟨rfl, ft5, t5, rfl, ht5, zt5⟩ kt5
          replace kt5 : -2147483648 ≤ t5 ∧ t5 ≤ 2147483647 := kt5
          have fg6 : jfr w_X12_aside h g6 := jfr_tr hf ft5 ws_X12_swap__X12_aside
          replace zt5 : jbd 224 (jw32 (4 + x2)) t5 ∧ (a1 = 0 → t5 = v3 ∧ g6 = jup g 224 (jw32 (4 + x2)) v3) ∧ (¬ a1 = 0 → t5 = g 224 (jw32 (4 + x2)) ∧ g6 = g) ∧ (∀ j : Int, j ≠ (jw32 (4 + x2)) → g6 224 j = g 224 j) ∧ (t5 = if a1 = 0 then v3 else g 224 (jw32 (4 + x2))) ∧ (g6 = if a1 = 0 then jup g 224 (jw32 (4 + x2)) v3 else g) := zt5
          have y7 := zt5.2.2.2.2.1
          have y8 := zt5.2.2.2.2.2
          have jst5 : g6 224 0 = g 224 0 := zt5.2.2.2.1 0 (by omega)
          clear zt5
          refine st_si jo_181 (show 0 ≤ x2 by omega) (show x2 < ((6 : Nat) : Int) by omega) (fun hx => (jba_181 _ _).2 hx) (fun g9 eg9 => ?_)
          replace eg9 : g9 = jup g6 181 x2 t5 := eg9
          have fg9 : jfr w_X12_aside h g9 := jfr_up fg6 eg9 (by unfold w_X12_aside; omega)
          have e10 : g9 181 x2 = t5 := jup_s eg9
          rw [show jw32 (4 + x2) = 4 + x2 by omega] at y7 y8
          have sw11 : g9 = jSw a1 (4 + x2) 181 x2 g := by
            unfold jSw; rw [eg9, y8, y7, ev3]
          clear y7 y8
          refine st_gr jo_176 jr_176_28 ?_
          have e12 : jw32 (10 + x2) = 10 + x2 := jzj32 (by omega)
          refine st_gr jo_176 jr_176_28 ?_
          refine st_ai jo_202 (show 0 ≤ x2 by omega) (show x2 < ((6 : Nat) : Int) by omega) (fun v13 ev13 b14 => ?_)
          replace ev13 : v13 = g9 202 x2 := ev13
          replace b14 := (jba_202 x2 _).1 b14
          refine st_cv (na := 3) (st := [.inl a1, .inl v13, .inl (jw32 (10 + x2)), .inr (.inr (.inl 176)), .inl x2, .inr (.inr (.inl 202))]) jo_176 rfl rfl rfl (c_X12_swap (jw32 (10 + x2)) v13 a1 g9 (by omega) (by omega) (fun hx => (jk_bas (by omega) _).2 (by omega))) rfl ?_
          rintro _ _ g16 ⟨rfl, ft15, t15, rfl, ht15, zt15⟩ kt15
          replace kt15 : -2147483648 ≤ t15 ∧ t15 ≤ 2147483647 := kt15
          have fg16 : jfr w_X12_aside h g16 := jfr_tr fg9 ft15 ws_X12_swap__X12_aside
          replace zt15 : jbd 224 (jw32 (10 + x2)) t15 ∧ (a1 = 0 → t15 = v13 ∧ g16 = jup g9 224 (jw32 (10 + x2)) v13) ∧ (¬ a1 = 0 → t15 = g9 224 (jw32 (10 + x2)) ∧ g16 = g9) ∧ (∀ j : Int, j ≠ (jw32 (10 + x2)) → g16 224 j = g9 224 j) ∧ (t15 = if a1 = 0 then v13 else g9 224 (jw32 (10 + x2))) ∧ (g16 = if a1 = 0 then jup g9 224 (jw32 (10 + x2)) v13 else g9) := zt15
          have y17 := zt15.2.2.2.2.1
          have y18 := zt15.2.2.2.2.2
          have jct15 := (jk_bas (by omega) _).1 zt15.1
          have jst15 : g16 224 0 = g9 224 0 := zt15.2.2.2.1 0 (by omega)
          clear zt15
          refine st_si jo_202 (show 0 ≤ x2 by omega) (show x2 < ((6 : Nat) : Int) by omega) (fun hx => (jba_202 _ _).2 (show (-1 ≤ t15 ∧ t15 ≤ 15) ∨ t15 = 100 by omega)) (fun g19 eg19 => ?_)
          replace eg19 : g19 = jup g16 202 x2 t15 := eg19
          have fg19 : jfr w_X12_aside h g19 := jfr_up fg16 eg19 (by unfold w_X12_aside; omega)
          have e20 : g19 202 x2 = t15 := jup_s eg19
          rw [show jw32 (10 + x2) = 10 + x2 by omega] at y17 y18
          have sw21 : g19 = jSw a1 (10 + x2) 202 x2 g9 := by
            unfold jSw; rw [eg19, y18, y17, ev13]
          clear y17 y18
          have e22 : jw32 (x2 + 1) = x2 + 1 := jzj32 (by omega)
          show jGo E l 149 229 229 _ 58 [.inr (.inr (.inl 176)), .inl a1, .inl (jw32 (x2 + 1)), .inr (.inr (.inr ())), .inr (.inr (.inr ()))] [] 229 jr0 g19
          have e23 : g19 224 0 = g16 224 0 := jup_o eg19 (by first | exact fun q => absurd q.1 (by decide) | exact fun q => absurd q.2 (by decide) | omega)
          have e24 : g9 224 0 = g6 224 0 := jup_o eg9 (by first | exact fun q => absurd q.1 (by decide) | exact fun q => absurd q.2 (by decide) | omega)
          have e25 : g19 176 0 = g16 176 0 := jup_o eg19 (by first | exact fun q => absurd q.1 (by decide) | exact fun q => absurd q.2 (by decide) | omega)
          have e26 : g16 176 0 = g9 176 0 := ft15 176 0 (by unfold w_X12_swap; omega)
          have e27 : g9 176 0 = g6 176 0 := jup_o eg9 (by first | exact fun q => absurd q.1 (by decide) | exact fun q => absurd q.2 (by decide) | omega)
          have e28 : g6 176 0 = g 176 0 := ft5 176 0 (by unfold w_X12_swap; omega)
          have e29 : g19 176 0 = g16 176 0 := jup_o eg19 (by first | exact fun q => absurd q.1 (by decide) | exact fun q => absurd q.2 (by decide) | omega)
          have e30 : g16 176 0 = g9 176 0 := ft15 176 0 (by unfold w_X12_swap; omega)
          have e31 : g9 176 0 = g6 176 0 := jup_o eg9 (by first | exact fun q => absurd q.1 (by decide) | exact fun q => absurd q.2 (by decide) | omega)
          have e32 : g6 176 0 = g 176 0 := ft5 176 0 (by unfold w_X12_swap; omega)
          exact ih.1 (jw32 (x2 + 1)) g19 (by omega) (by omega) (by rw [show jw32 (x2 + 1) = x2 + 1 by omega, jit_s (by omega), ← hx1]; rw [sw21, sw11]; rfl) fg19 (by omega)
      · intro x2 x3 x4 g hi hx0 hx1 hf hN
        refine jGo_blk qX12_aside_113 ?_
        refine And.intro (fun c33 => ?_) (fun c33 => ?_)
        · replace c33 : 16 ≤ x2 := c33
          show jGo E l 149 229 229 _ 362 [.inr (.inr (.inl 176)), .inl a1, .inl x2, x3, x4] [] 229 jr0 g
          refine jGo_blk qX12_aside_362 ?_
          show jGo E l 149 229 229 _ 364 [.inr (.inr (.inl 176)), .inl a1, .inl 0, x3, x4] [] 229 jr0 g
          exact ih.2.2.2 0 x3 x4 g (by omega) (by omega) (by rw [jit_0, hx1, show x2 = 16 by omega, jtn16]) hf (by omega)
        · replace c33 : x2 < 16 := by first | exact c33 | exact Int.not_le.mp c33 | exact Int.not_lt.mp c33 | exact Decidable.not_not.mp c33
          have e34 : jw32 (16 * x2) = 16 * x2 := jzj32 (by omega)
          have e35 : jw32 (20 + (jw32 (16 * x2))) = 20 + (jw32 (16 * x2)) := jzj32 (by omega)
          refine st_gr jo_176 jr_176_18 ?_
          refine st_gr jo_176 jr_176_18 ?_
          refine st_ai jo_192 (show 0 ≤ x2 by omega) (show x2 < ((16 : Nat) : Int) by omega) (fun v36 ev36 b37 => ?_)
          replace ev36 : v36 = g 192 x2 := ev36
          replace b37 := (jba_192 x2 _).1 b37
          refine st_cv (na := 3) (st := [.inl a1, .inl v36, .inl (jw32 (20 + (jw32 (16 * x2)))), .inr (.inr (.inl 176)), .inl x2, .inr (.inr (.inl 192))]) jo_176 rfl rfl rfl (c_X12_swap (jw32 (20 + (jw32 (16 * x2)))) v36 a1 g (by omega) (by omega) (fun hx => (jk_st (by omega) (by omega) _).2 (by omega))) rfl ?_
          rintro _ _ g39 ⟨rfl, ft38, t38, rfl, ht38, zt38⟩ kt38
          replace kt38 : -2147483648 ≤ t38 ∧ t38 ≤ 2147483647 := kt38
          have fg39 : jfr w_X12_aside h g39 := jfr_tr hf ft38 ws_X12_swap__X12_aside
          replace zt38 : jbd 224 (jw32 (20 + (jw32 (16 * x2)))) t38 ∧ (a1 = 0 → t38 = v36 ∧ g39 = jup g 224 (jw32 (20 + (jw32 (16 * x2)))) v36) ∧ (¬ a1 = 0 → t38 = g 224 (jw32 (20 + (jw32 (16 * x2)))) ∧ g39 = g) ∧ (∀ j : Int, j ≠ (jw32 (20 + (jw32 (16 * x2)))) → g39 224 j = g 224 j) ∧ (t38 = if a1 = 0 then v36 else g 224 (jw32 (20 + (jw32 (16 * x2))))) ∧ (g39 = if a1 = 0 then jup g 224 (jw32 (20 + (jw32 (16 * x2)))) v36 else g) := zt38
          have y40 := zt38.2.2.2.2.1
          have y41 := zt38.2.2.2.2.2
          have jct38 := (jk_st (by omega) (by omega) _).1 zt38.1
          have jst38 : g39 224 0 = g 224 0 := zt38.2.2.2.1 0 (by omega)
          clear zt38
          refine st_si jo_192 (show 0 ≤ x2 by omega) (show x2 < ((16 : Nat) : Int) by omega) (fun hx => (jba_192 _ _).2 (show 0 ≤ t38 ∧ t38 ≤ 3 by omega)) (fun g42 eg42 => ?_)
          replace eg42 : g42 = jup g39 192 x2 t38 := eg42
          have fg42 : jfr w_X12_aside h g42 := jfr_up fg39 eg42 (by unfold w_X12_aside; omega)
          have e43 : g42 192 x2 = t38 := jup_s eg42
          rw [show jw32 (20 + (jw32 (16 * x2))) = 20 + 16 * x2 by omega] at y40 y41
          have sw44 : g42 = jSw a1 (20 + 16 * x2) 192 x2 g := by
            unfold jSw; rw [eg42, y41, y40, ev36]
          clear y40 y41
          refine st_gr jo_176 jr_176_19 ?_
          have e45 : jw32 ((jw32 (20 + (jw32 (16 * x2)))) + 1) = (jw32 (20 + (jw32 (16 * x2)))) + 1 := jzj32 (by omega)
          refine st_gr jo_176 jr_176_19 ?_
          refine st_ai jo_193 (show 0 ≤ x2 by omega) (show x2 < ((16 : Nat) : Int) by omega) (fun v46 ev46 b47 => ?_)
          replace ev46 : v46 = g42 193 x2 := ev46
          replace b47 := (jba_193 x2 _).1 b47
          refine st_cv (na := 3) (st := [.inl a1, .inl v46, .inl (jw32 ((jw32 (20 + (jw32 (16 * x2)))) + 1)), .inr (.inr (.inl 176)), .inl x2, .inr (.inr (.inl 193))]) jo_176 rfl rfl rfl (c_X12_swap (jw32 ((jw32 (20 + (jw32 (16 * x2)))) + 1)) v46 a1 g42 (by omega) (by omega) (fun hx => (jk_at (by omega) (by omega) _).2 (by omega))) rfl ?_
          rintro _ _ g49 ⟨rfl, ft48, t48, rfl, ht48, zt48⟩ kt48
          replace kt48 : -2147483648 ≤ t48 ∧ t48 ≤ 2147483647 := kt48
          have fg49 : jfr w_X12_aside h g49 := jfr_tr fg42 ft48 ws_X12_swap__X12_aside
          replace zt48 : jbd 224 (jw32 ((jw32 (20 + (jw32 (16 * x2)))) + 1)) t48 ∧ (a1 = 0 → t48 = v46 ∧ g49 = jup g42 224 (jw32 ((jw32 (20 + (jw32 (16 * x2)))) + 1)) v46) ∧ (¬ a1 = 0 → t48 = g42 224 (jw32 ((jw32 (20 + (jw32 (16 * x2)))) + 1)) ∧ g49 = g42) ∧ (∀ j : Int, j ≠ (jw32 ((jw32 (20 + (jw32 (16 * x2)))) + 1)) → g49 224 j = g42 224 j) ∧ (t48 = if a1 = 0 then v46 else g42 224 (jw32 ((jw32 (20 + (jw32 (16 * x2)))) + 1))) ∧ (g49 = if a1 = 0 then jup g42 224 (jw32 ((jw32 (20 + (jw32 (16 * x2)))) + 1)) v46 else g42) := zt48
          have y50 := zt48.2.2.2.2.1
          have y51 := zt48.2.2.2.2.2
          have jct48 := (jk_at (by omega) (by omega) _).1 zt48.1
          have jst48 : g49 224 0 = g42 224 0 := zt48.2.2.2.1 0 (by omega)
          clear zt48
          refine st_si jo_193 (show 0 ≤ x2 by omega) (show x2 < ((16 : Nat) : Int) by omega) (fun hx => (jba_193 _ _).2 (show -9 ≤ t48 ∧ t48 ≤ 5 by omega)) (fun g52 eg52 => ?_)
          replace eg52 : g52 = jup g49 193 x2 t48 := eg52
          have fg52 : jfr w_X12_aside h g52 := jfr_up fg49 eg52 (by unfold w_X12_aside; omega)
          have e53 : g52 193 x2 = t48 := jup_s eg52
          rw [show jw32 ((jw32 (20 + (jw32 (16 * x2)))) + 1) = 20 + 16 * x2 + 1 by omega] at y50 y51
          have sw54 : g52 = jSw a1 (20 + 16 * x2 + 1) 193 x2 g42 := by
            unfold jSw; rw [eg52, y51, y50, ev46]
          clear y50 y51
          refine st_gr jo_176 jr_176_20 ?_
          have e55 : jw32 ((jw32 (20 + (jw32 (16 * x2)))) + 2) = (jw32 (20 + (jw32 (16 * x2)))) + 2 := jzj32 (by omega)
          refine st_gr jo_176 jr_176_20 ?_
          refine st_ai jo_194 (show 0 ≤ x2 by omega) (show x2 < ((16 : Nat) : Int) by omega) (fun v56 ev56 b57 => ?_)
          replace ev56 : v56 = g52 194 x2 := ev56
          replace b57 := (jba_194 x2 _).1 b57
          refine st_cv (na := 3) (st := [.inl a1, .inl v56, .inl (jw32 ((jw32 (20 + (jw32 (16 * x2)))) + 2)), .inr (.inr (.inl 176)), .inl x2, .inr (.inr (.inl 194))]) jo_176 rfl rfl rfl (c_X12_swap (jw32 ((jw32 (20 + (jw32 (16 * x2)))) + 2)) v56 a1 g52 (by omega) (by omega) (fun hx => (jk_cr (by omega) (by omega) _).2 (by omega))) rfl ?_
          rintro _ _ g59 ⟨rfl, ft58, t58, rfl, ht58, zt58⟩ kt58
          replace kt58 : -2147483648 ≤ t58 ∧ t58 ≤ 2147483647 := kt58
          have fg59 : jfr w_X12_aside h g59 := jfr_tr fg52 ft58 ws_X12_swap__X12_aside
          replace zt58 : jbd 224 (jw32 ((jw32 (20 + (jw32 (16 * x2)))) + 2)) t58 ∧ (a1 = 0 → t58 = v56 ∧ g59 = jup g52 224 (jw32 ((jw32 (20 + (jw32 (16 * x2)))) + 2)) v56) ∧ (¬ a1 = 0 → t58 = g52 224 (jw32 ((jw32 (20 + (jw32 (16 * x2)))) + 2)) ∧ g59 = g52) ∧ (∀ j : Int, j ≠ (jw32 ((jw32 (20 + (jw32 (16 * x2)))) + 2)) → g59 224 j = g52 224 j) ∧ (t58 = if a1 = 0 then v56 else g52 224 (jw32 ((jw32 (20 + (jw32 (16 * x2)))) + 2))) ∧ (g59 = if a1 = 0 then jup g52 224 (jw32 ((jw32 (20 + (jw32 (16 * x2)))) + 2)) v56 else g52) := zt58
          have y60 := zt58.2.2.2.2.1
          have y61 := zt58.2.2.2.2.2
          have jct58 := (jk_cr (by omega) (by omega) _).1 zt58.1
          have jst58 : g59 224 0 = g52 224 0 := zt58.2.2.2.1 0 (by omega)
          clear zt58
          refine st_si jo_194 (show 0 ≤ x2 by omega) (show x2 < ((16 : Nat) : Int) by omega) (fun hx => (jba_194 _ _).2 (show 0 ≤ t58 ∧ t58 ≤ 3 by omega)) (fun g62 eg62 => ?_)
          replace eg62 : g62 = jup g59 194 x2 t58 := eg62
          have fg62 : jfr w_X12_aside h g62 := jfr_up fg59 eg62 (by unfold w_X12_aside; omega)
          have e63 : g62 194 x2 = t58 := jup_s eg62
          rw [show jw32 ((jw32 (20 + (jw32 (16 * x2)))) + 2) = 20 + 16 * x2 + 2 by omega] at y60 y61
          have sw64 : g62 = jSw a1 (20 + 16 * x2 + 2) 194 x2 g52 := by
            unfold jSw; rw [eg62, y61, y60, ev56]
          clear y60 y61
          refine st_gr jo_176 jr_176_21 ?_
          have e65 : jw32 ((jw32 (20 + (jw32 (16 * x2)))) + 3) = (jw32 (20 + (jw32 (16 * x2)))) + 3 := jzj32 (by omega)
          refine st_gr jo_176 jr_176_21 ?_
          refine st_ai jo_195 (show 0 ≤ x2 by omega) (show x2 < ((16 : Nat) : Int) by omega) (fun v66 ev66 b67 => ?_)
          replace ev66 : v66 = g62 195 x2 := ev66
          replace b67 := (jba_195 x2 _).1 b67
          refine st_cv (na := 3) (st := [.inl a1, .inl v66, .inl (jw32 ((jw32 (20 + (jw32 (16 * x2)))) + 3)), .inr (.inr (.inl 176)), .inl x2, .inr (.inr (.inl 195))]) jo_176 rfl rfl rfl (c_X12_swap (jw32 ((jw32 (20 + (jw32 (16 * x2)))) + 3)) v66 a1 g62 (by omega) (by omega) (fun hx => (jk_df (by omega) (by omega) (by omega) _).2 hx)) rfl ?_
          rintro _ _ g69 ⟨rfl, ft68, t68, rfl, ht68, zt68⟩ kt68
          replace kt68 : -2147483648 ≤ t68 ∧ t68 ≤ 2147483647 := kt68
          have fg69 : jfr w_X12_aside h g69 := jfr_tr fg62 ft68 ws_X12_swap__X12_aside
          replace zt68 : jbd 224 (jw32 ((jw32 (20 + (jw32 (16 * x2)))) + 3)) t68 ∧ (a1 = 0 → t68 = v66 ∧ g69 = jup g62 224 (jw32 ((jw32 (20 + (jw32 (16 * x2)))) + 3)) v66) ∧ (¬ a1 = 0 → t68 = g62 224 (jw32 ((jw32 (20 + (jw32 (16 * x2)))) + 3)) ∧ g69 = g62) ∧ (∀ j : Int, j ≠ (jw32 ((jw32 (20 + (jw32 (16 * x2)))) + 3)) → g69 224 j = g62 224 j) ∧ (t68 = if a1 = 0 then v66 else g62 224 (jw32 ((jw32 (20 + (jw32 (16 * x2)))) + 3))) ∧ (g69 = if a1 = 0 then jup g62 224 (jw32 ((jw32 (20 + (jw32 (16 * x2)))) + 3)) v66 else g62) := zt68
          have y70 := zt68.2.2.2.2.1
          have y71 := zt68.2.2.2.2.2
          have jst68 : g69 224 0 = g62 224 0 := zt68.2.2.2.1 0 (by omega)
          clear zt68
          refine st_si jo_195 (show 0 ≤ x2 by omega) (show x2 < ((16 : Nat) : Int) by omega) (fun hx => (jba_195 _ _).2 hx) (fun g72 eg72 => ?_)
          replace eg72 : g72 = jup g69 195 x2 t68 := eg72
          have fg72 : jfr w_X12_aside h g72 := jfr_up fg69 eg72 (by unfold w_X12_aside; omega)
          have e73 : g72 195 x2 = t68 := jup_s eg72
          rw [show jw32 ((jw32 (20 + (jw32 (16 * x2)))) + 3) = 20 + 16 * x2 + 3 by omega] at y70 y71
          have sw74 : g72 = jSw a1 (20 + 16 * x2 + 3) 195 x2 g62 := by
            unfold jSw; rw [eg72, y71, y70, ev66]
          clear y70 y71
          refine st_gr jo_176 jr_176_22 ?_
          have e75 : jw32 ((jw32 (20 + (jw32 (16 * x2)))) + 4) = (jw32 (20 + (jw32 (16 * x2)))) + 4 := jzj32 (by omega)
          refine st_gr jo_176 jr_176_22 ?_
          refine st_bi jo_196 (show 0 ≤ x2 by omega) (show x2 < ((16 : Nat) : Int) by omega) (fun v76 ev76 b77 => ?_)
          replace ev76 : v76 = g72 196 x2 := ev76
          replace b77 := (jba_196 x2 _).1 b77
          refine And.intro (fun c78 => ?_) (fun c78 => ?_)
          · replace c78 : v76 = 0 := c78
            show jGo E l 149 229 229 _ 227 [.inr (.inr (.inl 176)), .inl a1, .inl x2, .inl (jw32 (20 + (jw32 (16 * x2)))), x4] [.inl (jw32 ((jw32 (20 + (jw32 (16 * x2)))) + 4)), .inr (.inr (.inl 176)), .inl x2, .inr (.inr (.inl 196))] 229 jr0 g72
            refine jGo_blk qX12_aside_227 ?_
            show jGo E l 149 229 229 _ 228 [.inr (.inr (.inl 176)), .inl a1, .inl x2, .inl (jw32 (20 + (jw32 (16 * x2)))), x4] [.inl 0, .inl (jw32 ((jw32 (20 + (jw32 (16 * x2)))) + 4)), .inr (.inr (.inl 176)), .inl x2, .inr (.inr (.inl 196))] 229 jr0 g72
            refine sg_X12_aside_228 a1 x2 (jw32 (20 + (jw32 (16 * x2)))) (jw32 ((jw32 (20 + (jw32 (16 * x2)))) + 4)) 0 x4 g72 p1 (by omega) (by omega) (by omega) (by first | exact (if_pos (by omega)).symm | exact (if_neg (by omega)).symm) (fun g79 fg79 eg79 k1g79 k2g79 => ?_)
            have ffg79 : jfr w_X12_aside h g79 := jfr_tr fg72 fg79 (fun i k q => q)
            show jGo E l 149 229 229 _ 307 [.inr (.inr (.inl 176)), .inl a1, .inl x2, .inl (jw32 (20 + (jw32 (16 * x2)))), .inl 0] [] 229 jr0 g79
            have e80 : g72 224 0 = g69 224 0 := jup_o eg72 (by first | exact fun q => absurd q.1 (by decide) | exact fun q => absurd q.2 (by decide) | omega)
            have e81 : g62 224 0 = g59 224 0 := jup_o eg62 (by first | exact fun q => absurd q.1 (by decide) | exact fun q => absurd q.2 (by decide) | omega)
            have e82 : g52 224 0 = g49 224 0 := jup_o eg52 (by first | exact fun q => absurd q.1 (by decide) | exact fun q => absurd q.2 (by decide) | omega)
            have e83 : g42 224 0 = g39 224 0 := jup_o eg42 (by first | exact fun q => absurd q.1 (by decide) | exact fun q => absurd q.2 (by decide) | omega)
            have e84 : g72 176 0 = g69 176 0 := jup_o eg72 (by first | exact fun q => absurd q.1 (by decide) | exact fun q => absurd q.2 (by decide) | omega)
            have e85 : g69 176 0 = g62 176 0 := ft68 176 0 (by unfold w_X12_swap; omega)
            have e86 : g62 176 0 = g59 176 0 := jup_o eg62 (by first | exact fun q => absurd q.1 (by decide) | exact fun q => absurd q.2 (by decide) | omega)
            have e87 : g59 176 0 = g52 176 0 := ft58 176 0 (by unfold w_X12_swap; omega)
            have e88 : g52 176 0 = g49 176 0 := jup_o eg52 (by first | exact fun q => absurd q.1 (by decide) | exact fun q => absurd q.2 (by decide) | omega)
            have e89 : g49 176 0 = g42 176 0 := ft48 176 0 (by unfold w_X12_swap; omega)
            have e90 : g42 176 0 = g39 176 0 := jup_o eg42 (by first | exact fun q => absurd q.1 (by decide) | exact fun q => absurd q.2 (by decide) | omega)
            have e91 : g39 176 0 = g 176 0 := ft38 176 0 (by unfold w_X12_swap; omega)
            have e92 : g72 176 0 = g69 176 0 := jup_o eg72 (by first | exact fun q => absurd q.1 (by decide) | exact fun q => absurd q.2 (by decide) | omega)
            have e93 : g69 176 0 = g62 176 0 := ft68 176 0 (by unfold w_X12_swap; omega)
            have e94 : g62 176 0 = g59 176 0 := jup_o eg62 (by first | exact fun q => absurd q.1 (by decide) | exact fun q => absurd q.2 (by decide) | omega)
            have e95 : g59 176 0 = g52 176 0 := ft58 176 0 (by unfold w_X12_swap; omega)
            have e96 : g52 176 0 = g49 176 0 := jup_o eg52 (by first | exact fun q => absurd q.1 (by decide) | exact fun q => absurd q.2 (by decide) | omega)
            have e97 : g49 176 0 = g42 176 0 := ft48 176 0 (by unfold w_X12_swap; omega)
            have e98 : g42 176 0 = g39 176 0 := jup_o eg42 (by first | exact fun q => absurd q.1 (by decide) | exact fun q => absurd q.2 (by decide) | omega)
            have e99 : g39 176 0 = g 176 0 := ft38 176 0 (by unfold w_X12_swap; omega)
            have hc100 : g79 = jit (jA3 a1 (jw32 (20 + (jw32 (16 * x2)))) x2) (0 : Int).toNat (jA2 a1 x2 (jit (jA4 a1) x2.toNat (jit (jA1 a1) 6 (jA0 a1 h)))) := by
              rw [jit_0, ← hx1]; rw [eg79, sw74, sw64, sw54, sw44]; rfl
            exact ih.2.2.1 x2 (jw32 (20 + (jw32 (16 * x2)))) 0 g79 (by omega) (by omega) (by omega) (by exact hc100) ffg79 (by omega)
          · replace c78 : ¬ v76 = 0 := by first | exact c78 | exact Int.not_le.mp c78 | exact Int.not_lt.mp c78 | exact Decidable.not_not.mp c78
            show jGo E l 149 229 229 _ 228 [.inr (.inr (.inl 176)), .inl a1, .inl x2, .inl (jw32 (20 + (jw32 (16 * x2)))), x4] [.inl 1, .inl (jw32 ((jw32 (20 + (jw32 (16 * x2)))) + 4)), .inr (.inr (.inl 176)), .inl x2, .inr (.inr (.inl 196))] 229 jr0 g72
            refine sg_X12_aside_228 a1 x2 (jw32 (20 + (jw32 (16 * x2)))) (jw32 ((jw32 (20 + (jw32 (16 * x2)))) + 4)) 1 x4 g72 p1 (by omega) (by omega) (by omega) (by first | exact (if_pos (by omega)).symm | exact (if_neg (by omega)).symm) (fun g101 fg101 eg101 k1g101 k2g101 => ?_)
            have ffg101 : jfr w_X12_aside h g101 := jfr_tr fg72 fg101 (fun i k q => q)
            show jGo E l 149 229 229 _ 307 [.inr (.inr (.inl 176)), .inl a1, .inl x2, .inl (jw32 (20 + (jw32 (16 * x2)))), .inl 0] [] 229 jr0 g101
            have e102 : g72 224 0 = g69 224 0 := jup_o eg72 (by first | exact fun q => absurd q.1 (by decide) | exact fun q => absurd q.2 (by decide) | omega)
            have e103 : g62 224 0 = g59 224 0 := jup_o eg62 (by first | exact fun q => absurd q.1 (by decide) | exact fun q => absurd q.2 (by decide) | omega)
            have e104 : g52 224 0 = g49 224 0 := jup_o eg52 (by first | exact fun q => absurd q.1 (by decide) | exact fun q => absurd q.2 (by decide) | omega)
            have e105 : g42 224 0 = g39 224 0 := jup_o eg42 (by first | exact fun q => absurd q.1 (by decide) | exact fun q => absurd q.2 (by decide) | omega)
            have e106 : g72 176 0 = g69 176 0 := jup_o eg72 (by first | exact fun q => absurd q.1 (by decide) | exact fun q => absurd q.2 (by decide) | omega)
            have e107 : g69 176 0 = g62 176 0 := ft68 176 0 (by unfold w_X12_swap; omega)
            have e108 : g62 176 0 = g59 176 0 := jup_o eg62 (by first | exact fun q => absurd q.1 (by decide) | exact fun q => absurd q.2 (by decide) | omega)
            have e109 : g59 176 0 = g52 176 0 := ft58 176 0 (by unfold w_X12_swap; omega)
            have e110 : g52 176 0 = g49 176 0 := jup_o eg52 (by first | exact fun q => absurd q.1 (by decide) | exact fun q => absurd q.2 (by decide) | omega)
            have e111 : g49 176 0 = g42 176 0 := ft48 176 0 (by unfold w_X12_swap; omega)
            have e112 : g42 176 0 = g39 176 0 := jup_o eg42 (by first | exact fun q => absurd q.1 (by decide) | exact fun q => absurd q.2 (by decide) | omega)
            have e113 : g39 176 0 = g 176 0 := ft38 176 0 (by unfold w_X12_swap; omega)
            have e114 : g72 176 0 = g69 176 0 := jup_o eg72 (by first | exact fun q => absurd q.1 (by decide) | exact fun q => absurd q.2 (by decide) | omega)
            have e115 : g69 176 0 = g62 176 0 := ft68 176 0 (by unfold w_X12_swap; omega)
            have e116 : g62 176 0 = g59 176 0 := jup_o eg62 (by first | exact fun q => absurd q.1 (by decide) | exact fun q => absurd q.2 (by decide) | omega)
            have e117 : g59 176 0 = g52 176 0 := ft58 176 0 (by unfold w_X12_swap; omega)
            have e118 : g52 176 0 = g49 176 0 := jup_o eg52 (by first | exact fun q => absurd q.1 (by decide) | exact fun q => absurd q.2 (by decide) | omega)
            have e119 : g49 176 0 = g42 176 0 := ft48 176 0 (by unfold w_X12_swap; omega)
            have e120 : g42 176 0 = g39 176 0 := jup_o eg42 (by first | exact fun q => absurd q.1 (by decide) | exact fun q => absurd q.2 (by decide) | omega)
            have e121 : g39 176 0 = g 176 0 := ft38 176 0 (by unfold w_X12_swap; omega)
            have hc122 : g101 = jit (jA3 a1 (jw32 (20 + (jw32 (16 * x2)))) x2) (0 : Int).toNat (jA2 a1 x2 (jit (jA4 a1) x2.toNat (jit (jA1 a1) 6 (jA0 a1 h)))) := by
              rw [jit_0, ← hx1]; rw [eg101, sw74, sw64, sw54, sw44]; rfl
            exact ih.2.2.1 x2 (jw32 (20 + (jw32 (16 * x2)))) 0 g101 (by omega) (by omega) (by omega) (by exact hc122) ffg101 (by omega)
      · intro x2 x3 x4 g hi hx0 hx1 hx2 hf hN
        refine jGo_blk qX12_aside_307 ?_
        refine And.intro (fun c123 => ?_) (fun c123 => ?_)
        · replace c123 : 6 ≤ x4 := c123
          show jGo E l 149 229 229 _ 356 [.inr (.inr (.inl 176)), .inl a1, .inl x2, .inl x3, .inl x4] [] 229 jr0 g
          refine jGo_blk qX12_aside_356 ?_
          have e124 : jw32 (x2 + 1) = x2 + 1 := jzj32 (by omega)
          show jGo E l 149 229 229 _ 113 [.inr (.inr (.inl 176)), .inl a1, .inl (jw32 (x2 + 1)), .inl x3, .inl x4] [] 229 jr0 g
          have hc125 : g = jit (jA4 a1) (jw32 (x2 + 1)).toNat (jit (jA1 a1) 6 (jA0 a1 h)) := by
            rw [show jw32 (x2 + 1) = x2 + 1 by omega, jit_s (by omega)]
            rw [jA4_e, hx2, show x4 = 6 by omega, hx1, jtn6]
          exact ih.2.1 (jw32 (x2 + 1)) (.inl x3) (.inl x4) g (by omega) (by omega) (by exact hc125) hf (by omega)
        · replace c123 : x4 < 6 := by first | exact c123 | exact Int.not_le.mp c123 | exact Int.not_lt.mp c123 | exact Decidable.not_not.mp c123
          refine st_gr jo_176 jr_176_25 ?_
          have e126 : jw32 (6 * x2) = 6 * x2 := jzj32 (by omega)
          have e127 : jw32 ((jw32 (6 * x2)) + x4) = (jw32 (6 * x2)) + x4 := jzj32 (by omega)
          have e128 : jw32 (x3 + 8) = x3 + 8 := jzj32 (by omega)
          have e129 : jw32 ((jw32 (x3 + 8)) + x4) = (jw32 (x3 + 8)) + x4 := jzj32 (by omega)
          refine st_gr jo_176 jr_176_25 ?_
          have e130 : jw32 (6 * x2) = 6 * x2 := jzj32 (by omega)
          have e131 : jw32 ((jw32 (6 * x2)) + x4) = (jw32 (6 * x2)) + x4 := jzj32 (by omega)
          refine st_ai jo_199 (show 0 ≤ jw32 ((jw32 (6 * x2)) + x4) by omega) (show jw32 ((jw32 (6 * x2)) + x4) < ((96 : Nat) : Int) by omega) (fun v132 ev132 b133 => ?_)
          replace ev132 : v132 = g 199 (jw32 ((jw32 (6 * x2)) + x4)) := ev132
          replace b133 := (jba_199 (jw32 ((jw32 (6 * x2)) + x4)) _).1 b133
          refine st_cv (na := 3) (st := [.inl a1, .inl v132, .inl (jw32 ((jw32 (x3 + 8)) + x4)), .inr (.inr (.inl 176)), .inl (jw32 ((jw32 (6 * x2)) + x4)), .inr (.inr (.inl 199))]) jo_176 rfl rfl rfl (c_X12_swap (jw32 ((jw32 (x3 + 8)) + x4)) v132 a1 g (by omega) (by omega) (fun hx => (jk_df (by omega) (by omega) (by omega) _).2 hx)) rfl ?_
          rintro _ _ g135 ⟨rfl, ft134, t134, rfl, ht134, zt134⟩ kt134
          replace kt134 : -2147483648 ≤ t134 ∧ t134 ≤ 2147483647 := kt134
          have fg135 : jfr w_X12_aside h g135 := jfr_tr hf ft134 ws_X12_swap__X12_aside
          replace zt134 : jbd 224 (jw32 ((jw32 (x3 + 8)) + x4)) t134 ∧ (a1 = 0 → t134 = v132 ∧ g135 = jup g 224 (jw32 ((jw32 (x3 + 8)) + x4)) v132) ∧ (¬ a1 = 0 → t134 = g 224 (jw32 ((jw32 (x3 + 8)) + x4)) ∧ g135 = g) ∧ (∀ j : Int, j ≠ (jw32 ((jw32 (x3 + 8)) + x4)) → g135 224 j = g 224 j) ∧ (t134 = if a1 = 0 then v132 else g 224 (jw32 ((jw32 (x3 + 8)) + x4))) ∧ (g135 = if a1 = 0 then jup g 224 (jw32 ((jw32 (x3 + 8)) + x4)) v132 else g) := zt134
          have y136 := zt134.2.2.2.2.1
          have y137 := zt134.2.2.2.2.2
          have jst134 : g135 224 0 = g 224 0 := zt134.2.2.2.1 0 (by omega)
          clear zt134
          refine st_si jo_199 (show 0 ≤ jw32 ((jw32 (6 * x2)) + x4) by omega) (show jw32 ((jw32 (6 * x2)) + x4) < ((96 : Nat) : Int) by omega) (fun hx => (jba_199 _ _).2 hx) (fun g138 eg138 => ?_)
          replace eg138 : g138 = jup g135 199 (jw32 ((jw32 (6 * x2)) + x4)) t134 := eg138
          have fg138 : jfr w_X12_aside h g138 := jfr_up fg135 eg138 (by unfold w_X12_aside; omega)
          have e139 : g138 199 (jw32 ((jw32 (6 * x2)) + x4)) = t134 := jup_s eg138
          rw [show jw32 ((jw32 (x3 + 8)) + x4) = x3 + 8 + x4 by omega] at y136 y137
          have sw140 : g138 = jSw a1 (x3 + 8 + x4) 199 (6 * x2 + x4) g := by
            unfold jSw; rw [eg138, y137, y136, ev132, show jw32 ((jw32 (6 * x2)) + x4) = 6 * x2 + x4 by omega]
          clear y136 y137
          have e141 : jw32 (x4 + 1) = x4 + 1 := jzj32 (by omega)
          show jGo E l 149 229 229 _ 307 [.inr (.inr (.inl 176)), .inl a1, .inl x2, .inl x3, .inl (jw32 (x4 + 1))] [] 229 jr0 g138
          have e142 : g138 224 0 = g135 224 0 := jup_o eg138 (by first | exact fun q => absurd q.1 (by decide) | exact fun q => absurd q.2 (by decide) | omega)
          have e143 : g138 176 0 = g135 176 0 := jup_o eg138 (by first | exact fun q => absurd q.1 (by decide) | exact fun q => absurd q.2 (by decide) | omega)
          have e144 : g135 176 0 = g 176 0 := ft134 176 0 (by unfold w_X12_swap; omega)
          have e145 : g138 176 0 = g135 176 0 := jup_o eg138 (by first | exact fun q => absurd q.1 (by decide) | exact fun q => absurd q.2 (by decide) | omega)
          have e146 : g135 176 0 = g 176 0 := ft134 176 0 (by unfold w_X12_swap; omega)
          exact ih.2.2.1 x2 x3 (jw32 (x4 + 1)) g138 (by omega) (by omega) (by omega) (by rw [show jw32 (x4 + 1) = x4 + 1 by omega, jit_s (by omega), ← hx2]; rw [sw140]; rfl) fg138 (by omega)
      · intro x2 x3 x4 g hi hx0 hx1 hf hN
        refine jGo_blk qX12_aside_364 ?_
        refine And.intro (fun c147 => ?_) (fun c147 => ?_)
        · replace c147 : 96 ≤ x2 := c147
          show jGo E l 149 229 229 _ 413 [.inr (.inr (.inl 176)), .inl a1, .inl x2, x3, x4] [] 229 jr0 g
          refine jGo_blk qX12_aside_413 ?_
          exact ⟨rfl, rfl, hf, rfl, (by refine ⟨by omega, ?_⟩; rw [hx1, show x2 = 96 by omega, jtn96, jAs_e])⟩
        · replace c147 : x2 < 96 := by first | exact c147 | exact Int.not_le.mp c147 | exact Int.not_lt.mp c147 | exact Decidable.not_not.mp c147
          refine st_gr jo_176 jr_176_60 ?_
          refine And.intro (fun c148 => ?_) (fun c148 => ?_)
          · replace c148 : a1 = 0 := c148
            show jGo E l 149 229 229 _ 388 [.inr (.inr (.inl 176)), .inl a1, .inl x2, x3, x4] [.inl x2, .inr (.inr (.inl 225))] 229 jr0 g
            refine jGo_blk qX12_aside_388 ?_
            refine st_gr jo_176 jr_176_26 ?_
            refine st_ai jo_200 (show 0 ≤ x2 by omega) (show x2 < ((96 : Nat) : Int) by omega) (fun v149 ev149 b150 => ?_)
            replace ev149 : v149 = g 200 x2 := ev149
            replace b150 := (jba_200 x2 _).1 b150
            show jGo E l 149 229 229 _ 394 [.inr (.inr (.inl 176)), .inl a1, .inl x2, x3, x4] [.inl v149, .inl x2, .inr (.inr (.inl 225))] 229 jr0 g
            refine jGo_blk qX12_aside_394 ?_
            refine st_si jo_225 (show 0 ≤ x2 by omega) (show x2 < ((96 : Nat) : Int) by omega) (fun hx => (jba_225 _ _).2 hx) (fun g151 eg151 => ?_)
            replace eg151 : g151 = jup g 225 x2 v149 := eg151
            have fg151 : jfr w_X12_aside h g151 := jfr_up hf eg151 (by unfold w_X12_aside; omega)
            have e152 : g151 225 x2 = v149 := jup_s eg151
            refine st_gr jo_176 jr_176_26 ?_
            refine st_gr jo_176 jr_176_60 ?_
            refine st_ai jo_225 (show 0 ≤ x2 by omega) (show x2 < ((96 : Nat) : Int) by omega) (fun v153 ev153 b154 => ?_)
            replace ev153 : v153 = g151 225 x2 := ev153
            replace b154 := (jba_225 x2 _).1 b154
            refine st_si jo_200 (show 0 ≤ x2 by omega) (show x2 < ((96 : Nat) : Int) by omega) (fun hx => (jba_200 _ _).2 hx) (fun g155 eg155 => ?_)
            replace eg155 : g155 = jup g151 200 x2 v153 := eg155
            have fg155 : jfr w_X12_aside h g155 := jfr_up fg151 eg155 (by unfold w_X12_aside; omega)
            have e156 : g155 200 x2 = v153 := jup_s eg155
            have e157 : jw32 (x2 + 1) = x2 + 1 := jzj32 (by omega)
            show jGo E l 149 229 229 _ 364 [.inr (.inr (.inl 176)), .inl a1, .inl (jw32 (x2 + 1)), x3, x4] [] 229 jr0 g155
            have e158 : g155 224 0 = g151 224 0 := jup_o eg155 (by first | exact fun q => absurd q.1 (by decide) | exact fun q => absurd q.2 (by decide) | omega)
            have e159 : g151 224 0 = g 224 0 := jup_o eg151 (by first | exact fun q => absurd q.1 (by decide) | exact fun q => absurd q.2 (by decide) | omega)
            have e160 : g155 176 0 = g151 176 0 := jup_o eg155 (by first | exact fun q => absurd q.1 (by decide) | exact fun q => absurd q.2 (by decide) | omega)
            have e161 : g151 176 0 = g 176 0 := jup_o eg151 (by first | exact fun q => absurd q.1 (by decide) | exact fun q => absurd q.2 (by decide) | omega)
            have e162 : g155 176 0 = g151 176 0 := jup_o eg155 (by first | exact fun q => absurd q.1 (by decide) | exact fun q => absurd q.2 (by decide) | omega)
            have e163 : g151 176 0 = g 176 0 := jup_o eg151 (by first | exact fun q => absurd q.1 (by decide) | exact fun q => absurd q.2 (by decide) | omega)
            exact ih.2.2.2 (jw32 (x2 + 1)) x3 x4 g155 (by omega) (by omega) (by rw [show jw32 (x2 + 1) = x2 + 1 by omega, jit_s (by omega), ← hx1]; subst eg155 ev153 eg151 ev149; unfold jA5; (repeat (first | rw [if_pos (by omega)] | rw [if_neg (by omega)])); all_goals ((try rw [e157]); (try rfl))) fg155 (by omega)
          · replace c148 : ¬ a1 = 0 := by first | exact c148 | exact Int.not_le.mp c148 | exact Int.not_lt.mp c148 | exact Decidable.not_not.mp c148
            refine st_gr jo_176 jr_176_60 ?_
            refine st_ai jo_225 (show 0 ≤ x2 by omega) (show x2 < ((96 : Nat) : Int) by omega) (fun v164 ev164 b165 => ?_)
            replace ev164 : v164 = g 225 x2 := ev164
            replace b165 := (jba_225 x2 _).1 b165
            show jGo E l 149 229 229 _ 394 [.inr (.inr (.inl 176)), .inl a1, .inl x2, x3, x4] [.inl v164, .inl x2, .inr (.inr (.inl 225))] 229 jr0 g
            refine jGo_blk qX12_aside_394 ?_
            refine st_si jo_225 (show 0 ≤ x2 by omega) (show x2 < ((96 : Nat) : Int) by omega) (fun hx => (jba_225 _ _).2 hx) (fun g166 eg166 => ?_)
            replace eg166 : g166 = jup g 225 x2 v164 := eg166
            have fg166 : jfr w_X12_aside h g166 := jfr_up hf eg166 (by unfold w_X12_aside; omega)
            have e167 : g166 225 x2 = v164 := jup_s eg166
            refine st_gr jo_176 jr_176_26 ?_
            refine st_gr jo_176 jr_176_60 ?_
            refine st_ai jo_225 (show 0 ≤ x2 by omega) (show x2 < ((96 : Nat) : Int) by omega) (fun v168 ev168 b169 => ?_)
            replace ev168 : v168 = g166 225 x2 := ev168
            replace b169 := (jba_225 x2 _).1 b169
            refine st_si jo_200 (show 0 ≤ x2 by omega) (show x2 < ((96 : Nat) : Int) by omega) (fun hx => (jba_200 _ _).2 hx) (fun g170 eg170 => ?_)
            replace eg170 : g170 = jup g166 200 x2 v168 := eg170
            have fg170 : jfr w_X12_aside h g170 := jfr_up fg166 eg170 (by unfold w_X12_aside; omega)
            have e171 : g170 200 x2 = v168 := jup_s eg170
            have e172 : jw32 (x2 + 1) = x2 + 1 := jzj32 (by omega)
            show jGo E l 149 229 229 _ 364 [.inr (.inr (.inl 176)), .inl a1, .inl (jw32 (x2 + 1)), x3, x4] [] 229 jr0 g170
            have e173 : g170 224 0 = g166 224 0 := jup_o eg170 (by first | exact fun q => absurd q.1 (by decide) | exact fun q => absurd q.2 (by decide) | omega)
            have e174 : g166 224 0 = g 224 0 := jup_o eg166 (by first | exact fun q => absurd q.1 (by decide) | exact fun q => absurd q.2 (by decide) | omega)
            have e175 : g170 176 0 = g166 176 0 := jup_o eg170 (by first | exact fun q => absurd q.1 (by decide) | exact fun q => absurd q.2 (by decide) | omega)
            have e176 : g166 176 0 = g 176 0 := jup_o eg166 (by first | exact fun q => absurd q.1 (by decide) | exact fun q => absurd q.2 (by decide) | omega)
            have e177 : g170 176 0 = g166 176 0 := jup_o eg170 (by first | exact fun q => absurd q.1 (by decide) | exact fun q => absurd q.2 (by decide) | omega)
            have e178 : g166 176 0 = g 176 0 := jup_o eg166 (by first | exact fun q => absurd q.1 (by decide) | exact fun q => absurd q.2 (by decide) | omega)
            exact ih.2.2.2 (jw32 (x2 + 1)) x3 x4 g170 (by omega) (by omega) (by rw [show jw32 (x2 + 1) = x2 + 1 by omega, jit_s (by omega), ← hx1]; subst eg170 ev168 eg166 ev164; unfold jA5; (repeat (first | rw [if_pos (by omega)] | rw [if_neg (by omega)])); all_goals ((try rw [e172]); (try rfl))) fg170 (by omega)
  refine jGo_blk qX12_aside_0 ?_
  refine st_gi jo_176 (fun v179 ev179 b180 => ?_)
  replace ev179 : v179 = h 176 0 := ev179
  replace b180 := (jbf_12_0 jo_176 _).1 b180
  refine st_cv (na := 3) (st := [.inl a1, .inl v179, .inl 0, .inr (.inr (.inl 176)), .inr (.inr (.inl 176))]) jo_176 rfl rfl rfl (c_X12_swap 0 v179 a1 h (by omega) (by omega) (fun hx => (jk_day _).2 (by omega))) rfl ?_
  rintro _ _ g182 ⟨rfl, ft181, t181, rfl, ht181, zt181⟩ kt181
  replace kt181 : -2147483648 ≤ t181 ∧ t181 ≤ 2147483647 := kt181
  have fg182 : jfr w_X12_aside h g182 := jfr_tr f0 ft181 ws_X12_swap__X12_aside
  replace zt181 : jbd 224 (0 : Int) t181 ∧ (a1 = 0 → t181 = v179 ∧ g182 = jup h 224 (0 : Int) v179) ∧ (¬ a1 = 0 → t181 = h 224 (0 : Int) ∧ g182 = h) ∧ (∀ j : Int, j ≠ (0 : Int) → g182 224 j = h 224 j) ∧ (t181 = if a1 = 0 then v179 else h 224 (0 : Int)) ∧ (g182 = if a1 = 0 then jup h 224 (0 : Int) v179 else h) := zt181
  have y183 := zt181.2.2.2.2.1
  have y184 := zt181.2.2.2.2.2
  have jct181 := (jk_day _).1 zt181.1
  have jdt181 : (a1 = 0 → t181 = v179 ∧ g182 224 0 = v179) ∧ (¬ a1 = 0 → t181 = h 224 0) := ⟨fun q => ⟨(zt181.2.1 q).1, jup_s (zt181.2.1 q).2⟩, fun q => (zt181.2.2.1 q).1⟩
  clear zt181
  refine st_pi jo_176 (fun hx => (jbf_12_0 jo_176 _).2 (show 0 ≤ t181 ∧ t181 ≤ 2300 by omega)) (fun g185 eg185 => ?_)
  replace eg185 : g185 = jup g182 176 0 t181 := eg185
  have fg185 : jfr w_X12_aside h g185 := jfr_up fg182 eg185 (by unfold w_X12_aside; omega)
  have e186 : g185 176 0 = t181 := jup_s eg185
  have sw187 : g185 = jSw a1 0 176 0 h := by
    unfold jSw; rw [eg185, y184, y183, ev179]
  clear y183 y184
  refine st_gi jo_176 (fun v188 ev188 b189 => ?_)
  replace ev188 : v188 = g185 176 30 := ev188
  replace b189 := (jbf_12_30 jo_176 _).1 b189
  have e190 : g185 176 30 = g182 176 30 := jup_o eg185 (by first | exact fun q => absurd q.1 (by decide) | exact fun q => absurd q.2 (by decide) | omega)
  have e191 : g182 176 30 = h 176 30 := ft181 176 30 (by unfold w_X12_swap; omega)
  refine st_cv (na := 3) (st := [.inl a1, .inl v188, .inl 1, .inr (.inr (.inl 176)), .inr (.inr (.inl 176))]) jo_176 rfl rfl rfl (c_X12_swap 1 v188 a1 g185 (by omega) (by omega) (fun hx => (jk_df (by omega) (by omega) (by omega) _).2 hx)) rfl ?_
  rintro _ _ g193 ⟨rfl, ft192, t192, rfl, ht192, zt192⟩ kt192
  replace kt192 : -2147483648 ≤ t192 ∧ t192 ≤ 2147483647 := kt192
  have fg193 : jfr w_X12_aside h g193 := jfr_tr fg185 ft192 ws_X12_swap__X12_aside
  replace zt192 : jbd 224 (1 : Int) t192 ∧ (a1 = 0 → t192 = v188 ∧ g193 = jup g185 224 (1 : Int) v188) ∧ (¬ a1 = 0 → t192 = g185 224 (1 : Int) ∧ g193 = g185) ∧ (∀ j : Int, j ≠ (1 : Int) → g193 224 j = g185 224 j) ∧ (t192 = if a1 = 0 then v188 else g185 224 (1 : Int)) ∧ (g193 = if a1 = 0 then jup g185 224 (1 : Int) v188 else g185) := zt192
  have y194 := zt192.2.2.2.2.1
  have y195 := zt192.2.2.2.2.2
  have jst192 : g193 224 0 = g185 224 0 := zt192.2.2.2.1 0 (by omega)
  clear zt192
  refine st_pi jo_176 (fun hx => (jbf_12_30 jo_176 _).2 hx) (fun g196 eg196 => ?_)
  replace eg196 : g196 = jup g193 176 30 t192 := eg196
  have fg196 : jfr w_X12_aside h g196 := jfr_up fg193 eg196 (by unfold w_X12_aside; omega)
  have e197 : g196 176 30 = t192 := jup_s eg196
  have sw198 : g196 = jSw a1 1 176 30 g185 := by
    unfold jSw; rw [eg196, y195, y194, ev188]
  clear y194 y195
  refine st_gi jo_176 (fun v199 ev199 b200 => ?_)
  replace ev199 : v199 = g196 176 31 := ev199
  replace b200 := (jbf_12_31 jo_176 _).1 b200
  have e201 : g196 176 31 = g193 176 31 := jup_o eg196 (by first | exact fun q => absurd q.1 (by decide) | exact fun q => absurd q.2 (by decide) | omega)
  have e202 : g193 176 31 = g185 176 31 := ft192 176 31 (by unfold w_X12_swap; omega)
  have e203 : g185 176 31 = g182 176 31 := jup_o eg185 (by first | exact fun q => absurd q.1 (by decide) | exact fun q => absurd q.2 (by decide) | omega)
  have e204 : g182 176 31 = h 176 31 := ft181 176 31 (by unfold w_X12_swap; omega)
  refine st_cv (na := 3) (st := [.inl a1, .inl v199, .inl 2, .inr (.inr (.inl 176)), .inr (.inr (.inl 176))]) jo_176 rfl rfl rfl (c_X12_swap 2 v199 a1 g196 (by omega) (by omega) (fun hx => (jk_df (by omega) (by omega) (by omega) _).2 hx)) rfl ?_
  rintro _ _ g206 ⟨rfl, ft205, t205, rfl, ht205, zt205⟩ kt205
  replace kt205 : -2147483648 ≤ t205 ∧ t205 ≤ 2147483647 := kt205
  have fg206 : jfr w_X12_aside h g206 := jfr_tr fg196 ft205 ws_X12_swap__X12_aside
  replace zt205 : jbd 224 (2 : Int) t205 ∧ (a1 = 0 → t205 = v199 ∧ g206 = jup g196 224 (2 : Int) v199) ∧ (¬ a1 = 0 → t205 = g196 224 (2 : Int) ∧ g206 = g196) ∧ (∀ j : Int, j ≠ (2 : Int) → g206 224 j = g196 224 j) ∧ (t205 = if a1 = 0 then v199 else g196 224 (2 : Int)) ∧ (g206 = if a1 = 0 then jup g196 224 (2 : Int) v199 else g196) := zt205
  have y207 := zt205.2.2.2.2.1
  have y208 := zt205.2.2.2.2.2
  have jst205 : g206 224 0 = g196 224 0 := zt205.2.2.2.1 0 (by omega)
  clear zt205
  refine st_pi jo_176 (fun hx => (jbf_12_31 jo_176 _).2 hx) (fun g209 eg209 => ?_)
  replace eg209 : g209 = jup g206 176 31 t205 := eg209
  have fg209 : jfr w_X12_aside h g209 := jfr_up fg206 eg209 (by unfold w_X12_aside; omega)
  have e210 : g209 176 31 = t205 := jup_s eg209
  have sw211 : g209 = jSw a1 2 176 31 g196 := by
    unfold jSw; rw [eg209, y208, y207, ev199]
  clear y207 y208
  refine st_gi jo_176 (fun v212 ev212 b213 => ?_)
  replace ev212 : v212 = g209 176 32 := ev212
  replace b213 := (jbf_12_32 jo_176 _).1 b213
  have e214 : g209 176 32 = g206 176 32 := jup_o eg209 (by first | exact fun q => absurd q.1 (by decide) | exact fun q => absurd q.2 (by decide) | omega)
  have e215 : g206 176 32 = g196 176 32 := ft205 176 32 (by unfold w_X12_swap; omega)
  have e216 : g196 176 32 = g193 176 32 := jup_o eg196 (by first | exact fun q => absurd q.1 (by decide) | exact fun q => absurd q.2 (by decide) | omega)
  have e217 : g193 176 32 = g185 176 32 := ft192 176 32 (by unfold w_X12_swap; omega)
  have e218 : g185 176 32 = g182 176 32 := jup_o eg185 (by first | exact fun q => absurd q.1 (by decide) | exact fun q => absurd q.2 (by decide) | omega)
  have e219 : g182 176 32 = h 176 32 := ft181 176 32 (by unfold w_X12_swap; omega)
  refine st_cv (na := 3) (st := [.inl a1, .inl v212, .inl 3, .inr (.inr (.inl 176)), .inr (.inr (.inl 176))]) jo_176 rfl rfl rfl (c_X12_swap 3 v212 a1 g209 (by omega) (by omega) (fun hx => (jk_df (by omega) (by omega) (by omega) _).2 hx)) rfl ?_
  rintro _ _ g221 ⟨rfl, ft220, t220, rfl, ht220, zt220⟩ kt220
  replace kt220 : -2147483648 ≤ t220 ∧ t220 ≤ 2147483647 := kt220
  have fg221 : jfr w_X12_aside h g221 := jfr_tr fg209 ft220 ws_X12_swap__X12_aside
  replace zt220 : jbd 224 (3 : Int) t220 ∧ (a1 = 0 → t220 = v212 ∧ g221 = jup g209 224 (3 : Int) v212) ∧ (¬ a1 = 0 → t220 = g209 224 (3 : Int) ∧ g221 = g209) ∧ (∀ j : Int, j ≠ (3 : Int) → g221 224 j = g209 224 j) ∧ (t220 = if a1 = 0 then v212 else g209 224 (3 : Int)) ∧ (g221 = if a1 = 0 then jup g209 224 (3 : Int) v212 else g209) := zt220
  have y222 := zt220.2.2.2.2.1
  have y223 := zt220.2.2.2.2.2
  have jst220 : g221 224 0 = g209 224 0 := zt220.2.2.2.1 0 (by omega)
  clear zt220
  refine st_pi jo_176 (fun hx => (jbf_12_32 jo_176 _).2 hx) (fun g224 eg224 => ?_)
  replace eg224 : g224 = jup g221 176 32 t220 := eg224
  have fg224 : jfr w_X12_aside h g224 := jfr_up fg221 eg224 (by unfold w_X12_aside; omega)
  have e225 : g224 176 32 = t220 := jup_s eg224
  have sw226 : g224 = jSw a1 3 176 32 g209 := by
    unfold jSw; rw [eg224, y223, y222, ev212]
  clear y222 y223
  show jGo E l 149 229 229 _ 58 [.inr (.inr (.inl 176)), .inl a1, .inl 0, .inr (.inr (.inr ())), .inr (.inr (.inr ()))] [] 229 jr0 g224
  have e227 : g224 224 0 = g221 224 0 := jup_o eg224 (by first | exact fun q => absurd q.1 (by decide) | exact fun q => absurd q.2 (by decide) | omega)
  have e228 : g209 224 0 = g206 224 0 := jup_o eg209 (by first | exact fun q => absurd q.1 (by decide) | exact fun q => absurd q.2 (by decide) | omega)
  have e229 : g196 224 0 = g193 224 0 := jup_o eg196 (by first | exact fun q => absurd q.1 (by decide) | exact fun q => absurd q.2 (by decide) | omega)
  have e230 : g185 224 0 = g182 224 0 := jup_o eg185 (by first | exact fun q => absurd q.1 (by decide) | exact fun q => absurd q.2 (by decide) | omega)
  have e231 : g224 176 0 = g221 176 0 := jup_o eg224 (by first | exact fun q => absurd q.1 (by decide) | exact fun q => absurd q.2 (by decide) | omega)
  have e232 : g221 176 0 = g209 176 0 := ft220 176 0 (by unfold w_X12_swap; omega)
  have e233 : g209 176 0 = g206 176 0 := jup_o eg209 (by first | exact fun q => absurd q.1 (by decide) | exact fun q => absurd q.2 (by decide) | omega)
  have e234 : g206 176 0 = g196 176 0 := ft205 176 0 (by unfold w_X12_swap; omega)
  have e235 : g196 176 0 = g193 176 0 := jup_o eg196 (by first | exact fun q => absurd q.1 (by decide) | exact fun q => absurd q.2 (by decide) | omega)
  have e236 : g193 176 0 = g185 176 0 := ft192 176 0 (by unfold w_X12_swap; omega)
  have e237 : g224 176 0 = g221 176 0 := jup_o eg224 (by first | exact fun q => absurd q.1 (by decide) | exact fun q => absurd q.2 (by decide) | omega)
  have e238 : g221 176 0 = g209 176 0 := ft220 176 0 (by unfold w_X12_swap; omega)
  have e239 : g209 176 0 = g206 176 0 := jup_o eg209 (by first | exact fun q => absurd q.1 (by decide) | exact fun q => absurd q.2 (by decide) | omega)
  have e240 : g206 176 0 = g196 176 0 := ft205 176 0 (by unfold w_X12_swap; omega)
  have e241 : g196 176 0 = g193 176 0 := jup_o eg196 (by first | exact fun q => absurd q.1 (by decide) | exact fun q => absurd q.2 (by decide) | omega)
  have e242 : g193 176 0 = g185 176 0 := ft192 176 0 (by unfold w_X12_swap; omega)
  exact (key 1000000000000000000).1 0 g224 (by omega) (by omega) (by rw [jit_0, sw226, sw211, sw198, sw187]; rfl) fg224 (by omega)
