def w_X12_payAll (i k : Int) : Prop := (i = 181) ∨ (i = 176 ∧ 30 ≤ k ∧ k ≤ 31)
def k_X12_payAll (h : JH) (v : Option JV) (r' g : JH) : Prop := r' = jr0 ∧ jfr w_X12_payAll h g ∧ v = none ∧ (True)
set_option maxHeartbeats 4000000 in
theorem c_X12_payAll {E : JE} {l : Launch} (h : JH) : jMt E l 93 [.inr (.inr (.inl 176))] 229 jr0 h (k_X12_payAll h) := by
  refine jMt0 (nL := 5) (ls := [.inr (.inr (.inl 176)), .inr (.inr (.inr ())), .inr (.inr (.inr ())), .inr (.inr (.inr ())), .inr (.inr (.inr ()))]) (by decide +kernel) (by decide +kernel) (by decide +kernel) rfl rfl ?_
  have f0 : jfr w_X12_payAll h h := jfr_rf _ _
  have key : ∀ N : Nat, (∀ (x1 : Int) (x2 : JV) (x3 : JV) (x4 : JV) (g : JH), (0 ≤ x1 ∧ x1 ≤ 4) → jfr w_X12_payAll h g → (4 - x1) < (N : Int) → jGo E l 93 229 229 (jRK (k_X12_payAll h)) 2 [.inr (.inr (.inl 176)), .inl x1, x2, x3, x4] [] 229 jr0 g) := by
    intro N
    induction N with
    | zero => exact fun _ _ _ _ _ hi _ hN => absurd hN (by omega)
    | succ N ih =>
      intro x1 x2 x3 x4 g hi hf hN
      refine jGo_blk qX12_payAll_2 ?_
      refine And.intro (fun c1 => ?_) (fun c1 => ?_)
      · replace c1 : 4 ≤ x1 := c1
        show jGo E l 93 229 229 _ 103 [.inr (.inr (.inl 176)), .inl x1, x2, x3, x4] [] 229 jr0 g
        refine jGo_blk qX12_payAll_103 ?_
        exact ⟨rfl, rfl, hf, rfl, trivial⟩
      · replace c1 : x1 < 4 := by first | exact c1 | exact Int.not_le.mp c1 | exact Int.not_lt.mp c1 | exact Decidable.not_not.mp c1
        refine st_gi jo_176 (fun v2 ev2 b3 => ?_)
        replace ev2 : v2 = g 176 0 := ev2
        replace b3 := (jbf_12_0 jo_176 _).1 b3
        refine st_cv (na := 2) (st := [.inl v2, .inl x1, .inr (.inr (.inl 176))]) jo_176 rfl rfl rfl (c_X12_handsAt x1 v2 g (by omega) (by omega)) rfl ?_
        rintro _ _ _ ⟨rfl, rfl, t4, rfl, ht4, zt4⟩ kt4
        replace kt4 : -2147483648 ≤ t4 ∧ t4 ≤ 2147483647 := kt4
        replace ht4 : 0 ≤ t4 ∧ t4 ≤ 400 := ht4
        replace zt4 : t4 = jHm g x1 v2 ∧ -1 ≤ g 178 x1 ∧ g 178 x1 ≤ 3 ∧ (g 178 x1 < 0 ∨ g 179 (g 178 x1) ≤ 30) := zt4
        refine st_gi jo_176 (fun v6 ev6 b7 => ?_)
        replace ev6 : v6 = g 176 30 := ev6
        replace b7 := (jbf_12_30 jo_176 _).1 b7
        refine st_gi jo_176 (fun v8 ev8 b9 => ?_)
        replace ev8 : v8 = g 176 0 := ev8
        replace b9 := (jbf_12_0 jo_176 _).1 b9
        refine st_cv (na := 3) (st := [.inl v8, .inl x1, .inl 0, .inr (.inr (.inl 176)), .inl t4, .inl v6, .inr (.inr (.inl 176))]) jo_176 rfl rfl rfl (c_X12_forceAt 0 x1 v8 g) rfl ?_
        rintro _ _ _ ⟨rfl, rfl, t10, rfl, ht10, zt10⟩ kt10
        replace kt10 : -2147483648 ≤ t10 ∧ t10 ≤ 2147483647 := kt10
        replace ht10 : 0 ≤ t10 ∧ t10 ≤ 200 := ht10
        replace zt10 : t10 = (jmv (g 182) (g 183) (g 184) (g 185) (0 : Int) x1 v8 (g 176 6).toNat).1 := zt10
        refine st_pi jo_176 (fun hx => (jbf_12_30 jo_176 _).2 hx) (fun g12 eg12 => ?_)
        replace eg12 : g12 = jup g 176 30 (jw32 (v6 + (jw32 (t4 * t10)))) := eg12
        have fg12 : jfr w_X12_payAll h g12 := jfr_up hf eg12 (by unfold w_X12_payAll; omega)
        have e13 : g12 176 30 = jw32 (v6 + (jw32 (t4 * t10))) := jup_s eg12
        refine st_gi jo_176 (fun v14 ev14 b15 => ?_)
        replace ev14 : v14 = g12 176 0 := ev14
        replace b15 := (jbf_12_0 jo_176 _).1 b15
        have e16 : g12 176 0 = g 176 0 := jup_o eg12 (by omega)
        refine st_cv (na := 3) (st := [.inl v14, .inl x1, .inl 1, .inr (.inr (.inl 176)), .inl t4]) jo_176 rfl rfl rfl (c_X12_forceAt 1 x1 v14 g12) rfl ?_
        rintro _ _ _ ⟨rfl, rfl, t17, rfl, ht17, zt17⟩ kt17
        replace kt17 : -2147483648 ≤ t17 ∧ t17 ≤ 2147483647 := kt17
        replace ht17 : 0 ≤ t17 ∧ t17 ≤ 200 := ht17
        replace zt17 : t17 = (jmv (g12 182) (g12 183) (g12 184) (g12 185) (1 : Int) x1 v14 (g12 176 6).toNat).1 := zt17
        refine st_gr jo_176 jr_176_5 ?_
        refine st_ai jo_181 (show 0 ≤ 5 by omega) (show 5 < ((6 : Nat) : Int) by omega) (fun v19 ev19 b20 => ?_)
        replace ev19 : v19 = g12 181 5 := ev19
        replace b20 := (jba_181 5 _).1 b20
        refine And.intro (fun c21 => ?_) (fun c21 => ?_)
        · replace c21 : v19 ≤ jw32 (t4 * t17) := c21
          show jGo E l 93 229 229 _ 65 [.inr (.inr (.inl 176)), .inl x1, .inl t4, .inl (jw32 (t4 * t17)), x4] [] 229 jr0 g12
          refine jGo_blk qX12_payAll_65 ?_
          refine st_gr jo_176 jr_176_5 ?_
          refine st_ai jo_181 (show 0 ≤ 5 by omega) (show 5 < ((6 : Nat) : Int) by omega) (fun v22 ev22 b23 => ?_)
          replace ev22 : v22 = g12 181 5 := ev22
          replace b23 := (jba_181 5 _).1 b23
          show jGo E l 93 229 229 _ 71 [.inr (.inr (.inl 176)), .inl x1, .inl t4, .inl (jw32 (t4 * t17)), x4] [.inl v22] 229 jr0 g12
          refine jGo_blk qX12_payAll_71 ?_
          refine st_gr jo_176 jr_176_5 ?_
          refine st_ai jo_181 (show 0 ≤ 5 by omega) (show 5 < ((6 : Nat) : Int) by omega) (fun v24 ev24 b25 => ?_)
          replace ev24 : v24 = g12 181 5 := ev24
          replace b25 := (jba_181 5 _).1 b25
          refine st_si jo_181 (show 0 ≤ 5 by omega) (show 5 < ((6 : Nat) : Int) by omega) (fun hx => (jba_181 _ _).2 hx) (fun g26 eg26 => ?_)
          replace eg26 : g26 = jup g12 181 5 (jw32 (v24 - v22)) := eg26
          have fg26 : jfr w_X12_payAll h g26 := jfr_up fg12 eg26 (by unfold w_X12_payAll; omega)
          have e27 : g26 181 5 = jw32 (v24 - v22) := jup_s eg26
          refine st_gi jo_176 (fun v28 ev28 b29 => ?_)
          replace ev28 : v28 = g26 176 31 := ev28
          replace b29 := (jbf_12_31 jo_176 _).1 b29
          have e30 : g26 176 31 = g12 176 31 := jup_o eg26 (by omega)
          have e31 : g12 176 31 = g 176 31 := jup_o eg12 (by omega)
          refine st_pi jo_176 (fun hx => (jbf_12_31 jo_176 _).2 hx) (fun g32 eg32 => ?_)
          replace eg32 : g32 = jup g26 176 31 (jw32 (v28 + (jw32 ((jw32 (t4 * t17)) - v22)))) := eg32
          have fg32 : jfr w_X12_payAll h g32 := jfr_up fg26 eg32 (by unfold w_X12_payAll; omega)
          have e33 : g32 176 31 = jw32 (v28 + (jw32 ((jw32 (t4 * t17)) - v22))) := jup_s eg32
          have e34 : jw32 (x1 + 1) = x1 + 1 := j32e (by omega) (by omega)
          show jGo E l 93 229 229 _ 2 [.inr (.inr (.inl 176)), .inl (jw32 (x1 + 1)), .inl t4, .inl (jw32 (t4 * t17)), .inl v22] [] 229 jr0 g32
          exact ih (jw32 (x1 + 1)) (.inl t4) (.inl (jw32 (t4 * t17))) (.inl v22) g32 (by omega) fg32 (by omega)
        · replace c21 : jw32 (t4 * t17) < v19 := by first | exact c21 | exact Int.not_le.mp c21 | exact Int.not_lt.mp c21 | exact Decidable.not_not.mp c21
          show jGo E l 93 229 229 _ 71 [.inr (.inr (.inl 176)), .inl x1, .inl t4, .inl (jw32 (t4 * t17)), x4] [.inl (jw32 (t4 * t17))] 229 jr0 g12
          refine jGo_blk qX12_payAll_71 ?_
          refine st_gr jo_176 jr_176_5 ?_
          refine st_ai jo_181 (show 0 ≤ 5 by omega) (show 5 < ((6 : Nat) : Int) by omega) (fun v35 ev35 b36 => ?_)
          replace ev35 : v35 = g12 181 5 := ev35
          replace b36 := (jba_181 5 _).1 b36
          refine st_si jo_181 (show 0 ≤ 5 by omega) (show 5 < ((6 : Nat) : Int) by omega) (fun hx => (jba_181 _ _).2 hx) (fun g37 eg37 => ?_)
          replace eg37 : g37 = jup g12 181 5 (jw32 (v35 - (jw32 (t4 * t17)))) := eg37
          have fg37 : jfr w_X12_payAll h g37 := jfr_up fg12 eg37 (by unfold w_X12_payAll; omega)
          have e38 : g37 181 5 = jw32 (v35 - (jw32 (t4 * t17))) := jup_s eg37
          refine st_gi jo_176 (fun v39 ev39 b40 => ?_)
          replace ev39 : v39 = g37 176 31 := ev39
          replace b40 := (jbf_12_31 jo_176 _).1 b40
          have e41 : g37 176 31 = g12 176 31 := jup_o eg37 (by omega)
          have e42 : g12 176 31 = g 176 31 := jup_o eg12 (by omega)
          refine st_pi jo_176 (fun hx => (jbf_12_31 jo_176 _).2 hx) (fun g43 eg43 => ?_)
          replace eg43 : g43 = jup g37 176 31 (jw32 (v39 + (jw32 ((jw32 (t4 * t17)) - (jw32 (t4 * t17)))))) := eg43
          have fg43 : jfr w_X12_payAll h g43 := jfr_up fg37 eg43 (by unfold w_X12_payAll; omega)
          have e44 : g43 176 31 = jw32 (v39 + (jw32 ((jw32 (t4 * t17)) - (jw32 (t4 * t17))))) := jup_s eg43
          have e45 : jw32 (x1 + 1) = x1 + 1 := j32e (by omega) (by omega)
          show jGo E l 93 229 229 _ 2 [.inr (.inr (.inl 176)), .inl (jw32 (x1 + 1)), .inl t4, .inl (jw32 (t4 * t17)), .inl (jw32 (t4 * t17))] [] 229 jr0 g43
          exact ih (jw32 (x1 + 1)) (.inl t4) (.inl (jw32 (t4 * t17))) (.inl (jw32 (t4 * t17))) g43 (by omega) fg43 (by omega)
  refine jGo_blk qX12_payAll_0 ?_
  show jGo E l 93 229 229 _ 2 [.inr (.inr (.inl 176)), .inl 0, .inr (.inr (.inr ())), .inr (.inr (.inr ())), .inr (.inr (.inr ()))] [] 229 jr0 h
  exact (key 1000000000000) 0 (.inr (.inr (.inr ()))) (.inr (.inr (.inr ()))) (.inr (.inr (.inr ()))) h (by omega) f0 (by omega)

def w_X12_takeGoods (i k : Int) : Prop := (i = 181) ∨ (196 ≤ i ∧ i ≤ 197)
def k_X12_takeGoods (a1 : Int) (h : JH) (v : Option JV) (r' g : JH) : Prop := r' = jr0 ∧ jfr w_X12_takeGoods h g ∧ v = none ∧ (True)
set_option maxHeartbeats 4000000 in
theorem c_X12_takeGoods {E : JE} {l : Launch} (a1 : Int) (h : JH) (p1 : 0 ≤ a1 ∧ a1 ≤ 15) : jMt E l 91 [.inr (.inr (.inl 176)), .inl a1] 229 jr0 h (k_X12_takeGoods a1 h) := by
  refine jMt0 (nL := 4) (ls := [.inr (.inr (.inl 176)), .inl a1, .inr (.inr (.inr ())), .inr (.inr (.inr ()))]) (by decide +kernel) (by decide +kernel) (by decide +kernel) rfl rfl ?_
  have f0 : jfr w_X12_takeGoods h h := jfr_rf _ _
  have key : ∀ N : Nat, (∀ (x2 : Int) (x3 : Int) (g : JH), (0 ≤ x2 ∧ x2 ≤ 1 ∧ 0 ≤ x3 ∧ x3 ≤ 6) → jfr w_X12_takeGoods h g → (6 - x3) + 20000 < (N : Int) → jGo E l 91 229 229 (jRK (k_X12_takeGoods a1 h)) 4 [.inr (.inr (.inl 176)), .inl a1, .inl x2, .inl x3] [] 229 jr0 g) ∧
      (∀ (x2 : Int) (x3 : Int) (g : JH), (0 ≤ x2 ∧ x2 ≤ 1 ∧ 0 ≤ x3 ∧ x3 ≤ 6) → jfr w_X12_takeGoods h g → (6 - x3) < (N : Int) → jGo E l 91 229 229 (jRK (k_X12_takeGoods a1 h)) 48 [.inr (.inr (.inl 176)), .inl a1, .inl x2, .inl x3] [] 229 jr0 g) := by
    intro N
    induction N with
    | zero => exact ⟨fun _ _ _ hi _ hN => absurd hN (by omega), fun _ _ _ hi _ hN => absurd hN (by omega)⟩
    | succ N ih =>
      refine ⟨?_, ?_⟩
      · intro x2 x3 g hi hf hN
        refine jGo_blk qX12_takeGoods_4 ?_
        refine And.intro (fun c1 => ?_) (fun c1 => ?_)
        · replace c1 : 6 ≤ x3 := c1
          show jGo E l 91 229 229 _ 46 [.inr (.inr (.inl 176)), .inl a1, .inl x2, .inl x3] [] 229 jr0 g
          refine jGo_blk qX12_takeGoods_46 ?_
          show jGo E l 91 229 229 _ 48 [.inr (.inr (.inl 176)), .inl a1, .inl x2, .inl 0] [] 229 jr0 g
          exact ih.2 x2 0 g (by omega) hf (by omega)
        · replace c1 : x3 < 6 := by first | exact c1 | exact Int.not_le.mp c1 | exact Int.not_lt.mp c1 | exact Decidable.not_not.mp c1
          refine And.intro (fun c2 => ?_) (fun c2 => ?_)
          · replace c2 : x2 = 0 := c2
            show jGo E l 91 229 229 _ 38 [.inr (.inr (.inl 176)), .inl a1, .inl x2, .inl x3] [] 229 jr0 g
            refine jGo_blk qX12_takeGoods_38 ?_
            show jGo E l 91 229 229 _ 39 [.inr (.inr (.inl 176)), .inl a1, .inl x2, .inl x3] [.inl 0] 229 jr0 g
            refine jGo_blk qX12_takeGoods_39 ?_
            have e3 : jw32 (x3 + 1) = x3 + 1 := j32e (by omega) (by omega)
            show jGo E l 91 229 229 _ 4 [.inr (.inr (.inl 176)), .inl a1, .inl 0, .inl (jw32 (x3 + 1))] [] 229 jr0 g
            exact ih.1 0 (jw32 (x3 + 1)) g (by omega) hf (by omega)
          · replace c2 : ¬ x2 = 0 := by first | exact c2 | exact Int.not_le.mp c2 | exact Int.not_lt.mp c2 | exact Decidable.not_not.mp c2
            refine st_gr jo_176 jr_176_5 ?_
            refine st_ai jo_181 (show 0 ≤ x3 by omega) (show x3 < ((6 : Nat) : Int) by omega) (fun v4 ev4 b5 => ?_)
            replace ev4 : v4 = g 181 x3 := ev4
            replace b5 := (jba_181 x3 _).1 b5
            refine st_gr jo_176 jr_176_25 ?_
            have e6 : jw32 (6 * a1) = 6 * a1 := j32e (by omega) (by omega)
            have e7 : jw32 ((jw32 (6 * a1)) + x3) = (jw32 (6 * a1)) + x3 := j32e (by omega) (by omega)
            refine st_ai jo_199 (show 0 ≤ jw32 ((jw32 (6 * a1)) + x3) by omega) (show jw32 ((jw32 (6 * a1)) + x3) < ((96 : Nat) : Int) by omega) (fun v8 ev8 b9 => ?_)
            replace ev8 : v8 = g 199 (jw32 ((jw32 (6 * a1)) + x3)) := ev8
            replace b9 := (jba_199 (jw32 ((jw32 (6 * a1)) + x3)) _).1 b9
            refine And.intro (fun c10 => ?_) (fun c10 => ?_)
            · replace c10 : v4 < v8 := c10
              show jGo E l 91 229 229 _ 38 [.inr (.inr (.inl 176)), .inl a1, .inl x2, .inl x3] [] 229 jr0 g
              refine jGo_blk qX12_takeGoods_38 ?_
              show jGo E l 91 229 229 _ 39 [.inr (.inr (.inl 176)), .inl a1, .inl x2, .inl x3] [.inl 0] 229 jr0 g
              refine jGo_blk qX12_takeGoods_39 ?_
              have e11 : jw32 (x3 + 1) = x3 + 1 := j32e (by omega) (by omega)
              show jGo E l 91 229 229 _ 4 [.inr (.inr (.inl 176)), .inl a1, .inl 0, .inl (jw32 (x3 + 1))] [] 229 jr0 g
              exact ih.1 0 (jw32 (x3 + 1)) g (by omega) hf (by omega)
            · replace c10 : v8 ≤ v4 := by first | exact c10 | exact Int.not_le.mp c10 | exact Int.not_lt.mp c10 | exact Decidable.not_not.mp c10
              show jGo E l 91 229 229 _ 39 [.inr (.inr (.inl 176)), .inl a1, .inl x2, .inl x3] [.inl 1] 229 jr0 g
              refine jGo_blk qX12_takeGoods_39 ?_
              have e12 : jw32 (x3 + 1) = x3 + 1 := j32e (by omega) (by omega)
              show jGo E l 91 229 229 _ 4 [.inr (.inr (.inl 176)), .inl a1, .inl 1, .inl (jw32 (x3 + 1))] [] 229 jr0 g
              exact ih.1 1 (jw32 (x3 + 1)) g (by omega) hf (by omega)
      · intro x2 x3 g hi hf hN
        refine jGo_blk qX12_takeGoods_48 ?_
        refine And.intro (fun c13 => ?_) (fun c13 => ?_)
        · replace c13 : 6 ≤ x3 := c13
          show jGo E l 91 229 229 _ 84 [.inr (.inr (.inl 176)), .inl a1, .inl x2, .inl x3] [] 229 jr0 g
          refine jGo_blk qX12_takeGoods_84 ?_
          refine st_gr jo_176 jr_176_22 ?_
          refine st_sb jo_196 (show 0 ≤ a1 by omega) (show a1 < ((16 : Nat) : Int) by omega) (fun hx => (jba_196 _ _).2 (show 0 ≤ x2 ∧ x2 ≤ 1 by omega)) (fun g14 eg14 => ?_)
          replace eg14 : g14 = jup g 196 a1 x2 := eg14
          have fg14 : jfr w_X12_takeGoods h g14 := jfr_up hf eg14 (by unfold w_X12_takeGoods; omega)
          have e15 : g14 196 a1 = x2 := jup_s eg14
          refine st_gr jo_176 jr_176_23 ?_
          refine st_ai jo_197 (show 0 ≤ a1 by omega) (show a1 < ((16 : Nat) : Int) by omega) (fun v16 ev16 b17 => ?_)
          replace ev16 : v16 = g14 197 a1 := ev16
          replace b17 := (jba_197 a1 _).1 b17
          refine And.intro (fun c18 => ?_) (fun c18 => ?_)
          · replace c18 : x2 = 0 := c18
            show jGo E l 91 229 229 _ 106 [.inr (.inr (.inl 176)), .inl a1, .inl x2, .inl x3] [.inl v16, .inl a1, .inr (.inr (.inl 197))] 229 jr0 g14
            refine jGo_blk qX12_takeGoods_106 ?_
            show jGo E l 91 229 229 _ 107 [.inr (.inr (.inl 176)), .inl a1, .inl x2, .inl x3] [.inl 1, .inl v16, .inl a1, .inr (.inr (.inl 197))] 229 jr0 g14
            refine jGo_blk qX12_takeGoods_107 ?_
            refine st_si jo_197 (show 0 ≤ a1 by omega) (show a1 < ((16 : Nat) : Int) by omega) (fun hx => (jba_197 _ _).2 hx) (fun g19 eg19 => ?_)
            replace eg19 : g19 = jup g14 197 a1 (jw32 (v16 + 1)) := eg19
            have fg19 : jfr w_X12_takeGoods h g19 := jfr_up fg14 eg19 (by unfold w_X12_takeGoods; omega)
            have e20 : g19 197 a1 = jw32 (v16 + 1) := jup_s eg19
            exact ⟨rfl, rfl, fg19, rfl, trivial⟩
          · replace c18 : ¬ x2 = 0 := by first | exact c18 | exact Int.not_le.mp c18 | exact Int.not_lt.mp c18 | exact Decidable.not_not.mp c18
            show jGo E l 91 229 229 _ 107 [.inr (.inr (.inl 176)), .inl a1, .inl x2, .inl x3] [.inl 0, .inl v16, .inl a1, .inr (.inr (.inl 197))] 229 jr0 g14
            refine jGo_blk qX12_takeGoods_107 ?_
            refine st_si jo_197 (show 0 ≤ a1 by omega) (show a1 < ((16 : Nat) : Int) by omega) (fun hx => (jba_197 _ _).2 hx) (fun g21 eg21 => ?_)
            replace eg21 : g21 = jup g14 197 a1 (jw32 (v16 + 0)) := eg21
            have fg21 : jfr w_X12_takeGoods h g21 := jfr_up fg14 eg21 (by unfold w_X12_takeGoods; omega)
            have e22 : g21 197 a1 = jw32 (v16 + 0) := jup_s eg21
            exact ⟨rfl, rfl, fg21, rfl, trivial⟩
        · replace c13 : x3 < 6 := by first | exact c13 | exact Int.not_le.mp c13 | exact Int.not_lt.mp c13 | exact Decidable.not_not.mp c13
          refine And.intro (fun c23 => ?_) (fun c23 => ?_)
          · replace c23 : x2 = 0 := c23
            show jGo E l 91 229 229 _ 84 [.inr (.inr (.inl 176)), .inl a1, .inl x2, .inl x3] [] 229 jr0 g
            refine jGo_blk qX12_takeGoods_84 ?_
            refine st_gr jo_176 jr_176_22 ?_
            refine st_sb jo_196 (show 0 ≤ a1 by omega) (show a1 < ((16 : Nat) : Int) by omega) (fun hx => (jba_196 _ _).2 (show 0 ≤ x2 ∧ x2 ≤ 1 by omega)) (fun g24 eg24 => ?_)
            replace eg24 : g24 = jup g 196 a1 x2 := eg24
            have fg24 : jfr w_X12_takeGoods h g24 := jfr_up hf eg24 (by unfold w_X12_takeGoods; omega)
            have e25 : g24 196 a1 = x2 := jup_s eg24
            refine st_gr jo_176 jr_176_23 ?_
            refine st_ai jo_197 (show 0 ≤ a1 by omega) (show a1 < ((16 : Nat) : Int) by omega) (fun v26 ev26 b27 => ?_)
            replace ev26 : v26 = g24 197 a1 := ev26
            replace b27 := (jba_197 a1 _).1 b27
            refine And.intro (fun c28 => ?_) (fun c28 => ?_)
            · replace c28 : x2 = 0 := c28
              show jGo E l 91 229 229 _ 106 [.inr (.inr (.inl 176)), .inl a1, .inl x2, .inl x3] [.inl v26, .inl a1, .inr (.inr (.inl 197))] 229 jr0 g24
              refine jGo_blk qX12_takeGoods_106 ?_
              show jGo E l 91 229 229 _ 107 [.inr (.inr (.inl 176)), .inl a1, .inl x2, .inl x3] [.inl 1, .inl v26, .inl a1, .inr (.inr (.inl 197))] 229 jr0 g24
              refine jGo_blk qX12_takeGoods_107 ?_
              refine st_si jo_197 (show 0 ≤ a1 by omega) (show a1 < ((16 : Nat) : Int) by omega) (fun hx => (jba_197 _ _).2 hx) (fun g29 eg29 => ?_)
              replace eg29 : g29 = jup g24 197 a1 (jw32 (v26 + 1)) := eg29
              have fg29 : jfr w_X12_takeGoods h g29 := jfr_up fg24 eg29 (by unfold w_X12_takeGoods; omega)
              have e30 : g29 197 a1 = jw32 (v26 + 1) := jup_s eg29
              exact ⟨rfl, rfl, fg29, rfl, trivial⟩
            · replace c28 : ¬ x2 = 0 := by first | exact c28 | exact Int.not_le.mp c28 | exact Int.not_lt.mp c28 | exact Decidable.not_not.mp c28
              exfalso; omega
          · replace c23 : ¬ x2 = 0 := by first | exact c23 | exact Int.not_le.mp c23 | exact Int.not_lt.mp c23 | exact Decidable.not_not.mp c23
            refine st_gr jo_176 jr_176_5 ?_
            refine st_ai jo_181 (show 0 ≤ x3 by omega) (show x3 < ((6 : Nat) : Int) by omega) (fun v31 ev31 b32 => ?_)
            replace ev31 : v31 = g 181 x3 := ev31
            replace b32 := (jba_181 x3 _).1 b32
            refine st_gr jo_176 jr_176_25 ?_
            have e33 : jw32 (6 * a1) = 6 * a1 := j32e (by omega) (by omega)
            have e34 : jw32 ((jw32 (6 * a1)) + x3) = (jw32 (6 * a1)) + x3 := j32e (by omega) (by omega)
            refine st_ai jo_199 (show 0 ≤ jw32 ((jw32 (6 * a1)) + x3) by omega) (show jw32 ((jw32 (6 * a1)) + x3) < ((96 : Nat) : Int) by omega) (fun v35 ev35 b36 => ?_)
            replace ev35 : v35 = g 199 (jw32 ((jw32 (6 * a1)) + x3)) := ev35
            replace b36 := (jba_199 (jw32 ((jw32 (6 * a1)) + x3)) _).1 b36
            refine st_si jo_181 (show 0 ≤ x3 by omega) (show x3 < ((6 : Nat) : Int) by omega) (fun hx => (jba_181 _ _).2 hx) (fun g37 eg37 => ?_)
            replace eg37 : g37 = jup g 181 x3 (jw32 (v31 - v35)) := eg37
            have fg37 : jfr w_X12_takeGoods h g37 := jfr_up hf eg37 (by unfold w_X12_takeGoods; omega)
            have e38 : g37 181 x3 = jw32 (v31 - v35) := jup_s eg37
            have e39 : jw32 (x3 + 1) = x3 + 1 := j32e (by omega) (by omega)
            show jGo E l 91 229 229 _ 48 [.inr (.inr (.inl 176)), .inl a1, .inl x2, .inl (jw32 (x3 + 1))] [] 229 jr0 g37
            exact ih.2 x2 (jw32 (x3 + 1)) g37 (by omega) fg37 (by omega)
  refine jGo_blk qX12_takeGoods_0 ?_
  show jGo E l 91 229 229 _ 4 [.inr (.inr (.inl 176)), .inl a1, .inl 1, .inl 0] [] 229 jr0 h
  exact (key 1000000000000).1 1 0 h (by omega) f0 (by omega)

def w_X12_pass (i k : Int) : Prop := (i = 181) ∨ (192 ≤ i ∧ i ≤ 200) ∨ (i = 202) ∨ (i = 176 ∧ k = 0) ∨ (i = 176 ∧ 30 ≤ k ∧ k ≤ 32)
def k_X12_pass (h : JH) (v : Option JV) (r' g : JH) : Prop := r' = jr0 ∧ jfr w_X12_pass h g ∧ ∃ x : Int, v = some (.inl x) ∧ (True) ∧ (g 176 0 = h 176 0 + 1)
set_option maxHeartbeats 4000000 in
theorem c_X12_pass {E : JE} {l : Launch} (h : JH) (q0 : h 176 0 ≤ 2299) : jMt E l 94 [.inr (.inr (.inl 176))] 229 jr0 h (k_X12_pass h) := by
  refine jMt0 (nL := 3) (ls := [.inr (.inr (.inl 176)), .inr (.inr (.inr ())), .inr (.inr (.inr ()))]) (by decide +kernel) (by decide +kernel) (by decide +kernel) rfl rfl ?_
  have f0 : jfr w_X12_pass h h := jfr_rf _ _
  have key : ∀ N : Nat, (∀ (x1 : Int) (x2 : Int) (m9 : Int) (g : JH), ((-1) ≤ x2 ∧ x2 ≤ 15) → (0 ≤ m9 ∧ m9 ≤ 1700 ∧ (x2 < 0 ∨ 1700 - ((99 - g 190 x2) * 16 + x2) ≤ m9)) → (g 176 0 = h 176 0 + 1) → jfr w_X12_pass h g → m9 < (N : Int) → jGo E l 94 229 229 (jRK (k_X12_pass h)) 22 [.inr (.inr (.inl 176)), .inl x1, .inl x2] [] 229 jr0 g) := by
    intro N
    induction N with
    | zero => exact fun _ _ _ _ hi hx0 hx1 _ hN => absurd hN (by omega)
    | succ N ih =>
      intro x1 x2 m9 g hi hx0 hx1 hf hN
      refine jGo_ok (fun hls _ => ?_)
      have rx1 : -2147483648 ≤ x1 ∧ x1 ≤ 2147483647 := hls (.inl x1) (by simp)
      refine jGo_blk qX12_pass_22 ?_
      refine And.intro (fun c1 => ?_) (fun c1 => ?_)
      · replace c1 : x2 < 0 := c1
        show jGo E l 94 229 229 _ 50 [.inr (.inr (.inl 176)), .inl x1, .inl x2] [] 229 jr0 g
        refine jGo_blk qX12_pass_50 ?_
        refine st_cv (na := 0) (st := [.inr (.inr (.inl 176))]) jo_176 rfl rfl rfl (c_X12_workAll g) rfl ?_
        rintro _ _ g3 ⟨rfl, ft2, rfl, zt2⟩ kt2
        have fg3 : jfr w_X12_pass h g3 := jfr_tr hf ft2 (fun i k q => by unfold w_X12_workAll at q; unfold w_X12_pass; omega)
        refine st_cv (na := 0) (st := [.inr (.inr (.inl 176))]) jo_176 rfl rfl rfl (c_X12_payAll g3) rfl ?_
        rintro _ _ g5 ⟨rfl, ft4, rfl, zt4⟩ kt4
        have fg5 : jfr w_X12_pass h g5 := jfr_tr fg3 ft4 (fun i k q => by unfold w_X12_payAll at q; unfold w_X12_pass; omega)
        have e6 : g5 176 0 = g3 176 0 := ft4 176 0 (by unfold w_X12_payAll; omega)
        have e7 : g3 176 0 = g 176 0 := ft2 176 0 (by unfold w_X12_workAll; omega)
        exact st_r0 (ls := []) ⟨rfl, rfl, fg5, x1, rfl, trivial, (by omega)⟩
      · replace c1 : 0 ≤ x2 := by first | exact c1 | exact Int.not_le.mp c1 | exact Int.not_lt.mp c1 | exact Decidable.not_not.mp c1
        refine st_gr jo_176 jr_176_22 ?_
        refine st_bi jo_196 (show 0 ≤ x2 by omega) (show x2 < ((16 : Nat) : Int) by omega) (fun v8 ev8 b9 => ?_)
        replace ev8 : v8 = g 196 x2 := ev8
        replace b9 := (jba_196 x2 _).1 b9
        refine And.intro (fun c10 => ?_) (fun c10 => ?_)
        · replace c10 : ¬ v8 = 0 := c10
          show jGo E l 94 229 229 _ 40 [.inr (.inr (.inl 176)), .inl x1, .inl x2] [] 229 jr0 g
          refine jGo_blk qX12_pass_40 ?_
          refine st_cv (na := 2) (st := [.inl 1, .inl x2, .inr (.inr (.inl 176))]) jo_176 rfl rfl rfl (c_X12_firstBehind x2 1 g (by omega)) rfl ?_
          rintro _ _ _ ⟨rfl, rfl, t11, rfl, ht11, zt11⟩ kt11
          replace kt11 : -2147483648 ≤ t11 ∧ t11 ≤ 2147483647 := kt11
          replace ht11 : -1 ≤ t11 ∧ t11 ≤ 15 := ht11
          replace zt11 : t11 = -1 ∨ (0 ≤ t11 ∧ t11 ≤ 15 ∧ (x2 < 0 ∨ (99 - g 190 x2) * 16 + x2 < (99 - g 190 t11) * 16 + t11)) := zt11
          show jGo E l 94 229 229 _ 22 [.inr (.inr (.inl 176)), .inl x1, .inl t11] [] 229 jr0 g
          refine jGo_bd (fun hbd13 => ?_)
          have b14 := (jba_190 t11 _).1 (hbd13 190 t11)
          have b15 := (jba_190 x2 _).1 (hbd13 190 x2)
          exact ih x1 t11 (m9 - 1) g (by omega) (by omega) (by omega) hf (by omega)
        · replace c10 : v8 = 0 := by first | exact c10 | exact Int.not_le.mp c10 | exact Int.not_lt.mp c10 | exact Decidable.not_not.mp c10
          refine st_cv (na := 1) (st := [.inl x2, .inr (.inr (.inl 176))]) jo_176 rfl rfl rfl (c_X12_takeGoods x2 g (by omega)) rfl ?_
          rintro _ _ g17 ⟨rfl, ft16, rfl, zt16⟩ kt16
          have fg17 : jfr w_X12_pass h g17 := jfr_tr hf ft16 (fun i k q => by unfold w_X12_takeGoods at q; unfold w_X12_pass; omega)
          show jGo E l 94 229 229 _ 40 [.inr (.inr (.inl 176)), .inl x1, .inl x2] [] 229 jr0 g17
          refine jGo_blk qX12_pass_40 ?_
          refine st_cv (na := 2) (st := [.inl 1, .inl x2, .inr (.inr (.inl 176))]) jo_176 rfl rfl rfl (c_X12_firstBehind x2 1 g17 (by omega)) rfl ?_
          rintro _ _ _ ⟨rfl, rfl, t18, rfl, ht18, zt18⟩ kt18
          replace kt18 : -2147483648 ≤ t18 ∧ t18 ≤ 2147483647 := kt18
          replace ht18 : -1 ≤ t18 ∧ t18 ≤ 15 := ht18
          replace zt18 : t18 = -1 ∨ (0 ≤ t18 ∧ t18 ≤ 15 ∧ (x2 < 0 ∨ (99 - g17 190 x2) * 16 + x2 < (99 - g17 190 t18) * 16 + t18)) := zt18
          show jGo E l 94 229 229 _ 22 [.inr (.inr (.inl 176)), .inl x1, .inl t18] [] 229 jr0 g17
          refine jGo_bd (fun hbd20 => ?_)
          have b21 := (jba_190 t18 _).1 (hbd20 190 t18)
          have b22 := (jba_190 x2 _).1 (hbd20 190 x2)
          have e23 : g17 190 x2 = g 190 x2 := ft16 190 x2 (by unfold w_X12_takeGoods; omega)
          have e24 : g17 176 0 = g 176 0 := ft16 176 0 (by unfold w_X12_takeGoods; omega)
          exact ih x1 t18 (m9 - 1) g17 (by omega) (by omega) (by omega) fg17 (by omega)
  refine jGo_blk qX12_pass_0 ?_
  refine st_gi jo_176 (fun v25 ev25 b26 => ?_)
  replace ev25 : v25 = h 176 0 := ev25
  replace b26 := (jbf_12_0 jo_176 _).1 b26
  have e27 : jw32 (v25 + 1) = v25 + 1 := j32e (by omega) (by omega)
  refine st_pi jo_176 (fun hx => (jbf_12_0 jo_176 _).2 (show 0 ≤ jw32 (v25 + 1) ∧ jw32 (v25 + 1) ≤ 2300 by omega)) (fun g28 eg28 => ?_)
  replace eg28 : g28 = jup h 176 0 (jw32 (v25 + 1)) := eg28
  have fg28 : jfr w_X12_pass h g28 := jfr_up f0 eg28 (by unfold w_X12_pass; omega)
  have e29 : g28 176 0 = jw32 (v25 + 1) := jup_s eg28
  refine st_cv (na := 0) (st := [.inr (.inr (.inl 176))]) jo_176 rfl rfl rfl (c_X12_moveAll g28) rfl ?_
  rintro _ _ g31 ⟨rfl, ft30, t30, rfl, ht30, zt30⟩ kt30
  replace kt30 : -2147483648 ≤ t30 ∧ t30 ≤ 2147483647 := kt30
  have fg31 : jfr w_X12_pass h g31 := jfr_tr fg28 ft30 (fun i k q => by unfold w_X12_moveAll at q; unfold w_X12_pass; omega)
  refine st_cv (na := 2) (st := [.inl 1, .inl (-1), .inr (.inr (.inl 176))]) jo_176 rfl rfl rfl (c_X12_firstBehind (-1) 1 g31 (by omega)) rfl ?_
  rintro _ _ _ ⟨rfl, rfl, t32, rfl, ht32, zt32⟩ kt32
  replace kt32 : -2147483648 ≤ t32 ∧ t32 ≤ 2147483647 := kt32
  replace ht32 : -1 ≤ t32 ∧ t32 ≤ 15 := ht32
  replace zt32 : t32 = -1 ∨ (0 ≤ t32 ∧ t32 ≤ 15 ∧ ((-1 : Int) < 0 ∨ (99 - g31 190 (-1 : Int)) * 16 + (-1 : Int) < (99 - g31 190 t32) * 16 + t32)) := zt32
  show jGo E l 94 229 229 _ 22 [.inr (.inr (.inl 176)), .inl t30, .inl t32] [] 229 jr0 g31
  refine jGo_bd (fun hbd34 => ?_)
  have b35 := (jba_190 t32 _).1 (hbd34 190 t32)
  have e36 : g31 176 0 = g28 176 0 := ft30 176 0 (by unfold w_X12_moveAll; omega)
  exact (key 1000000000000) t30 t32 1700 g31 (by omega) (by omega) (by omega) fg31 (by omega)

def w_X12_days (i k : Int) : Prop := (i = 181) ∨ (192 ≤ i ∧ i ≤ 200) ∨ (i = 202) ∨ (i = 207) ∨ (i = 219) ∨ (i = 176 ∧ k = 0) ∨ (i = 176 ∧ 30 ≤ k ∧ k ≤ 32)
def k_X12_days (a1 : Int) (h : JH) (v : Option JV) (r' g : JH) : Prop := r' = jr0 ∧ jfr w_X12_days h g ∧ ∃ x : Int, v = some (.inl x) ∧ (True) ∧ (g 176 0 ≤ 2000 ∧ P_X12_days a1 h g)
set_option maxHeartbeats 4000000 in
theorem c_X12_days {E : JE} {l : Launch} (a1 : Int) (h : JH) (q0 : h 176 0 ≤ 2000) : jMt E l 95 [.inr (.inr (.inl 176)), .inl a1] 229 jr0 h (k_X12_days a1 h) := by
  refine jMt0 (nL := 5) (ls := [.inr (.inr (.inl 176)), .inl a1, .inr (.inr (.inr ())), .inr (.inr (.inr ())), .inr (.inr (.inr ()))]) (by decide +kernel) (by decide +kernel) (by decide +kernel) rfl rfl ?_
  have f0 : jfr w_X12_days h h := jfr_rf _ _
  have key : ∀ N : Nat, (∀ (x2 : Int) (x3 : Int) (x4 : JV) (g : JH), (1 ≤ a1 ∧ a1 ≤ 2000 ∧ 0 ≤ x3 ∧ x3 ≤ 2000) → (g 176 0 = h 176 0 + x3 ∧ x3 ≤ a1 ∧ h 176 0 + a1 ≤ 2000 ∧ 1 ≤ a1) → jfr w_X12_days h g → (2000 - x3) * 1000000 + 999999 < (N : Int) → jGo E l 95 229 229 (jRK (k_X12_days a1 h)) 35 [.inr (.inr (.inl 176)), .inl a1, .inl x2, .inl x3, x4] [] 229 jr0 g) ∧
      (∀ (x2 : Int) (x3 : Int) (x4 : Int) (g : JH), (1 ≤ a1 ∧ a1 ≤ 2000 ∧ 0 ≤ x3 ∧ x3 ≤ 1999 ∧ 0 ≤ x4 ∧ x4 ≤ 40) → (g 176 0 = h 176 0 + x3 + 1 ∧ x3 < a1 ∧ h 176 0 + a1 ≤ 2000 ∧ 1 ≤ a1) → jfr w_X12_days h g → (2000 - x3) * 1000000 + (40 - x4) < (N : Int) → jGo E l 95 229 229 (jRK (k_X12_days a1 h)) 50 [.inr (.inr (.inl 176)), .inl a1, .inl x2, .inl x3, .inl x4] [] 229 jr0 g) := by
    intro N
    induction N with
    | zero => exact ⟨fun _ _ _ _ hi hx0 _ hN => absurd hN (by omega), fun _ _ _ _ hi hx0 _ hN => absurd hN (by omega)⟩
    | succ N ih =>
      refine ⟨?_, ?_⟩
      · intro x2 x3 x4 g hi hx0 hf hN
        refine jGo_ok (fun hls _ => ?_)
        have rx2 : -2147483648 ≤ x2 ∧ x2 ≤ 2147483647 := hls (.inl x2) (by simp)
        refine jGo_blk qX12_days_35 ?_
        refine And.intro (fun c1 => ?_) (fun c1 => ?_)
        · replace c1 : a1 ≤ x3 := c1
          show jGo E l 95 229 229 _ 118 [.inr (.inr (.inl 176)), .inl a1, .inl x2, .inl x3, x4] [] 229 jr0 g
          refine jGo_blk qX12_days_118 ?_
          exact st_r0 (ls := []) ⟨rfl, rfl, hf, x2, rfl, trivial, (by unfold P_X12_days; omega)⟩
        · replace c1 : x3 < a1 := by first | exact c1 | exact Int.not_le.mp c1 | exact Int.not_lt.mp c1 | exact Decidable.not_not.mp c1
          refine st_cv (na := 0) (st := [.inr (.inr (.inl 176)), .inl x2]) jo_176 rfl rfl rfl (c_X12_pass g (by omega)) rfl ?_
          rintro _ _ g3 ⟨rfl, ft2, t2, rfl, ht2, zt2⟩ kt2
          replace kt2 : -2147483648 ≤ t2 ∧ t2 ≤ 2147483647 := kt2
          have fg3 : jfr w_X12_days h g3 := jfr_tr hf ft2 (fun i k q => by unfold w_X12_pass at q; unfold w_X12_days; omega)
          replace zt2 : g3 176 0 = g 176 0 + 1 := zt2
          show jGo E l 95 229 229 _ 50 [.inr (.inr (.inl 176)), .inl a1, .inl (jw32 (x2 + t2)), .inl x3, .inl 0] [] 229 jr0 g3
          exact ih.2 (jw32 (x2 + t2)) x3 0 g3 (by omega) (by omega) fg3 (by omega)
      · intro x2 x3 x4 g hi hx0 hf hN
        refine jGo_ok (fun hls _ => ?_)
        have rx2 : -2147483648 ≤ x2 ∧ x2 ≤ 2147483647 := hls (.inl x2) (by simp)
        refine jGo_blk qX12_days_50 ?_
        refine st_gi jo_176 (fun v4 ev4 b5 => ?_)
        replace ev4 : v4 = g 176 34 := ev4
        replace b5 := (jbf_12_34 jo_176 _).1 b5
        refine And.intro (fun c6 => ?_) (fun c6 => ?_)
        · replace c6 : v4 ≤ x4 := c6
          show jGo E l 95 229 229 _ 112 [.inr (.inr (.inl 176)), .inl a1, .inl x2, .inl x3, .inl x4] [] 229 jr0 g
          refine jGo_blk qX12_days_112 ?_
          have e7 : jw32 (x3 + 1) = x3 + 1 := j32e (by omega) (by omega)
          show jGo E l 95 229 229 _ 35 [.inr (.inr (.inl 176)), .inl a1, .inl x2, .inl (jw32 (x3 + 1)), .inl x4] [] 229 jr0 g
          exact ih.1 x2 (jw32 (x3 + 1)) (.inl x4) g (by omega) (by omega) hf (by omega)
        · replace c6 : x4 < v4 := by first | exact c6 | exact Int.not_le.mp c6 | exact Int.not_lt.mp c6 | exact Decidable.not_not.mp c6
          refine st_gi jo_176 (fun v8 ev8 b9 => ?_)
          replace ev8 : v8 = g 176 0 := ev8
          replace b9 := (jbf_12_0 jo_176 _).1 b9
          refine And.intro (show 360 ≠ 0 by omega) ?_
          have e10 : v8.tmod 360 = v8 % 360 ∧ 0 ≤ v8.tmod 360 ∧ v8.tmod 360 < 360 := jmd (by omega) (by omega)
          refine And.intro (fun c11 => ?_) (fun c11 => ?_)
          · replace c11 : ¬ v8.tmod 360 = 0 := c11
            show jGo E l 95 229 229 _ 112 [.inr (.inr (.inl 176)), .inl a1, .inl x2, .inl x3, .inl x4] [] 229 jr0 g
            refine jGo_blk qX12_days_112 ?_
            have e12 : jw32 (x3 + 1) = x3 + 1 := j32e (by omega) (by omega)
            show jGo E l 95 229 229 _ 35 [.inr (.inr (.inl 176)), .inl a1, .inl x2, .inl (jw32 (x3 + 1)), .inl x4] [] 229 jr0 g
            exact ih.1 x2 (jw32 (x3 + 1)) (.inl x4) g (by omega) (by omega) hf (by omega)
          · replace c11 : v8.tmod 360 = 0 := by first | exact c11 | exact Int.not_le.mp c11 | exact Int.not_lt.mp c11 | exact Decidable.not_not.mp c11
            refine st_gr jo_176 jr_176_37 ?_
            refine st_ai jo_207 (show 0 ≤ x4 by omega) (show x4 < ((40 : Nat) : Int) by omega) (fun v13 ev13 b14 => ?_)
            replace ev13 : v13 = g 207 x4 := ev13
            replace b14 := (jba_207 x4 _).1 b14
            refine st_gr jo_176 jr_176_38 ?_
            refine st_ai jo_208 (show 0 ≤ x4 by omega) (show x4 < ((40 : Nat) : Int) by omega) (fun v15 ev15 b16 => ?_)
            replace ev15 : v15 = g 208 x4 := ev15
            replace b16 := (jba_208 x4 _).1 b16
            refine And.intro (fun c17 => ?_) (fun c17 => ?_)
            · replace c17 : 0 ≤ v15 := c17
              show jGo E l 95 229 229 _ 103 [.inr (.inr (.inl 176)), .inl a1, .inl x2, .inl x3, .inl x4] [.inl v13, .inl x4, .inr (.inr (.inl 207))] 229 jr0 g
              refine jGo_blk qX12_days_103 ?_
              show jGo E l 95 229 229 _ 104 [.inr (.inr (.inl 176)), .inl a1, .inl x2, .inl x3, .inl x4] [.inl 0, .inl v13, .inl x4, .inr (.inr (.inl 207))] 229 jr0 g
              refine jGo_blk qX12_days_104 ?_
              refine st_si jo_207 (show 0 ≤ x4 by omega) (show x4 < ((40 : Nat) : Int) by omega) (fun hx => (jba_207 _ _).2 hx) (fun g18 eg18 => ?_)
              replace eg18 : g18 = jup g 207 x4 (jw32 (v13 + 0)) := eg18
              have fg18 : jfr w_X12_days h g18 := jfr_up hf eg18 (by unfold w_X12_days; omega)
              have e19 : g18 207 x4 = jw32 (v13 + 0) := jup_s eg18
              have e20 : jw32 (x4 + 1) = x4 + 1 := j32e (by omega) (by omega)
              show jGo E l 95 229 229 _ 50 [.inr (.inr (.inl 176)), .inl a1, .inl x2, .inl x3, .inl (jw32 (x4 + 1))] [] 229 jr0 g18
              have e21 : g18 176 0 = g 176 0 := jup_o eg18 (by omega)
              exact ih.2 x2 x3 (jw32 (x4 + 1)) g18 (by omega) (by omega) fg18 (by omega)
            · replace c17 : v15 < 0 := by first | exact c17 | exact Int.not_le.mp c17 | exact Int.not_lt.mp c17 | exact Decidable.not_not.mp c17
              refine st_gr jo_176 jr_176_33 ?_
              refine st_gr jo_176 jr_176_35 ?_
              refine st_ai jo_205 (show 0 ≤ x4 by omega) (show x4 < ((40 : Nat) : Int) by omega) (fun v22 ev22 b23 => ?_)
              replace ev22 : v22 = g 205 x4 := ev22
              replace b23 := (jba_205 x4 _).1 b23
              refine st_ai jo_204 (show 0 ≤ v22 by omega) (show v22 < ((3 : Nat) : Int) by omega) (fun v24 ev24 b25 => ?_)
              replace ev24 : v24 = g 204 v22 := ev24
              replace b25 := (jba_204 v22 _).1 b25
              show jGo E l 95 229 229 _ 104 [.inr (.inr (.inl 176)), .inl a1, .inl x2, .inl x3, .inl x4] [.inl v24, .inl v13, .inl x4, .inr (.inr (.inl 207))] 229 jr0 g
              refine jGo_blk qX12_days_104 ?_
              refine st_si jo_207 (show 0 ≤ x4 by omega) (show x4 < ((40 : Nat) : Int) by omega) (fun hx => (jba_207 _ _).2 hx) (fun g26 eg26 => ?_)
              replace eg26 : g26 = jup g 207 x4 (jw32 (v13 + v24)) := eg26
              have fg26 : jfr w_X12_days h g26 := jfr_up hf eg26 (by unfold w_X12_days; omega)
              have e27 : g26 207 x4 = jw32 (v13 + v24) := jup_s eg26
              have e28 : jw32 (x4 + 1) = x4 + 1 := j32e (by omega) (by omega)
              show jGo E l 95 229 229 _ 50 [.inr (.inr (.inl 176)), .inl a1, .inl x2, .inl x3, .inl (jw32 (x4 + 1))] [] 229 jr0 g26
              have e29 : g26 176 0 = g 176 0 := jup_o eg26 (by omega)
              exact ih.2 x2 x3 (jw32 (x4 + 1)) g26 (by omega) (by omega) fg26 (by omega)
  refine jGo_blk qX12_days_0 ?_
  refine And.intro (fun c30 => ?_) (fun c30 => ?_)
  · replace c30 : 1 ≤ a1 := c30
    show jGo E l 95 229 229 _ 12 [.inr (.inr (.inl 176)), .inl a1, .inr (.inr (.inr ())), .inr (.inr (.inr ())), .inr (.inr (.inr ()))] [] 229 jr0 h
    refine jGo_blk qX12_days_12 ?_
    refine st_gi jo_176 (fun v31 ev31 b32 => ?_)
    replace ev31 : v31 = h 176 0 := ev31
    replace b32 := (jbf_12_0 jo_176 _).1 b32
    have e33 : jw32 (2000 - v31) = 2000 - v31 := j32e (by omega) (by omega)
    refine And.intro (fun c34 => ?_) (fun c34 => ?_)
    · replace c34 : a1 ≤ jw32 (2000 - v31) := c34
      show jGo E l 95 229 229 _ 31 [.inr (.inr (.inl 176)), .inl a1, .inr (.inr (.inr ())), .inr (.inr (.inr ())), .inr (.inr (.inr ()))] [] 229 jr0 h
      refine jGo_blk qX12_days_31 ?_
      show jGo E l 95 229 229 _ 35 [.inr (.inr (.inl 176)), .inl a1, .inl 0, .inl 0, .inr (.inr (.inr ()))] [] 229 jr0 h
      exact (key 1000000000000000000).1 0 0 (.inr (.inr (.inr ()))) h (by omega) (by omega) f0 (by omega)
    · replace c34 : jw32 (2000 - v31) < a1 := by first | exact c34 | exact Int.not_le.mp c34 | exact Int.not_lt.mp c34 | exact Decidable.not_not.mp c34
      refine st_cv (na := 1) (st := [.inl (-6), .inr (.inr (.inl 176))]) jo_176 rfl rfl rfl (c_X12_refuse (-6) h (by omega)) rfl ?_
      rintro _ _ g36 ⟨rfl, ft35, t35, rfl, ht35, zt35⟩ kt35
      replace kt35 : -2147483648 ≤ t35 ∧ t35 ≤ 2147483647 := kt35
      replace ht35 : -7 ≤ t35 ∧ t35 ≤ -1 := ht35
      have fg36 : jfr w_X12_days h g36 := jfr_tr f0 ft35 (fun i k q => by unfold w_X12_refuse at q; unfold w_X12_days; omega)
      replace zt35 : t35 = (-6 : Int) := zt35
      have e37 : g36 176 0 = h 176 0 := ft35 176 0 (by unfold w_X12_refuse; omega)
      exact st_r0 (ls := []) ⟨rfl, rfl, fg36, t35, rfl, trivial, (by unfold P_X12_days; omega)⟩
  · replace c30 : a1 < 1 := by first | exact c30 | exact Int.not_le.mp c30 | exact Int.not_lt.mp c30 | exact Decidable.not_not.mp c30
    refine st_cv (na := 1) (st := [.inl (-4), .inr (.inr (.inl 176))]) jo_176 rfl rfl rfl (c_X12_refuse (-4) h (by omega)) rfl ?_
    rintro _ _ g39 ⟨rfl, ft38, t38, rfl, ht38, zt38⟩ kt38
    replace kt38 : -2147483648 ≤ t38 ∧ t38 ≤ 2147483647 := kt38
    replace ht38 : -7 ≤ t38 ∧ t38 ≤ -1 := ht38
    have fg39 : jfr w_X12_days h g39 := jfr_tr f0 ft38 (fun i k q => by unfold w_X12_refuse at q; unfold w_X12_days; omega)
    replace zt38 : t38 = (-4 : Int) := zt38
    have e40 : g39 176 0 = h 176 0 := ft38 176 0 (by unfold w_X12_refuse; omega)
    exact st_r0 (ls := []) ⟨rfl, rfl, fg39, t38, rfl, trivial, (by unfold P_X12_days; omega)⟩

def w_X11_breakUp (i k : Int) : Prop := (i = 1) ∨ (i = 30) ∨ (36 ≤ i ∧ i ≤ 83) ∨ (i = 111 ∧ 9 ≤ k ∧ k ≤ 11)
def k_X11_breakUp (a1 : Int) (h : JH) (v : Option JV) (r' g : JH) : Prop := r' = jr0 ∧ jfr w_X11_breakUp h g ∧ ∃ x : Int, v = some (.inl x) ∧ (True) ∧ (True)
set_option maxHeartbeats 4000000 in
theorem c_X11_breakUp {E : JE} {l : Launch} (a1 : Int) (h : JH) : jMt E l 96 [.inr (.inr (.inl 0)), .inl a1] 229 jr0 h (k_X11_breakUp a1 h) := by
  refine jMt0 (nL := 6) (ls := [.inr (.inr (.inl 0)), .inl a1, .inr (.inr (.inr ())), .inr (.inr (.inr ())), .inr (.inr (.inr ())), .inr (.inr (.inr ()))]) (by decide +kernel) (by decide +kernel) (by decide +kernel) rfl rfl ?_
  have f0 : jfr w_X11_breakUp h h := jfr_rf _ _
  have key : ∀ N : Nat, (∀ (x3 : Int) (x4 : Int) (x5 : Int) (g : JH), (0 ≤ a1 ∧ a1 ≤ 15 ∧ 36 ≤ x3 ∧ x3 + 2 ≤ 83 ∧ 0 ≤ x5 ∧ x5 ≤ 6) → jHl x3 → jfr w_X11_breakUp h g → (6 - x5) < (N : Int) → jGo E l 96 229 229 (jRK (k_X11_breakUp a1 h)) 73 [.inr (.inr (.inl 0)), .inl a1, .inl 0, .inr (.inr (.inl x3)), .inl x4, .inl x5] [] 229 jr0 g) := by
    intro N
    induction N with
    | zero => exact fun _ _ _ _ hi _ _ hN => absurd hN (by omega)
    | succ N ih =>
      intro x3 x4 x5 g hi hu3 hf hN
      refine jGo_ok (fun hls _ => ?_)
      have rx4 : -2147483648 ≤ x4 ∧ x4 ≤ 2147483647 := hls (.inl x4) (by simp)
      refine jGo_blk qX11_breakUp_73 ?_
      refine And.intro (fun c1 => ?_) (fun c1 => ?_)
      · replace c1 : 6 ≤ x5 := c1
        show jGo E l 96 229 229 _ 109 [.inr (.inr (.inl 0)), .inl a1, .inl 0, .inr (.inr (.inl x3)), .inl x4, .inl x5] [] 229 jr0 g
        refine jGo_blk qX11_breakUp_109 ?_
        exact st_r0 (ls := []) ⟨rfl, rfl, hf, x4, rfl, trivial, trivial⟩
      · replace c1 : x5 < 6 := by first | exact c1 | exact Int.not_le.mp c1 | exact Int.not_lt.mp c1 | exact Decidable.not_not.mp c1
        refine st_gr jo_0 jr_0_5 ?_
        refine st_gr hu3.1 rfl ?_
        refine st_ai hu3.2.2.1 (show 0 ≤ x5 by omega) (show x5 < ((6 : Nat) : Int) by omega) (fun v2 ev2 b3 => ?_)
        replace ev2 : v2 = g (jr0 x3 12) x5 := ev2
        replace b3 := (hu3.2.2.2.2.2.2 x5 _).1 b3
        refine And.intro (show 2 ≠ 0 by omega) ?_
        refine st_cv (na := 2) (st := [.inl (jw32 (v2.tdiv 2)), .inl x5, .inr (.inr (.inl 29)), .inl x4]) jo_29 rfl rfl rfl (c_X10_store_29 x5 (jw32 (v2.tdiv 2)) g (by omega)) rfl ?_
        rintro _ _ g5 ⟨rfl, ft4, t4, rfl, ht4, zt4⟩ kt4
        replace kt4 : -2147483648 ≤ t4 ∧ t4 ≤ 2147483647 := kt4
        have fg5 : jfr w_X11_breakUp h g5 := jfr_tr hf ft4 (fun i k q => by unfold w_X10_store_29 at q; unfold w_X11_breakUp; omega)
        have e6 : jw32 (x5 + 1) = x5 + 1 := j32e (by omega) (by omega)
        show jGo E l 96 229 229 _ 73 [.inr (.inr (.inl 0)), .inl a1, .inl 0, .inr (.inr (.inl x3)), .inl (jw32 (x4 + t4)), .inl (jw32 (x5 + 1))] [] 229 jr0 g5
        exact ih x3 (jw32 (x4 + t4)) (jw32 (x5 + 1)) g5 (by omega) hu3 fg5 (by omega)
  refine jGo_blk qX11_breakUp_0 ?_
  refine st_cv (na := 1) (st := [.inl a1, .inr (.inr (.inl 0))]) jo_0 rfl rfl rfl (c_X11_isHull a1 h) rfl ?_
  rintro _ _ _ ⟨rfl, rfl, t7, rfl, ht7, zt7⟩ kt7
  replace kt7 : -2147483648 ≤ t7 ∧ t7 ≤ 2147483647 := kt7
  replace ht7 : 0 ≤ t7 ∧ t7 ≤ 1 := ht7
  replace zt7 : (t7 = 1 ∧ 0 ≤ a1 ∧ a1 < h 29 4 ∧ h 29 4 ≤ 16) ∨ (t7 = 0 ∧ ¬ (0 ≤ a1 ∧ a1 < h 29 4)) := zt7
  refine And.intro (fun c9 => ?_) (fun c9 => ?_)
  · replace c9 : ¬ t7 = 0 := c9
    show jGo E l 96 229 229 _ 12 [.inr (.inr (.inl 0)), .inl a1, .inr (.inr (.inr ())), .inr (.inr (.inr ())), .inr (.inr (.inr ())), .inr (.inr (.inr ()))] [] 229 jr0 h
    refine jGo_blk qX11_breakUp_12 ?_
    refine st_gr jo_0 jr_0_5 ?_
    refine st_gr jo_29 jr_29_3 ?_
    refine st_ar jo_33 (by decide) (show 0 ≤ a1 by omega) (show a1 < ((16 : Nat) : Int) by omega) (fun u10 eu10 => ?_)
    replace eu10 : u10 = jr0 33 a1 := eu10
    have qu10 : u10 = 36 + 3 * a1 := eu10.trans (jhul_33 a1 (by omega) (by omega)).1
    have hu10 : jHl u10 := by rw [eu10]; exact (jhul_33 a1 (by omega) (by omega)).2
    refine st_gi hu10.1 (fun v11 ev11 b12 => ?_)
    replace ev11 : v11 = h u10 3 := ev11
    replace b12 := (jbf_4_3 hu10.1 _).1 b12
    refine And.intro (fun c13 => ?_) (fun c13 => ?_)
    · replace c13 : v11 = 2 := c13
      show jGo E l 96 229 229 _ 33 [.inr (.inr (.inl 0)), .inl a1, .inr (.inr (.inr ())), .inr (.inr (.inr ())), .inr (.inr (.inr ())), .inr (.inr (.inr ()))] [] 229 jr0 h
      refine jGo_blk qX11_breakUp_33 ?_
      show jGo E l 96 229 229 _ 34 [.inr (.inr (.inl 0)), .inl a1, .inr (.inr (.inr ())), .inr (.inr (.inr ())), .inr (.inr (.inr ())), .inr (.inr (.inr ()))] [.inl 0] 229 jr0 h
      refine jGo_blk qX11_breakUp_34 ?_
      refine And.intro (fun c14 => ?_) (fun c14 => ?_)
      · replace c14 : (0 : Int) = 0 := c14
        show jGo E l 96 229 229 _ 45 [.inr (.inr (.inl 0)), .inl a1, .inl 0, .inr (.inr (.inr ())), .inr (.inr (.inr ())), .inr (.inr (.inr ()))] [] 229 jr0 h
        refine jGo_blk qX11_breakUp_45 ?_
        refine st_gr jo_0 jr_0_11 ?_
        refine st_cv (na := 0) (st := [.inr (.inr (.inl 111))]) jo_111 rfl rfl rfl (c_X7_forget h) rfl ?_
        rintro _ _ g16 ⟨rfl, ft15, rfl, zt15⟩ kt15
        have fg16 : jfr w_X11_breakUp h g16 := jfr_tr f0 ft15 (fun i k q => by unfold w_X7_forget at q; unfold w_X11_breakUp; omega)
        refine st_gr jo_0 jr_0_5 ?_
        refine st_gr jo_29 jr_29_3 ?_
        refine st_ar jo_33 (by decide) (show 0 ≤ a1 by omega) (show a1 < ((16 : Nat) : Int) by omega) (fun u17 eu17 => ?_)
        replace eu17 : u17 = jr0 33 a1 := eu17
        have qu17 : u17 = 36 + 3 * a1 := eu17.trans (jhul_33 a1 (by omega) (by omega)).1
        have hu17 : jHl u17 := by rw [eu17]; exact (jhul_33 a1 (by omega) (by omega)).2
        refine And.intro (show u17 ≠ -1 by omega) ?_
        refine st_pi hu17.1 (fun hx => (jbf_4_3 hu17.1 _).2 (show 0 ≤ 3 ∧ 3 ≤ 3 by omega)) (fun g18 eg18 => ?_)
        replace eg18 : g18 = jup g16 u17 3 3 := eg18
        have fg18 : jfr w_X11_breakUp h g18 := jfr_up fg16 eg18 (by unfold w_X11_breakUp; omega)
        have e19 : g18 u17 3 = 3 := jup_s eg18
        show jGo E l 96 229 229 _ 73 [.inr (.inr (.inl 0)), .inl a1, .inl 0, .inr (.inr (.inl u17)), .inl 0, .inl 0] [] 229 jr0 g18
        exact (key 1000000000000) u17 0 0 g18 (by omega) hu17 fg18 (by omega)
      · replace c14 : ¬ (0 : Int) = 0 := by first | exact c14 | exact Int.not_le.mp c14 | exact Int.not_lt.mp c14 | exact Decidable.not_not.mp c14
        exfalso; omega
    · replace c13 : ¬ v11 = 2 := by first | exact c13 | exact Int.not_le.mp c13 | exact Int.not_lt.mp c13 | exact Decidable.not_not.mp c13
      show jGo E l 96 229 229 _ 34 [.inr (.inr (.inl 0)), .inl a1, .inr (.inr (.inr ())), .inr (.inr (.inr ())), .inr (.inr (.inr ())), .inr (.inr (.inr ()))] [.inl (-3)] 229 jr0 h
      refine jGo_blk qX11_breakUp_34 ?_
      refine And.intro (fun c20 => ?_) (fun c20 => ?_)
      · replace c20 : (-3 : Int) = 0 := c20
        exfalso; omega
      · replace c20 : ¬ (-3 : Int) = 0 := by first | exact c20 | exact Int.not_le.mp c20 | exact Int.not_lt.mp c20 | exact Decidable.not_not.mp c20
        refine st_cv (na := 1) (st := [.inl (-3), .inr (.inr (.inl 0))]) jo_0 rfl rfl rfl (c_X11_refused (-3) h (by omega)) rfl ?_
        rintro _ _ g22 ⟨rfl, ft21, t21, rfl, ht21, zt21⟩ kt21
        replace kt21 : -2147483648 ≤ t21 ∧ t21 ≤ 2147483647 := kt21
        replace ht21 : -7 ≤ t21 ∧ t21 ≤ -1 := ht21
        have fg22 : jfr w_X11_breakUp h g22 := jfr_tr f0 ft21 (fun i k q => by unfold w_X11_refused at q; unfold w_X11_breakUp; omega)
        replace zt21 : t21 = (-3 : Int) := zt21
        exact st_r0 (ls := []) ⟨rfl, rfl, fg22, t21, rfl, trivial, trivial⟩
  · replace c9 : t7 = 0 := by first | exact c9 | exact Int.not_le.mp c9 | exact Int.not_lt.mp c9 | exact Decidable.not_not.mp c9
    show jGo E l 96 229 229 _ 34 [.inr (.inr (.inl 0)), .inl a1, .inr (.inr (.inr ())), .inr (.inr (.inr ())), .inr (.inr (.inr ())), .inr (.inr (.inr ()))] [.inl (-1)] 229 jr0 h
    refine jGo_blk qX11_breakUp_34 ?_
    refine And.intro (fun c23 => ?_) (fun c23 => ?_)
    · replace c23 : (-1 : Int) = 0 := c23
      exfalso; omega
    · replace c23 : ¬ (-1 : Int) = 0 := by first | exact c23 | exact Int.not_le.mp c23 | exact Int.not_lt.mp c23 | exact Decidable.not_not.mp c23
      refine st_cv (na := 1) (st := [.inl (-1), .inr (.inr (.inl 0))]) jo_0 rfl rfl rfl (c_X11_refused (-1) h (by omega)) rfl ?_
      rintro _ _ g25 ⟨rfl, ft24, t24, rfl, ht24, zt24⟩ kt24
      replace kt24 : -2147483648 ≤ t24 ∧ t24 ≤ 2147483647 := kt24
      replace ht24 : -7 ≤ t24 ∧ t24 ≤ -1 := ht24
      have fg25 : jfr w_X11_breakUp h g25 := jfr_tr f0 ft24 (fun i k q => by unfold w_X11_refused at q; unfold w_X11_breakUp; omega)
      replace zt24 : t24 = (-1 : Int) := zt24
      exact st_r0 (ls := []) ⟨rfl, rfl, fg25, t24, rfl, trivial, trivial⟩

def w_X12_breakUp (i k : Int) : Prop := (i = 181) ∨ (i = 192) ∨ (i = 219)
def k_X12_breakUp (a1 : Int) (h : JH) (v : Option JV) (r' g : JH) : Prop := r' = jr0 ∧ jfr w_X12_breakUp h g ∧ ∃ x : Int, v = some (.inl x) ∧ (True) ∧ (True)
set_option maxHeartbeats 4000000 in
theorem c_X12_breakUp {E : JE} {l : Launch} (a1 : Int) (h : JH) : jMt E l 97 [.inr (.inr (.inl 176)), .inl a1] 229 jr0 h (k_X12_breakUp a1 h) := by
  refine jMt0 (nL := 5) (ls := [.inr (.inr (.inl 176)), .inl a1, .inr (.inr (.inr ())), .inr (.inr (.inr ())), .inr (.inr (.inr ()))]) (by decide +kernel) (by decide +kernel) (by decide +kernel) rfl rfl ?_
  have f0 : jfr w_X12_breakUp h h := jfr_rf _ _
  have key : ∀ N : Nat, (∀ (x2 : Int) (x3 : Int) (x4 : JV) (g : JH), (0 ≤ a1 ∧ a1 ≤ 15 ∧ 0 ≤ x3 ∧ x3 ≤ 6) → jfr w_X12_breakUp h g → (6 - x3) < (N : Int) → jGo E l 97 229 229 (jRK (k_X12_breakUp a1 h)) 35 [.inr (.inr (.inl 176)), .inl a1, .inl x2, .inl x3, x4] [] 229 jr0 g) := by
    intro N
    induction N with
    | zero => exact fun _ _ _ _ hi _ hN => absurd hN (by omega)
    | succ N ih =>
      intro x2 x3 x4 g hi hf hN
      refine jGo_ok (fun hls _ => ?_)
      have rx2 : -2147483648 ≤ x2 ∧ x2 ≤ 2147483647 := hls (.inl x2) (by simp)
      refine jGo_blk qX12_breakUp_35 ?_
      refine And.intro (fun c1 => ?_) (fun c1 => ?_)
      · replace c1 : 6 ≤ x3 := c1
        show jGo E l 97 229 229 _ 108 [.inr (.inr (.inl 176)), .inl a1, .inl x2, .inl x3, x4] [] 229 jr0 g
        refine jGo_blk qX12_breakUp_108 ?_
        refine st_gr jo_176 jr_176_18 ?_
        refine st_si jo_192 (show 0 ≤ a1 by omega) (show a1 < ((16 : Nat) : Int) by omega) (fun hx => (jba_192 _ _).2 (show 0 ≤ 3 ∧ 3 ≤ 3 by omega)) (fun g2 eg2 => ?_)
        replace eg2 : g2 = jup g 192 a1 3 := eg2
        have fg2 : jfr w_X12_breakUp h g2 := jfr_up hf eg2 (by unfold w_X12_breakUp; omega)
        have e3 : g2 192 a1 = 3 := jup_s eg2
        exact st_r0 (ls := []) ⟨rfl, rfl, fg2, x2, rfl, trivial, trivial⟩
      · replace c1 : x3 < 6 := by first | exact c1 | exact Int.not_le.mp c1 | exact Int.not_lt.mp c1 | exact Decidable.not_not.mp c1
        refine st_gr jo_176 jr_176_26 ?_
        have e4 : jw32 (6 * a1) = 6 * a1 := j32e (by omega) (by omega)
        have e5 : jw32 ((jw32 (6 * a1)) + x3) = (jw32 (6 * a1)) + x3 := j32e (by omega) (by omega)
        refine st_ai jo_200 (show 0 ≤ jw32 ((jw32 (6 * a1)) + x3) by omega) (show jw32 ((jw32 (6 * a1)) + x3) < ((96 : Nat) : Int) by omega) (fun v6 ev6 b7 => ?_)
        replace ev6 : v6 = g 200 (jw32 ((jw32 (6 * a1)) + x3)) := ev6
        replace b7 := (jba_200 (jw32 ((jw32 (6 * a1)) + x3)) _).1 b7
        refine And.intro (show 2 ≠ 0 by omega) ?_
        refine st_gr jo_176 jr_176_5 ?_
        refine st_ai jo_181 (show 0 ≤ x3 by omega) (show x3 < ((6 : Nat) : Int) by omega) (fun v8 ev8 b9 => ?_)
        replace ev8 : v8 = g 181 x3 := ev8
        replace b9 := (jba_181 x3 _).1 b9
        refine And.intro (fun c10 => ?_) (fun c10 => ?_)
        · replace c10 : jw32 (1000000 - v8) ≤ jw32 (v6.tdiv 2) := c10
          show jGo E l 97 229 229 _ 75 [.inr (.inr (.inl 176)), .inl a1, .inl x2, .inl x3, .inl (jw32 (v6.tdiv 2))] [] 229 jr0 g
          refine jGo_blk qX12_breakUp_75 ?_
          refine st_gr jo_176 jr_176_5 ?_
          refine st_ai jo_181 (show 0 ≤ x3 by omega) (show x3 < ((6 : Nat) : Int) by omega) (fun v11 ev11 b12 => ?_)
          replace ev11 : v11 = g 181 x3 := ev11
          replace b12 := (jba_181 x3 _).1 b12
          show jGo E l 97 229 229 _ 84 [.inr (.inr (.inl 176)), .inl a1, .inl x2, .inl x3, .inl (jw32 (v6.tdiv 2))] [.inl (jw32 (1000000 - v11))] 229 jr0 g
          refine jGo_blk qX12_breakUp_84 ?_
          refine st_gr jo_176 jr_176_5 ?_
          refine st_ai jo_181 (show 0 ≤ x3 by omega) (show x3 < ((6 : Nat) : Int) by omega) (fun v13 ev13 b14 => ?_)
          replace ev13 : v13 = g 181 x3 := ev13
          replace b14 := (jba_181 x3 _).1 b14
          refine st_si jo_181 (show 0 ≤ x3 by omega) (show x3 < ((6 : Nat) : Int) by omega) (fun hx => (jba_181 _ _).2 hx) (fun g15 eg15 => ?_)
          replace eg15 : g15 = jup g 181 x3 (jw32 (v13 + (jw32 (1000000 - v11)))) := eg15
          have fg15 : jfr w_X12_breakUp h g15 := jfr_up hf eg15 (by unfold w_X12_breakUp; omega)
          have e16 : g15 181 x3 = jw32 (v13 + (jw32 (1000000 - v11))) := jup_s eg15
          have e17 : jw32 (x3 + 1) = x3 + 1 := j32e (by omega) (by omega)
          show jGo E l 97 229 229 _ 35 [.inr (.inr (.inl 176)), .inl a1, .inl (jw32 (x2 + (jw32 (1000000 - v11)))), .inl (jw32 (x3 + 1)), .inl (jw32 (1000000 - v11))] [] 229 jr0 g15
          exact ih (jw32 (x2 + (jw32 (1000000 - v11)))) (jw32 (x3 + 1)) (.inl (jw32 (1000000 - v11))) g15 (by omega) fg15 (by omega)
        · replace c10 : jw32 (v6.tdiv 2) < jw32 (1000000 - v8) := by first | exact c10 | exact Int.not_le.mp c10 | exact Int.not_lt.mp c10 | exact Decidable.not_not.mp c10
          show jGo E l 97 229 229 _ 84 [.inr (.inr (.inl 176)), .inl a1, .inl x2, .inl x3, .inl (jw32 (v6.tdiv 2))] [.inl (jw32 (v6.tdiv 2))] 229 jr0 g
          refine jGo_blk qX12_breakUp_84 ?_
          refine st_gr jo_176 jr_176_5 ?_
          refine st_ai jo_181 (show 0 ≤ x3 by omega) (show x3 < ((6 : Nat) : Int) by omega) (fun v18 ev18 b19 => ?_)
          replace ev18 : v18 = g 181 x3 := ev18
          replace b19 := (jba_181 x3 _).1 b19
          refine st_si jo_181 (show 0 ≤ x3 by omega) (show x3 < ((6 : Nat) : Int) by omega) (fun hx => (jba_181 _ _).2 hx) (fun g20 eg20 => ?_)
          replace eg20 : g20 = jup g 181 x3 (jw32 (v18 + (jw32 (v6.tdiv 2)))) := eg20
          have fg20 : jfr w_X12_breakUp h g20 := jfr_up hf eg20 (by unfold w_X12_breakUp; omega)
          have e21 : g20 181 x3 = jw32 (v18 + (jw32 (v6.tdiv 2))) := jup_s eg20
          have e22 : jw32 (x3 + 1) = x3 + 1 := j32e (by omega) (by omega)
          show jGo E l 97 229 229 _ 35 [.inr (.inr (.inl 176)), .inl a1, .inl (jw32 (x2 + (jw32 (v6.tdiv 2)))), .inl (jw32 (x3 + 1)), .inl (jw32 (v6.tdiv 2))] [] 229 jr0 g20
          exact ih (jw32 (x2 + (jw32 (v6.tdiv 2)))) (jw32 (x3 + 1)) (.inl (jw32 (v6.tdiv 2))) g20 (by omega) fg20 (by omega)
  refine jGo_blk qX12_breakUp_0 ?_
  refine st_cv (na := 1) (st := [.inl a1, .inr (.inr (.inl 176))]) jo_176 rfl rfl rfl (c_X12_isHull a1 h) rfl ?_
  rintro _ _ _ ⟨rfl, rfl, t23, rfl, ht23, zt23⟩ kt23
  replace kt23 : -2147483648 ≤ t23 ∧ t23 ≤ 2147483647 := kt23
  replace ht23 : 0 ≤ t23 ∧ t23 ≤ 1 := ht23
  replace zt23 : (t23 = 1 ∧ 0 ≤ a1 ∧ a1 < h 176 14 ∧ h 176 14 ≤ 16) ∨ (t23 = 0 ∧ ¬ (0 ≤ a1 ∧ a1 < h 176 14)) := zt23
  refine And.intro (fun c25 => ?_) (fun c25 => ?_)
  · replace c25 : ¬ t23 = 0 := c25
    show jGo E l 97 229 229 _ 14 [.inr (.inr (.inl 176)), .inl a1, .inr (.inr (.inr ())), .inr (.inr (.inr ())), .inr (.inr (.inr ()))] [] 229 jr0 h
    refine jGo_blk qX12_breakUp_14 ?_
    refine st_gr jo_176 jr_176_18 ?_
    refine st_ai jo_192 (show 0 ≤ a1 by omega) (show a1 < ((16 : Nat) : Int) by omega) (fun v26 ev26 b27 => ?_)
    replace ev26 : v26 = h 192 a1 := ev26
    replace b27 := (jba_192 a1 _).1 b27
    refine And.intro (fun c28 => ?_) (fun c28 => ?_)
    · replace c28 : v26 = 2 := c28
      show jGo E l 97 229 229 _ 31 [.inr (.inr (.inl 176)), .inl a1, .inr (.inr (.inr ())), .inr (.inr (.inr ())), .inr (.inr (.inr ()))] [] 229 jr0 h
      refine jGo_blk qX12_breakUp_31 ?_
      show jGo E l 97 229 229 _ 35 [.inr (.inr (.inl 176)), .inl a1, .inl 0, .inl 0, .inr (.inr (.inr ()))] [] 229 jr0 h
      exact (key 1000000000000) 0 0 (.inr (.inr (.inr ()))) h (by omega) f0 (by omega)
    · replace c28 : ¬ v26 = 2 := by first | exact c28 | exact Int.not_le.mp c28 | exact Int.not_lt.mp c28 | exact Decidable.not_not.mp c28
      refine st_cv (na := 1) (st := [.inl (-3), .inr (.inr (.inl 176))]) jo_176 rfl rfl rfl (c_X12_refuse (-3) h (by omega)) rfl ?_
      rintro _ _ g30 ⟨rfl, ft29, t29, rfl, ht29, zt29⟩ kt29
      replace kt29 : -2147483648 ≤ t29 ∧ t29 ≤ 2147483647 := kt29
      replace ht29 : -7 ≤ t29 ∧ t29 ≤ -1 := ht29
      have fg30 : jfr w_X12_breakUp h g30 := jfr_tr f0 ft29 (fun i k q => by unfold w_X12_refuse at q; unfold w_X12_breakUp; omega)
      replace zt29 : t29 = (-3 : Int) := zt29
      exact st_r0 (ls := []) ⟨rfl, rfl, fg30, t29, rfl, trivial, trivial⟩
  · replace c25 : t23 = 0 := by first | exact c25 | exact Int.not_le.mp c25 | exact Int.not_lt.mp c25 | exact Decidable.not_not.mp c25
    refine st_cv (na := 1) (st := [.inl (-1), .inr (.inr (.inl 176))]) jo_176 rfl rfl rfl (c_X12_refuse (-1) h (by omega)) rfl ?_
    rintro _ _ g32 ⟨rfl, ft31, t31, rfl, ht31, zt31⟩ kt31
    replace kt31 : -2147483648 ≤ t31 ∧ t31 ≤ 2147483647 := kt31
    replace ht31 : -7 ≤ t31 ∧ t31 ≤ -1 := ht31
    have fg32 : jfr w_X12_breakUp h g32 := jfr_tr f0 ft31 (fun i k q => by unfold w_X12_refuse at q; unfold w_X12_breakUp; omega)
    replace zt31 : t31 = (-1 : Int) := zt31
    exact st_r0 (ls := []) ⟨rfl, rfl, fg32, t31, rfl, trivial, trivial⟩
