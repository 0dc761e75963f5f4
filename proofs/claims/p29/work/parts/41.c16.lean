def w_X12_payAll (i k : Int) : Prop := (i = 181) ∨ (i = 176 ∧ 30 ≤ k ∧ k ≤ 31)
def k_X12_payAll (h : JH) (v : Option JV) (r' g : JH) : Prop := r' = jr0 ∧ jfr w_X12_payAll h g ∧ v = none ∧ (g = jmPA h)
set_option maxHeartbeats 4000000 in
theorem c_X12_payAll {E : JE} {l : Launch} (h : JH) : jMt E l 93 [.inr (.inr (.inl 176))] 229 jr0 h (k_X12_payAll h) := by
  refine jMt0 (nL := 5) (ls := [.inr (.inr (.inl 176)), .inr (.inr (.inr ())), .inr (.inr (.inr ())), .inr (.inr (.inr ())), .inr (.inr (.inr ()))]) (by decide +kernel) (by decide +kernel) (by decide +kernel) rfl rfl ?_
  have f0 : jfr w_X12_payAll h h := jfr_rf _ _
  have key : ∀ N : Nat, (∀ (x1 : Int) (x2 : JV) (x3 : JV) (x4 : JV) (g : JH), (0 ≤ x1 ∧ x1 ≤ 4) → (g = jit jmPy (x1).toNat h) → jfr w_X12_payAll h g → (4 - x1) < (N : Int) → jGo E l 93 229 229 (jRK (k_X12_payAll h)) 2 [.inr (.inr (.inl 176)), .inl x1, x2, x3, x4] [] 229 jr0 g) := by
    intro N
    induction N with
    | zero => exact fun _ _ _ _ _ hi hx0 _ hN => absurd hN (by omega)
    | succ N ih =>
      intro x1 x2 x3 x4 g hi hx0 hf hN
      refine jGo_blk qX12_payAll_2 ?_
      refine And.intro (fun c1 => ?_) (fun c1 => ?_)
      · replace c1 : 4 ≤ x1 := c1
        show jGo E l 93 229 229 _ 103 [.inr (.inr (.inl 176)), .inl x1, x2, x3, x4] [] 229 jr0 g
        refine jGo_blk qX12_payAll_103 ?_
        exact ⟨rfl, rfl, hf, rfl, (by rw [hx0, show x1 = 4 by omega] <;> rfl)⟩
      · replace c1 : x1 < 4 := by first | exact c1 | exact Int.not_le.mp c1 | exact Int.not_lt.mp c1 | exact Decidable.not_not.mp c1
        refine st_gi jo_176 (fun v2 ev2 b3 => ?_)
        replace ev2 : v2 = g 176 0 := ev2
        replace b3 := (jbf_12_0 jo_176 _).1 b3
        refine st_cv (na := 2) (st := [.inl v2, .inl x1, .inr (.inr (.inl 176))]) jo_176 rfl rfl rfl (c_X12_handsAt x1 v2 g (by omega) (by omega)) rfl ?_
        rintro _ _ _ ⟨rfl, rfl, t4, rfl, ht4, zt4⟩ kt4
        replace kt4 : -2147483648 ≤ t4 ∧ t4 ≤ 2147483647 := kt4
        replace ht4 : 0 ≤ t4 ∧ t4 ≤ 400 := ht4
        replace zt4 : t4 = jHm g x1 v2 ∧ -1 ≤ g 178 x1 ∧ g 178 x1 ≤ 3 ∧ (g 178 x1 < 0 ∨ g 179 (g 178 x1) ≤ 30) := zt4
        have y6 := zt4.1
        refine st_gi jo_176 (fun v7 ev7 b8 => ?_)
        replace ev7 : v7 = g 176 30 := ev7
        replace b8 := (jbf_12_30 jo_176 _).1 b8
        refine st_gi jo_176 (fun v9 ev9 b10 => ?_)
        replace ev9 : v9 = g 176 0 := ev9
        replace b10 := (jbf_12_0 jo_176 _).1 b10
        refine st_cv (na := 3) (st := [.inl v9, .inl x1, .inl 0, .inr (.inr (.inl 176)), .inl t4, .inl v7, .inr (.inr (.inl 176))]) jo_176 rfl rfl rfl (c_X12_forceAt 0 x1 v9 g) rfl ?_
        rintro _ _ _ ⟨rfl, rfl, t11, rfl, ht11, zt11⟩ kt11
        replace kt11 : -2147483648 ≤ t11 ∧ t11 ≤ 2147483647 := kt11
        replace ht11 : 0 ≤ t11 ∧ t11 ≤ 200 := ht11
        replace zt11 : t11 = (jmv (g 182) (g 183) (g 184) (g 185) (0 : Int) x1 v9 (g 176 6).toNat).1 := zt11
        refine st_pi jo_176 (fun hx => (jbf_12_30 jo_176 _).2 hx) (fun g13 eg13 => ?_)
        replace eg13 : g13 = jup g 176 30 (jw32 (v7 + (jw32 (t4 * t11)))) := eg13
        have fg13 : jfr w_X12_payAll h g13 := jfr_up hf eg13 (by unfold w_X12_payAll; omega)
        have e14 : g13 176 30 = jw32 (v7 + (jw32 (t4 * t11))) := jup_s eg13
        refine st_gi jo_176 (fun v15 ev15 b16 => ?_)
        replace ev15 : v15 = g13 176 0 := ev15
        replace b16 := (jbf_12_0 jo_176 _).1 b16
        have e17 : g13 176 0 = g 176 0 := jup_o eg13 (by first | exact fun q => absurd q.1 (by decide) | exact fun q => absurd q.2 (by decide) | omega)
        refine st_cv (na := 3) (st := [.inl v15, .inl x1, .inl 1, .inr (.inr (.inl 176)), .inl t4]) jo_176 rfl rfl rfl (c_X12_forceAt 1 x1 v15 g13) rfl ?_
        rintro _ _ _ ⟨rfl, rfl, t18, rfl, ht18, zt18⟩ kt18
        replace kt18 : -2147483648 ≤ t18 ∧ t18 ≤ 2147483647 := kt18
        replace ht18 : 0 ≤ t18 ∧ t18 ≤ 200 := ht18
        replace zt18 : t18 = (jmv (g13 182) (g13 183) (g13 184) (g13 185) (1 : Int) x1 v15 (g13 176 6).toNat).1 := zt18
        refine st_gr jo_176 jr_176_5 ?_
        refine st_ai jo_181 (show 0 ≤ 5 by omega) (show 5 < ((6 : Nat) : Int) by omega) (fun v20 ev20 b21 => ?_)
        replace ev20 : v20 = g13 181 5 := ev20
        replace b21 := (jba_181 5 _).1 b21
        refine And.intro (fun c22 => ?_) (fun c22 => ?_)
        · replace c22 : v20 ≤ jw32 (t4 * t18) := c22
          show jGo E l 93 229 229 _ 65 [.inr (.inr (.inl 176)), .inl x1, .inl t4, .inl (jw32 (t4 * t18)), x4] [] 229 jr0 g13
          refine jGo_blk qX12_payAll_65 ?_
          refine st_gr jo_176 jr_176_5 ?_
          refine st_ai jo_181 (show 0 ≤ 5 by omega) (show 5 < ((6 : Nat) : Int) by omega) (fun v23 ev23 b24 => ?_)
          replace ev23 : v23 = g13 181 5 := ev23
          replace b24 := (jba_181 5 _).1 b24
          show jGo E l 93 229 229 _ 71 [.inr (.inr (.inl 176)), .inl x1, .inl t4, .inl (jw32 (t4 * t18)), x4] [.inl v23] 229 jr0 g13
          refine jGo_blk qX12_payAll_71 ?_
          refine st_gr jo_176 jr_176_5 ?_
          refine st_ai jo_181 (show 0 ≤ 5 by omega) (show 5 < ((6 : Nat) : Int) by omega) (fun v25 ev25 b26 => ?_)
          replace ev25 : v25 = g13 181 5 := ev25
          replace b26 := (jba_181 5 _).1 b26
          refine st_si jo_181 (show 0 ≤ 5 by omega) (show 5 < ((6 : Nat) : Int) by omega) (fun hx => (jba_181 _ _).2 hx) (fun g27 eg27 => ?_)
          replace eg27 : g27 = jup g13 181 5 (jw32 (v25 - v23)) := eg27
          have fg27 : jfr w_X12_payAll h g27 := jfr_up fg13 eg27 (by unfold w_X12_payAll; omega)
          have e28 : g27 181 5 = jw32 (v25 - v23) := jup_s eg27
          refine st_gi jo_176 (fun v29 ev29 b30 => ?_)
          replace ev29 : v29 = g27 176 31 := ev29
          replace b30 := (jbf_12_31 jo_176 _).1 b30
          have e31 : g27 176 31 = g13 176 31 := jup_o eg27 (by first | exact fun q => absurd q.1 (by decide) | exact fun q => absurd q.2 (by decide) | omega)
          have e32 : g13 176 31 = g 176 31 := jup_o eg13 (by first | exact fun q => absurd q.1 (by decide) | exact fun q => absurd q.2 (by decide) | omega)
          refine st_pi jo_176 (fun hx => (jbf_12_31 jo_176 _).2 hx) (fun g33 eg33 => ?_)
          replace eg33 : g33 = jup g27 176 31 (jw32 (v29 + (jw32 ((jw32 (t4 * t18)) - v23)))) := eg33
          have fg33 : jfr w_X12_payAll h g33 := jfr_up fg27 eg33 (by unfold w_X12_payAll; omega)
          have e34 : g33 176 31 = jw32 (v29 + (jw32 ((jw32 (t4 * t18)) - v23))) := jup_s eg33
          have e35 : jw32 (x1 + 1) = x1 + 1 := jzj32 (by omega)
          show jGo E l 93 229 229 _ 2 [.inr (.inr (.inl 176)), .inl (jw32 (x1 + 1)), .inl t4, .inl (jw32 (t4 * t18)), .inl v23] [] 229 jr0 g33
          exact ih (jw32 (x1 + 1)) (.inl t4) (.inl (jw32 (t4 * t18))) (.inl v23) g33 (by omega) (by rw [show jw32 (x1 + 1) = x1 + 1 by omega, jit_s (by omega), ← hx0]; subst eg33 ev29 eg27 ev25 ev23 ev20 zt18 ev15 eg13 zt11 ev9 ev7 y6 ev2; unfold jmPy jmP3 jmP2 jmWn jmP1 jmFv jmii; (repeat (first | rw [if_pos (by omega)] | rw [if_neg (by omega)])); all_goals ((try rw [e35]); (try rfl))) fg33 (by omega)
        · replace c22 : jw32 (t4 * t18) < v20 := by first | exact c22 | exact Int.not_le.mp c22 | exact Int.not_lt.mp c22 | exact Decidable.not_not.mp c22
          show jGo E l 93 229 229 _ 71 [.inr (.inr (.inl 176)), .inl x1, .inl t4, .inl (jw32 (t4 * t18)), x4] [.inl (jw32 (t4 * t18))] 229 jr0 g13
          refine jGo_blk qX12_payAll_71 ?_
          refine st_gr jo_176 jr_176_5 ?_
          refine st_ai jo_181 (show 0 ≤ 5 by omega) (show 5 < ((6 : Nat) : Int) by omega) (fun v36 ev36 b37 => ?_)
          replace ev36 : v36 = g13 181 5 := ev36
          replace b37 := (jba_181 5 _).1 b37
          refine st_si jo_181 (show 0 ≤ 5 by omega) (show 5 < ((6 : Nat) : Int) by omega) (fun hx => (jba_181 _ _).2 hx) (fun g38 eg38 => ?_)
          replace eg38 : g38 = jup g13 181 5 (jw32 (v36 - (jw32 (t4 * t18)))) := eg38
          have fg38 : jfr w_X12_payAll h g38 := jfr_up fg13 eg38 (by unfold w_X12_payAll; omega)
          have e39 : g38 181 5 = jw32 (v36 - (jw32 (t4 * t18))) := jup_s eg38
          refine st_gi jo_176 (fun v40 ev40 b41 => ?_)
          replace ev40 : v40 = g38 176 31 := ev40
          replace b41 := (jbf_12_31 jo_176 _).1 b41
          have e42 : g38 176 31 = g13 176 31 := jup_o eg38 (by first | exact fun q => absurd q.1 (by decide) | exact fun q => absurd q.2 (by decide) | omega)
          have e43 : g13 176 31 = g 176 31 := jup_o eg13 (by first | exact fun q => absurd q.1 (by decide) | exact fun q => absurd q.2 (by decide) | omega)
          refine st_pi jo_176 (fun hx => (jbf_12_31 jo_176 _).2 hx) (fun g44 eg44 => ?_)
          replace eg44 : g44 = jup g38 176 31 (jw32 (v40 + (jw32 ((jw32 (t4 * t18)) - (jw32 (t4 * t18)))))) := eg44
          have fg44 : jfr w_X12_payAll h g44 := jfr_up fg38 eg44 (by unfold w_X12_payAll; omega)
          have e45 : g44 176 31 = jw32 (v40 + (jw32 ((jw32 (t4 * t18)) - (jw32 (t4 * t18))))) := jup_s eg44
          have e46 : jw32 (x1 + 1) = x1 + 1 := jzj32 (by omega)
          show jGo E l 93 229 229 _ 2 [.inr (.inr (.inl 176)), .inl (jw32 (x1 + 1)), .inl t4, .inl (jw32 (t4 * t18)), .inl (jw32 (t4 * t18))] [] 229 jr0 g44
          exact ih (jw32 (x1 + 1)) (.inl t4) (.inl (jw32 (t4 * t18))) (.inl (jw32 (t4 * t18))) g44 (by omega) (by rw [show jw32 (x1 + 1) = x1 + 1 by omega, jit_s (by omega), ← hx0]; subst eg44 ev40 eg38 ev36 ev20 zt18 ev15 eg13 zt11 ev9 ev7 y6 ev2; unfold jmPy jmP3 jmP2 jmWn jmP1 jmFv jmii; (repeat (first | rw [if_pos (by omega)] | rw [if_neg (by omega)])); all_goals ((try rw [e46]); (try rfl))) fg44 (by omega)
  refine jGo_blk qX12_payAll_0 ?_
  show jGo E l 93 229 229 _ 2 [.inr (.inr (.inl 176)), .inl 0, .inr (.inr (.inr ())), .inr (.inr (.inr ())), .inr (.inr (.inr ()))] [] 229 jr0 h
  exact (key 1000000000000) 0 (.inr (.inr (.inr ()))) (.inr (.inr (.inr ()))) (.inr (.inr (.inr ()))) h (by omega) (by rfl) f0 (by omega)

def w_X12_takeGoods (i k : Int) : Prop := (i = 181) ∨ (196 ≤ i ∧ i ≤ 197)
def k_X12_takeGoods (a1 : Int) (h : JH) (v : Option JV) (r' g : JH) : Prop := r' = jr0 ∧ jfr w_X12_takeGoods h g ∧ v = none ∧ (g = jmTk a1 h)
set_option maxHeartbeats 4000000 in
theorem c_X12_takeGoods {E : JE} {l : Launch} (a1 : Int) (h : JH) (p1 : 0 ≤ a1 ∧ a1 ≤ 15) : jMt E l 91 [.inr (.inr (.inl 176)), .inl a1] 229 jr0 h (k_X12_takeGoods a1 h) := by
  refine jMt0 (nL := 4) (ls := [.inr (.inr (.inl 176)), .inl a1, .inr (.inr (.inr ())), .inr (.inr (.inr ()))]) (by decide +kernel) (by decide +kernel) (by decide +kernel) rfl rfl ?_
  have f0 : jfr w_X12_takeGoods h h := jfr_rf _ _
  have key : ∀ N : Nat, (∀ (x2 : Int) (x3 : Int) (g : JH), (0 ≤ x2 ∧ x2 ≤ 1 ∧ 0 ≤ x3 ∧ x3 ≤ 6) → ((x2 = 1 ∧ ∀ t : Int, 0 ≤ t → t < x3 → h 199 (6 * a1 + t) ≤ h 181 t) ∨ (x2 = 0 ∧ ¬ jmAl a1 h)) → (g = h) → (0 ≤ x3 ∧ x3 ≤ 6) → jfr w_X12_takeGoods h g → (6 - x3) + 20000 < (N : Int) → jGo E l 91 229 229 (jRK (k_X12_takeGoods a1 h)) 4 [.inr (.inr (.inl 176)), .inl a1, .inl x2, .inl x3] [] 229 jr0 g) ∧
      (∀ (x2 : Int) (x3 : Int) (g : JH), (0 ≤ x2 ∧ x2 ≤ 1 ∧ 0 ≤ x3 ∧ x3 ≤ 6) → ((x2 = 1 ∧ jmAl a1 h ∧ g = jit (jmTs a1) (x3).toNat h) ∨ (x2 = 0 ∧ ¬ jmAl a1 h ∧ g = h)) → (0 ≤ x3 ∧ x3 ≤ 6) → jfr w_X12_takeGoods h g → (6 - x3) < (N : Int) → jGo E l 91 229 229 (jRK (k_X12_takeGoods a1 h)) 48 [.inr (.inr (.inl 176)), .inl a1, .inl x2, .inl x3] [] 229 jr0 g) := by
    intro N
    induction N with
    | zero => exact ⟨fun _ _ _ hi hx0 hx1 hx2 _ hN => absurd hN (by omega), fun _ _ _ hi hx0 hx1 _ hN => absurd hN (by omega)⟩
    | succ N ih =>
      refine ⟨?_, ?_⟩
      · intro x2 x3 g hi hx0 hx1 hx2 hf hN
        refine jGo_blk qX12_takeGoods_4 ?_
        refine And.intro (fun c1 => ?_) (fun c1 => ?_)
        · replace c1 : 6 ≤ x3 := c1
          show jGo E l 91 229 229 _ 46 [.inr (.inr (.inl 176)), .inl a1, .inl x2, .inl x3] [] 229 jr0 g
          refine jGo_blk qX12_takeGoods_46 ?_
          show jGo E l 91 229 229 _ 48 [.inr (.inr (.inl 176)), .inl a1, .inl x2, .inl 0] [] 229 jr0 g
          have hc2 : (x2 = 1 ∧ jmAl a1 h ∧ g = jit (jmTs a1) (0 : Int).toNat h) ∨ (x2 = 0 ∧ ¬ jmAl a1 h ∧ g = h) := by
            rcases hx0 with q | q
            · exact Or.inl ⟨q.1, ⟨q.2 0 (by decide) (by omega), q.2 1 (by decide) (by omega), q.2 2 (by decide) (by omega), q.2 3 (by decide) (by omega), q.2 4 (by decide) (by omega), q.2 5 (by decide) (by omega)⟩, hx1⟩
            · exact Or.inr ⟨q.1, q.2, hx1⟩
          exact ih.2 x2 0 g (by omega) (by exact hc2) (by omega) hf (by omega)
        · replace c1 : x3 < 6 := by first | exact c1 | exact Int.not_le.mp c1 | exact Int.not_lt.mp c1 | exact Decidable.not_not.mp c1
          refine And.intro (fun c3 => ?_) (fun c3 => ?_)
          · replace c3 : x2 = 0 := c3
            show jGo E l 91 229 229 _ 38 [.inr (.inr (.inl 176)), .inl a1, .inl x2, .inl x3] [] 229 jr0 g
            refine jGo_blk qX12_takeGoods_38 ?_
            show jGo E l 91 229 229 _ 39 [.inr (.inr (.inl 176)), .inl a1, .inl x2, .inl x3] [.inl 0] 229 jr0 g
            refine jGo_blk qX12_takeGoods_39 ?_
            have e4 : jw32 (x3 + 1) = x3 + 1 := jzj32 (by omega)
            show jGo E l 91 229 229 _ 4 [.inr (.inr (.inl 176)), .inl a1, .inl 0, .inl (jw32 (x3 + 1))] [] 229 jr0 g
            have y8 : g 181 x3 = h 181 x3 := by rw [hx1]
            have y9 : g 199 (6 * a1 + x3) = h 199 (6 * a1 + x3) := by rw [hx1]
            have hc5 : ¬ jmAl a1 h := by
              rcases hx0 with q | q
              · intro q9; obtain ⟨q0, q1, q2, q3, q4, q5⟩ := q9
                have y10 : h 181 x3 < h 199 (6 * a1 + x3) := by omega
                clear y8 y9; rcases (show x3 = 0 ∨ x3 = 1 ∨ x3 = 2 ∨ x3 = 3 ∨ x3 = 4 ∨ x3 = 5 by omega) with z | z | z | z | z | z <;> rw [z] at y10 <;> omega
              · exact q.2
            exact ih.1 0 (jw32 (x3 + 1)) g (by omega) (by exact Or.inr ⟨rfl, hc5⟩) (by exact hx1) (by omega) hf (by omega)
          · replace c3 : ¬ x2 = 0 := by first | exact c3 | exact Int.not_le.mp c3 | exact Int.not_lt.mp c3 | exact Decidable.not_not.mp c3
            refine st_gr jo_176 jr_176_5 ?_
            refine st_ai jo_181 (show 0 ≤ x3 by omega) (show x3 < ((6 : Nat) : Int) by omega) (fun v6 ev6 b7 => ?_)
            replace ev6 : v6 = g 181 x3 := ev6
            replace b7 := (jba_181 x3 _).1 b7
            refine st_gr jo_176 jr_176_25 ?_
            have e8 : jw32 (6 * a1) = 6 * a1 := jzj32 (by omega)
            have e9 : jw32 ((jw32 (6 * a1)) + x3) = (jw32 (6 * a1)) + x3 := jzj32 (by omega)
            refine st_ai jo_199 (show 0 ≤ jw32 ((jw32 (6 * a1)) + x3) by omega) (show jw32 ((jw32 (6 * a1)) + x3) < ((96 : Nat) : Int) by omega) (fun v10 ev10 b11 => ?_)
            replace ev10 : v10 = g 199 (jw32 ((jw32 (6 * a1)) + x3)) := ev10
            replace b11 := (jba_199 (jw32 ((jw32 (6 * a1)) + x3)) _).1 b11
            refine And.intro (fun c12 => ?_) (fun c12 => ?_)
            · replace c12 : v6 < v10 := c12
              show jGo E l 91 229 229 _ 38 [.inr (.inr (.inl 176)), .inl a1, .inl x2, .inl x3] [] 229 jr0 g
              refine jGo_blk qX12_takeGoods_38 ?_
              show jGo E l 91 229 229 _ 39 [.inr (.inr (.inl 176)), .inl a1, .inl x2, .inl x3] [.inl 0] 229 jr0 g
              refine jGo_blk qX12_takeGoods_39 ?_
              have e13 : jw32 (x3 + 1) = x3 + 1 := jzj32 (by omega)
              show jGo E l 91 229 229 _ 4 [.inr (.inr (.inl 176)), .inl a1, .inl 0, .inl (jw32 (x3 + 1))] [] 229 jr0 g
              have e14 : g 199 (jw32 ((jw32 (6 * a1)) + x3)) = g 199 (((6 * a1)) + x3) := congrArg (g 199) (show jw32 ((jw32 (6 * a1)) + x3) = (((6 * a1)) + x3) by omega)
              have y8 : g 181 x3 = h 181 x3 := by rw [hx1]
              have y9 : g 199 (6 * a1 + x3) = h 199 (6 * a1 + x3) := by rw [hx1]
              have hc15 : ¬ jmAl a1 h := by
                rcases hx0 with q | q
                · intro q9; obtain ⟨q0, q1, q2, q3, q4, q5⟩ := q9
                  have y10 : h 181 x3 < h 199 (6 * a1 + x3) := by omega
                  clear y8 y9; rcases (show x3 = 0 ∨ x3 = 1 ∨ x3 = 2 ∨ x3 = 3 ∨ x3 = 4 ∨ x3 = 5 by omega) with z | z | z | z | z | z <;> rw [z] at y10 <;> omega
                · exact q.2
              exact ih.1 0 (jw32 (x3 + 1)) g (by omega) (by exact Or.inr ⟨rfl, hc15⟩) (by exact hx1) (by omega) hf (by omega)
            · replace c12 : v10 ≤ v6 := by first | exact c12 | exact Int.not_le.mp c12 | exact Int.not_lt.mp c12 | exact Decidable.not_not.mp c12
              show jGo E l 91 229 229 _ 39 [.inr (.inr (.inl 176)), .inl a1, .inl x2, .inl x3] [.inl 1] 229 jr0 g
              refine jGo_blk qX12_takeGoods_39 ?_
              have e16 : jw32 (x3 + 1) = x3 + 1 := jzj32 (by omega)
              show jGo E l 91 229 229 _ 4 [.inr (.inr (.inl 176)), .inl a1, .inl 1, .inl (jw32 (x3 + 1))] [] 229 jr0 g
              have e17 : g 199 (jw32 ((jw32 (6 * a1)) + x3)) = g 199 (((6 * a1)) + x3) := congrArg (g 199) (show jw32 ((jw32 (6 * a1)) + x3) = (((6 * a1)) + x3) by omega)
              have y8 : g 181 x3 = h 181 x3 := by rw [hx1]
              have y9 : g 199 (6 * a1 + x3) = h 199 (6 * a1 + x3) := by rw [hx1]
              have hc18 : ∀ t : Int, 0 ≤ t → t < jw32 (x3 + 1) → h 199 (6 * a1 + t) ≤ h 181 t := by
                intro t p1 p2
                by_cases z : t = x3
                · rw [z]; omega
                · rcases hx0 with q | q
                  · exact q.2 t p1 (by omega)
                  · exfalso; omega
              exact ih.1 1 (jw32 (x3 + 1)) g (by omega) (by exact Or.inl ⟨rfl, hc18⟩) (by exact hx1) (by omega) hf (by omega)
      · intro x2 x3 g hi hx0 hx1 hf hN
        refine jGo_blk qX12_takeGoods_48 ?_
        refine And.intro (fun c19 => ?_) (fun c19 => ?_)
        · replace c19 : 6 ≤ x3 := c19
          show jGo E l 91 229 229 _ 84 [.inr (.inr (.inl 176)), .inl a1, .inl x2, .inl x3] [] 229 jr0 g
          refine jGo_blk qX12_takeGoods_84 ?_
          refine st_gr jo_176 jr_176_22 ?_
          refine st_sb jo_196 (show 0 ≤ a1 by omega) (show a1 < ((16 : Nat) : Int) by omega) (fun hx => (jba_196 _ _).2 (show 0 ≤ x2 ∧ x2 ≤ 1 by omega)) (fun g20 eg20 => ?_)
          replace eg20 : g20 = jup g 196 a1 x2 := eg20
          have fg20 : jfr w_X12_takeGoods h g20 := jfr_up hf eg20 (by unfold w_X12_takeGoods; omega)
          have e21 : g20 196 a1 = x2 := jup_s eg20
          refine st_gr jo_176 jr_176_23 ?_
          refine st_ai jo_197 (show 0 ≤ a1 by omega) (show a1 < ((16 : Nat) : Int) by omega) (fun v22 ev22 b23 => ?_)
          replace ev22 : v22 = g20 197 a1 := ev22
          replace b23 := (jba_197 a1 _).1 b23
          refine And.intro (fun c24 => ?_) (fun c24 => ?_)
          · replace c24 : x2 = 0 := c24
            show jGo E l 91 229 229 _ 106 [.inr (.inr (.inl 176)), .inl a1, .inl x2, .inl x3] [.inl v22, .inl a1, .inr (.inr (.inl 197))] 229 jr0 g20
            refine jGo_blk qX12_takeGoods_106 ?_
            show jGo E l 91 229 229 _ 107 [.inr (.inr (.inl 176)), .inl a1, .inl x2, .inl x3] [.inl 1, .inl v22, .inl a1, .inr (.inr (.inl 197))] 229 jr0 g20
            refine jGo_blk qX12_takeGoods_107 ?_
            refine st_si jo_197 (show 0 ≤ a1 by omega) (show a1 < ((16 : Nat) : Int) by omega) (fun hx => (jba_197 _ _).2 hx) (fun g25 eg25 => ?_)
            replace eg25 : g25 = jup g20 197 a1 (jw32 (v22 + 1)) := eg25
            have fg25 : jfr w_X12_takeGoods h g25 := jfr_up fg20 eg25 (by unfold w_X12_takeGoods; omega)
            have e26 : g25 197 a1 = jw32 (v22 + 1) := jup_s eg25
            have hc27 : g25 = jmTk a1 h := by
              unfold jmTk
              rcases hx0 with ⟨q1, q2, q3⟩ | ⟨q1, q2, q3⟩
              · first | (exfalso; omega) | (rw [if_pos q2, show jit (jmTs a1) 6 h = g by rw [q3, show x3 = 6 by omega] <;> rfl]; subst eg25 ev22 eg20; subst q1; unfold jmTf; (repeat (first | rw [if_pos (by omega)] | rw [if_neg (by omega)])); all_goals ((try rfl)))
              · first | (exfalso; omega) | (rw [if_neg q2, ← q3]; subst eg25 ev22 eg20; subst q1; unfold jmTf; (repeat (first | rw [if_pos (by omega)] | rw [if_neg (by omega)])); all_goals ((try rfl)))
            exact ⟨rfl, rfl, fg25, rfl, (by exact hc27)⟩
          · replace c24 : ¬ x2 = 0 := by first | exact c24 | exact Int.not_le.mp c24 | exact Int.not_lt.mp c24 | exact Decidable.not_not.mp c24
            show jGo E l 91 229 229 _ 107 [.inr (.inr (.inl 176)), .inl a1, .inl x2, .inl x3] [.inl 0, .inl v22, .inl a1, .inr (.inr (.inl 197))] 229 jr0 g20
            refine jGo_blk qX12_takeGoods_107 ?_
            refine st_si jo_197 (show 0 ≤ a1 by omega) (show a1 < ((16 : Nat) : Int) by omega) (fun hx => (jba_197 _ _).2 hx) (fun g28 eg28 => ?_)
            replace eg28 : g28 = jup g20 197 a1 (jw32 (v22 + 0)) := eg28
            have fg28 : jfr w_X12_takeGoods h g28 := jfr_up fg20 eg28 (by unfold w_X12_takeGoods; omega)
            have e29 : g28 197 a1 = jw32 (v22 + 0) := jup_s eg28
            have hc30 : g28 = jmTk a1 h := by
              unfold jmTk
              rcases hx0 with ⟨q1, q2, q3⟩ | ⟨q1, q2, q3⟩
              · first | (exfalso; omega) | (rw [if_pos q2, show jit (jmTs a1) 6 h = g by rw [q3, show x3 = 6 by omega] <;> rfl]; subst eg28 ev22 eg20; subst q1; unfold jmTf; (repeat (first | rw [if_pos (by omega)] | rw [if_neg (by omega)])); all_goals ((try rfl)))
              · first | (exfalso; omega) | (rw [if_neg q2, ← q3]; subst eg28 ev22 eg20; subst q1; unfold jmTf; (repeat (first | rw [if_pos (by omega)] | rw [if_neg (by omega)])); all_goals ((try rfl)))
            exact ⟨rfl, rfl, fg28, rfl, (by exact hc30)⟩
        · replace c19 : x3 < 6 := by first | exact c19 | exact Int.not_le.mp c19 | exact Int.not_lt.mp c19 | exact Decidable.not_not.mp c19
          refine And.intro (fun c31 => ?_) (fun c31 => ?_)
          · replace c31 : x2 = 0 := c31
            show jGo E l 91 229 229 _ 84 [.inr (.inr (.inl 176)), .inl a1, .inl x2, .inl x3] [] 229 jr0 g
            refine jGo_blk qX12_takeGoods_84 ?_
            refine st_gr jo_176 jr_176_22 ?_
            refine st_sb jo_196 (show 0 ≤ a1 by omega) (show a1 < ((16 : Nat) : Int) by omega) (fun hx => (jba_196 _ _).2 (show 0 ≤ x2 ∧ x2 ≤ 1 by omega)) (fun g32 eg32 => ?_)
            replace eg32 : g32 = jup g 196 a1 x2 := eg32
            have fg32 : jfr w_X12_takeGoods h g32 := jfr_up hf eg32 (by unfold w_X12_takeGoods; omega)
            have e33 : g32 196 a1 = x2 := jup_s eg32
            refine st_gr jo_176 jr_176_23 ?_
            refine st_ai jo_197 (show 0 ≤ a1 by omega) (show a1 < ((16 : Nat) : Int) by omega) (fun v34 ev34 b35 => ?_)
            replace ev34 : v34 = g32 197 a1 := ev34
            replace b35 := (jba_197 a1 _).1 b35
            refine And.intro (fun c36 => ?_) (fun c36 => ?_)
            · replace c36 : x2 = 0 := c36
              show jGo E l 91 229 229 _ 106 [.inr (.inr (.inl 176)), .inl a1, .inl x2, .inl x3] [.inl v34, .inl a1, .inr (.inr (.inl 197))] 229 jr0 g32
              refine jGo_blk qX12_takeGoods_106 ?_
              show jGo E l 91 229 229 _ 107 [.inr (.inr (.inl 176)), .inl a1, .inl x2, .inl x3] [.inl 1, .inl v34, .inl a1, .inr (.inr (.inl 197))] 229 jr0 g32
              refine jGo_blk qX12_takeGoods_107 ?_
              refine st_si jo_197 (show 0 ≤ a1 by omega) (show a1 < ((16 : Nat) : Int) by omega) (fun hx => (jba_197 _ _).2 hx) (fun g37 eg37 => ?_)
              replace eg37 : g37 = jup g32 197 a1 (jw32 (v34 + 1)) := eg37
              have fg37 : jfr w_X12_takeGoods h g37 := jfr_up fg32 eg37 (by unfold w_X12_takeGoods; omega)
              have e38 : g37 197 a1 = jw32 (v34 + 1) := jup_s eg37
              have hc39 : g37 = jmTk a1 h := by
                unfold jmTk
                rcases hx0 with ⟨q1, q2, q3⟩ | ⟨q1, q2, q3⟩
                · first | (exfalso; omega) | (rw [if_pos q2, show jit (jmTs a1) 6 h = g by rw [q3, show x3 = 6 by omega] <;> rfl]; subst eg37 ev34 eg32; subst q1; unfold jmTf; (repeat (first | rw [if_pos (by omega)] | rw [if_neg (by omega)])); all_goals ((try rfl)))
                · first | (exfalso; omega) | (rw [if_neg q2, ← q3]; subst eg37 ev34 eg32; subst q1; unfold jmTf; (repeat (first | rw [if_pos (by omega)] | rw [if_neg (by omega)])); all_goals ((try rfl)))
              exact ⟨rfl, rfl, fg37, rfl, (by exact hc39)⟩
            · replace c36 : ¬ x2 = 0 := by first | exact c36 | exact Int.not_le.mp c36 | exact Int.not_lt.mp c36 | exact Decidable.not_not.mp c36
              exfalso; omega
          · replace c31 : ¬ x2 = 0 := by first | exact c31 | exact Int.not_le.mp c31 | exact Int.not_lt.mp c31 | exact Decidable.not_not.mp c31
            refine st_gr jo_176 jr_176_5 ?_
            refine st_ai jo_181 (show 0 ≤ x3 by omega) (show x3 < ((6 : Nat) : Int) by omega) (fun v40 ev40 b41 => ?_)
            replace ev40 : v40 = g 181 x3 := ev40
            replace b41 := (jba_181 x3 _).1 b41
            refine st_gr jo_176 jr_176_25 ?_
            have e42 : jw32 (6 * a1) = 6 * a1 := jzj32 (by omega)
            have e43 : jw32 ((jw32 (6 * a1)) + x3) = (jw32 (6 * a1)) + x3 := jzj32 (by omega)
            refine st_ai jo_199 (show 0 ≤ jw32 ((jw32 (6 * a1)) + x3) by omega) (show jw32 ((jw32 (6 * a1)) + x3) < ((96 : Nat) : Int) by omega) (fun v44 ev44 b45 => ?_)
            replace ev44 : v44 = g 199 (jw32 ((jw32 (6 * a1)) + x3)) := ev44
            replace b45 := (jba_199 (jw32 ((jw32 (6 * a1)) + x3)) _).1 b45
            refine st_si jo_181 (show 0 ≤ x3 by omega) (show x3 < ((6 : Nat) : Int) by omega) (fun hx => (jba_181 _ _).2 hx) (fun g46 eg46 => ?_)
            replace eg46 : g46 = jup g 181 x3 (jw32 (v40 - v44)) := eg46
            have fg46 : jfr w_X12_takeGoods h g46 := jfr_up hf eg46 (by unfold w_X12_takeGoods; omega)
            have e47 : g46 181 x3 = jw32 (v40 - v44) := jup_s eg46
            have e48 : jw32 (x3 + 1) = x3 + 1 := jzj32 (by omega)
            show jGo E l 91 229 229 _ 48 [.inr (.inr (.inl 176)), .inl a1, .inl x2, .inl (jw32 (x3 + 1))] [] 229 jr0 g46
            have hc49 : (x2 = 1 ∧ jmAl a1 h ∧ g46 = jit (jmTs a1) (jw32 (x3 + 1) : Int).toNat h) ∨ (x2 = 0 ∧ ¬ jmAl a1 h ∧ g46 = h) := by
              rcases hx0 with q | q
              · refine Or.inl ⟨q.1, q.2.1, ?_⟩
                rw [show jw32 (x3 + 1) = x3 + 1 by omega, jit_s (by omega), ← q.2.2]; subst eg46 ev44 ev40; unfold jmTs; (repeat (first | rw [if_pos (by omega)] | rw [if_neg (by omega)])); all_goals ((try rw [e48]); (try rw [e43]); (try rw [e42]); (try rfl))
              · exfalso; omega
            exact ih.2 x2 (jw32 (x3 + 1)) g46 (by omega) (by exact hc49) (by omega) fg46 (by omega)
  refine jGo_blk qX12_takeGoods_0 ?_
  show jGo E l 91 229 229 _ 4 [.inr (.inr (.inl 176)), .inl a1, .inl 1, .inl 0] [] 229 jr0 h
  exact (key 1000000000000).1 1 0 h (by omega) (by exact Or.inl ⟨rfl, fun t p1 p2 => absurd p2 (by omega)⟩) (by rfl) (by omega) f0 (by omega)

def w_X12_pass (i k : Int) : Prop := (i = 181) ∨ (192 ≤ i ∧ i ≤ 200) ∨ (i = 202) ∨ (i = 176 ∧ k = 0) ∨ (i = 176 ∧ 30 ≤ k ∧ k ≤ 32)
theorem ws_X12_workAll__X12_pass (i k : Int) (q : w_X12_workAll i k) : w_X12_pass i k := by
  unfold w_X12_workAll at q; unfold w_X12_pass
  rcases q with q | q
  · exact (Or.inr (Or.inl (by omega)))
  · exact (Or.inr (Or.inr (Or.inr (Or.inr (by omega)))))
theorem ws_X12_payAll__X12_pass (i k : Int) (q : w_X12_payAll i k) : w_X12_pass i k := by
  unfold w_X12_payAll at q; unfold w_X12_pass
  rcases q with q | q
  · exact (Or.inl (by omega))
  · exact (Or.inr (Or.inr (Or.inr (Or.inr (by omega)))))
theorem ws_X12_takeGoods__X12_pass (i k : Int) (q : w_X12_takeGoods i k) : w_X12_pass i k := by
  unfold w_X12_takeGoods at q; unfold w_X12_pass
  rcases q with q | q
  · exact (Or.inl (by omega))
  · exact (Or.inr (Or.inl (by omega)))
theorem ws_X12_moveAll__X12_pass (i k : Int) (q : w_X12_moveAll i k) : w_X12_pass i k := by
  unfold w_X12_moveAll at q; unfold w_X12_pass
  rcases q with q | q | q
  · exact (Or.inr (Or.inl (by omega)))
  · exact (Or.inr (Or.inl (by omega)))
  · exact (Or.inr (Or.inr (Or.inl (by omega))))
def k_X12_pass (h : JH) (v : Option JV) (r' g : JH) : Prop := r' = jr0 ∧ jfr w_X12_pass h g ∧ ∃ x : Int, v = some (.inl x) ∧ (True) ∧ ((g 176 0 = h 176 0 + 1) ∧ g = jmPs h)
set_option maxHeartbeats 4000000 in
theorem c_X12_pass {E : JE} {l : Launch} (h : JH) (q0 : h 176 0 ≤ 2299) : jMt E l 94 [.inr (.inr (.inl 176))] 229 jr0 h (k_X12_pass h) := by
  refine jMt0 (nL := 3) (ls := [.inr (.inr (.inl 176)), .inr (.inr (.inr ())), .inr (.inr (.inr ()))]) (by decide +kernel) (by decide +kernel) (by decide +kernel) rfl rfl ?_
  have f0 : jfr w_X12_pass h h := jfr_rf _ _
  have key : ∀ N : Nat, (∀ (x1 : Int) (x2 : Int) (m9 : Int) (g : JH), ((-1) ≤ x2 ∧ x2 ≤ 15) → (0 ≤ m9 ∧ m9 ≤ 1700 ∧ (x2 < 0 ∨ 1700 - ((99 - g 190 x2) * 16 + x2) ≤ m9)) → (g 176 0 = h 176 0 + 1) → (jmGA (jmMA (jmD0 h)) = jch jmGo jnx m9.toNat x2 g) → jfr w_X12_pass h g → m9 < (N : Int) → jGo E l 94 229 229 (jRK (k_X12_pass h)) 22 [.inr (.inr (.inl 176)), .inl x1, .inl x2] [] 229 jr0 g) := by
    intro N
    induction N with
    | zero => exact fun _ _ _ _ hi hx0 hx1 hx2 _ hN => absurd hN (by omega)
    | succ N ih =>
      intro x1 x2 m9 g hi hx0 hx1 hx2 hf hN
      refine jGo_ok (fun hls _ => ?_)
      have rx1 : -2147483648 ≤ x1 ∧ x1 ≤ 2147483647 := hls (.inl x1) (by simp)
      refine jGo_blk qX12_pass_22 ?_
      refine And.intro (fun c1 => ?_) (fun c1 => ?_)
      · replace c1 : x2 < 0 := c1
        show jGo E l 94 229 229 _ 50 [.inr (.inr (.inl 176)), .inl x1, .inl x2] [] 229 jr0 g
        refine jGo_blk qX12_pass_50 ?_
        refine st_cv (na := 0) (st := [.inr (.inr (.inl 176))]) jo_176 rfl rfl rfl (c_X12_workAll g) rfl ?_
        rintro _ _ g3 ⟨rfl, ft2, rfl, zt2⟩ kt2
        have fg3 : jfr w_X12_pass h g3 := jfr_tr hf ft2 ws_X12_workAll__X12_pass
        replace zt2 : g3 = jmWA g := zt2
        refine st_cv (na := 0) (st := [.inr (.inr (.inl 176))]) jo_176 rfl rfl rfl (c_X12_payAll g3) rfl ?_
        rintro _ _ g5 ⟨rfl, ft4, rfl, zt4⟩ kt4
        have fg5 : jfr w_X12_pass h g5 := jfr_tr fg3 ft4 ws_X12_payAll__X12_pass
        replace zt4 : g5 = jmPA g3 := zt4
        have e6 : g5 176 0 = g3 176 0 := ft4 176 0 (by unfold w_X12_payAll; omega)
        have e7 : g3 176 0 = g 176 0 := ft2 176 0 (by unfold w_X12_workAll; omega)
        have hc8 : g5 = jmPs h := by
          unfold jmPs; rw [hx2, jch_e (by omega)]; subst zt4 zt2; rfl
        exact st_r0 (ls := []) ⟨rfl, rfl, fg5, x1, rfl, trivial, (by exact ⟨by omega, hc8⟩)⟩
      · replace c1 : 0 ≤ x2 := by first | exact c1 | exact Int.not_le.mp c1 | exact Int.not_lt.mp c1 | exact Decidable.not_not.mp c1
        refine st_gr jo_176 jr_176_22 ?_
        refine st_bi jo_196 (show 0 ≤ x2 by omega) (show x2 < ((16 : Nat) : Int) by omega) (fun v9 ev9 b10 => ?_)
        replace ev9 : v9 = g 196 x2 := ev9
        replace b10 := (jba_196 x2 _).1 b10
        refine And.intro (fun c11 => ?_) (fun c11 => ?_)
        · replace c11 : ¬ v9 = 0 := c11
          show jGo E l 94 229 229 _ 40 [.inr (.inr (.inl 176)), .inl x1, .inl x2] [] 229 jr0 g
          refine jGo_blk qX12_pass_40 ?_
          refine st_cv (na := 2) (st := [.inl 1, .inl x2, .inr (.inr (.inl 176))]) jo_176 rfl rfl rfl (c_X12_firstBehind x2 1 g (by omega)) rfl ?_
          rintro _ _ _ ⟨rfl, rfl, t12, rfl, ht12, zt12⟩ kt12
          replace kt12 : -2147483648 ≤ t12 ∧ t12 ≤ 2147483647 := kt12
          replace ht12 : -1 ≤ t12 ∧ t12 ≤ 15 := ht12
          replace zt12 : (t12 = -1 ∨ (0 ≤ t12 ∧ t12 ≤ 15 ∧ (x2 < 0 ∨ (99 - g 190 x2) * 16 + x2 < (99 - g 190 t12) * 16 + t12))) ∧ t12 = jfb g x2 (1 : Int) (g 176 14).toNat := zt12
          have y14 := zt12.2
          show jGo E l 94 229 229 _ 22 [.inr (.inr (.inl 176)), .inl x1, .inl t12] [] 229 jr0 g
          refine jGo_bd (fun hbd15 => ?_)
          have b16 := (jba_190 t12 _).1 (hbd15 190 t12)
          have b17 := (jba_190 x2 _).1 (hbd15 190 x2)
          have hc18 : jmGo x2 g = g := by
            subst ev9; unfold jmGo; (repeat (first | rw [if_pos (by omega)] | rw [if_neg (by omega)]))
          exact ih x1 t12 (m9 - 1) g (by omega) (by omega) (by omega) (by rw [hx2, jch_s (by omega) (by omega), hc18]; unfold jnx; rw [y14]) hf (by omega)
        · replace c11 : v9 = 0 := by first | exact c11 | exact Int.not_le.mp c11 | exact Int.not_lt.mp c11 | exact Decidable.not_not.mp c11
          refine st_cv (na := 1) (st := [.inl x2, .inr (.inr (.inl 176))]) jo_176 rfl rfl rfl (c_X12_takeGoods x2 g (by omega)) rfl ?_
          rintro _ _ g20 ⟨rfl, ft19, rfl, zt19⟩ kt19
          have fg20 : jfr w_X12_pass h g20 := jfr_tr hf ft19 ws_X12_takeGoods__X12_pass
          replace zt19 : g20 = jmTk x2 g := zt19
          show jGo E l 94 229 229 _ 40 [.inr (.inr (.inl 176)), .inl x1, .inl x2] [] 229 jr0 g20
          refine jGo_blk qX12_pass_40 ?_
          refine st_cv (na := 2) (st := [.inl 1, .inl x2, .inr (.inr (.inl 176))]) jo_176 rfl rfl rfl (c_X12_firstBehind x2 1 g20 (by omega)) rfl ?_
          rintro _ _ _ ⟨rfl, rfl, t21, rfl, ht21, zt21⟩ kt21
          replace kt21 : -2147483648 ≤ t21 ∧ t21 ≤ 2147483647 := kt21
          replace ht21 : -1 ≤ t21 ∧ t21 ≤ 15 := ht21
          replace zt21 : (t21 = -1 ∨ (0 ≤ t21 ∧ t21 ≤ 15 ∧ (x2 < 0 ∨ (99 - g20 190 x2) * 16 + x2 < (99 - g20 190 t21) * 16 + t21))) ∧ t21 = jfb g20 x2 (1 : Int) (g20 176 14).toNat := zt21
          have y23 := zt21.2
          show jGo E l 94 229 229 _ 22 [.inr (.inr (.inl 176)), .inl x1, .inl t21] [] 229 jr0 g20
          refine jGo_bd (fun hbd24 => ?_)
          have b25 := (jba_190 t21 _).1 (hbd24 190 t21)
          have b26 := (jba_190 x2 _).1 (hbd24 190 x2)
          have e27 : g20 190 x2 = g 190 x2 := ft19 190 x2 (by unfold w_X12_takeGoods; omega)
          have e28 : g20 176 0 = g 176 0 := ft19 176 0 (by unfold w_X12_takeGoods; omega)
          have hc29 : jmGo x2 g = g20 := by
            subst zt19 ev9; unfold jmGo; (repeat (first | rw [if_pos (by omega)] | rw [if_neg (by omega)]))
          exact ih x1 t21 (m9 - 1) g20 (by omega) (by omega) (by omega) (by rw [hx2, jch_s (by omega) (by omega), hc29]; unfold jnx; rw [y23]) fg20 (by omega)
  refine jGo_blk qX12_pass_0 ?_
  refine st_gi jo_176 (fun v30 ev30 b31 => ?_)
  replace ev30 : v30 = h 176 0 := ev30
  replace b31 := (jbf_12_0 jo_176 _).1 b31
  have e32 : jw32 (v30 + 1) = v30 + 1 := jzj32 (by omega)
  refine st_pi jo_176 (fun hx => (jbf_12_0 jo_176 _).2 (show 0 ≤ jw32 (v30 + 1) ∧ jw32 (v30 + 1) ≤ 2300 by omega)) (fun g33 eg33 => ?_)
  replace eg33 : g33 = jup h 176 0 (jw32 (v30 + 1)) := eg33
  have fg33 : jfr w_X12_pass h g33 := jfr_up f0 eg33 (by unfold w_X12_pass; omega)
  have e34 : g33 176 0 = jw32 (v30 + 1) := jup_s eg33
  refine st_cv (na := 0) (st := [.inr (.inr (.inl 176))]) jo_176 rfl rfl rfl (c_X12_moveAll g33) rfl ?_
  rintro _ _ g36 ⟨rfl, ft35, t35, rfl, ht35, zt35⟩ kt35
  replace kt35 : -2147483648 ≤ t35 ∧ t35 ≤ 2147483647 := kt35
  have fg36 : jfr w_X12_pass h g36 := jfr_tr fg33 ft35 ws_X12_moveAll__X12_pass
  replace zt35 : g36 = jmMA g33 := zt35
  refine st_cv (na := 2) (st := [.inl 1, .inl (-1), .inr (.inr (.inl 176))]) jo_176 rfl rfl rfl (c_X12_firstBehind (-1) 1 g36 (by omega)) rfl ?_
  rintro _ _ _ ⟨rfl, rfl, t37, rfl, ht37, zt37⟩ kt37
  replace kt37 : -2147483648 ≤ t37 ∧ t37 ≤ 2147483647 := kt37
  replace ht37 : -1 ≤ t37 ∧ t37 ≤ 15 := ht37
  replace zt37 : (t37 = -1 ∨ (0 ≤ t37 ∧ t37 ≤ 15 ∧ ((-1 : Int) < 0 ∨ (99 - g36 190 (-1 : Int)) * 16 + (-1 : Int) < (99 - g36 190 t37) * 16 + t37))) ∧ t37 = jfb g36 (-1 : Int) (1 : Int) (g36 176 14).toNat := zt37
  have y39 := zt37.2
  show jGo E l 94 229 229 _ 22 [.inr (.inr (.inl 176)), .inl t35, .inl t37] [] 229 jr0 g36
  refine jGo_bd (fun hbd40 => ?_)
  have b41 := (jba_190 t37 _).1 (hbd40 190 t37)
  have e42 : g36 176 0 = g33 176 0 := ft35 176 0 (by unfold w_X12_moveAll; omega)
  exact (key 1000000000000) t35 t37 1700 g36 (by omega) (by omega) (by omega) (by subst y39 zt35 eg33 ev30; unfold jmGA jnx jmD0; (try rw [e32]); rfl) fg36 (by omega)

def w_X12_days (i k : Int) : Prop := (i = 181) ∨ (192 ≤ i ∧ i ≤ 200) ∨ (i = 202) ∨ (i = 207) ∨ (i = 219) ∨ (i = 176 ∧ k = 0) ∨ (i = 176 ∧ 30 ≤ k ∧ k ≤ 32)
theorem ws_X12_pass__X12_days (i k : Int) (q : w_X12_pass i k) : w_X12_days i k := by
  unfold w_X12_pass at q; unfold w_X12_days
  rcases q with q | q | q | q | q
  · exact (Or.inl (by omega))
  · exact (Or.inr (Or.inl (by omega)))
  · exact (Or.inr (Or.inr (Or.inl (by omega))))
  · exact (Or.inr (Or.inr (Or.inr (Or.inr (Or.inr (Or.inl (by omega)))))))
  · exact (Or.inr (Or.inr (Or.inr (Or.inr (Or.inr (Or.inr (by omega)))))))
theorem ws_X12_refuse__X12_days (i k : Int) (q : w_X12_refuse i k) : w_X12_days i k := by
  unfold w_X12_refuse at q; unfold w_X12_days
  exact (Or.inr (Or.inr (Or.inr (Or.inr (Or.inl (by omega))))))
def k_X12_days (a1 : Int) (h : JH) (v : Option JV) (r' g : JH) : Prop := r' = jr0 ∧ jfr w_X12_days h g ∧ ∃ x : Int, v = some (.inl x) ∧ (True) ∧ (((g 176 0 ≤ 2000 ∧ P_X12_days a1 h g) ∧ (((a1 < 1 ∨ 2000 - h 176 0 < a1) ∧ ∀ i k : Int, ¬ i = 219 → g i k = h i k) ∨ (1 ≤ a1 ∧ a1 ≤ 2000 - h 176 0 ∧ g = jit jmDy (a1).toNat h))) ∧ (jG9 h → jG9 g))
set_option maxHeartbeats 4000000 in
theorem c_X12_days {E : JE} {l : Launch} (a1 : Int) (h : JH) (q0 : h 176 0 ≤ 2000) : jMt E l 95 [.inr (.inr (.inl 176)), .inl a1] 229 jr0 h (k_X12_days a1 h) := by
  refine jMt0 (nL := 5) (ls := [.inr (.inr (.inl 176)), .inl a1, .inr (.inr (.inr ())), .inr (.inr (.inr ())), .inr (.inr (.inr ()))]) (by decide +kernel) (by decide +kernel) (by decide +kernel) rfl rfl ?_
  have f0 : jfr w_X12_days h h := jfr_rf _ _
  refine jGo_bd (fun hbdp => ?_)
  have hp0 := (jbf_12_0 jo_176 _).1 (hbdp 176 0)
  have key : ∀ N : Nat, (∀ (x2 : Int) (x3 : Int) (x4 : JV) (g : JH), (1 ≤ a1 ∧ a1 ≤ 2000 ∧ 0 ≤ x3 ∧ x3 ≤ 2000) → (g 176 0 = h 176 0 + x3 ∧ x3 ≤ a1 ∧ h 176 0 + a1 ≤ 2000 ∧ 1 ≤ a1) → (g = jit jmDy (x3).toNat h) → (jG9 h → jG9 g) → jfr w_X12_days h g → (2000 - x3) * 1000000 + 999999 < (N : Int) → jGo E l 95 229 229 (jRK (k_X12_days a1 h)) 35 [.inr (.inr (.inl 176)), .inl a1, .inl x2, .inl x3, x4] [] 229 jr0 g) ∧
      (∀ (x2 : Int) (x3 : Int) (x4 : Int) (g : JH), (1 ≤ a1 ∧ a1 ≤ 2000 ∧ 0 ≤ x3 ∧ x3 ≤ 1999 ∧ 0 ≤ x4 ∧ x4 ≤ 40) → (g 176 0 = h 176 0 + x3 + 1 ∧ x3 < a1 ∧ h 176 0 + a1 ≤ 2000 ∧ 1 ≤ a1) → ((x4 = 0 ∧ g = (jmPs (jit jmDy (x3).toNat h))) ∨ (((jmPs (jit jmDy (x3).toNat h)) 176 0).tmod 360 = 0 ∧ g = jit jmTr (x4).toNat (jmPs (jit jmDy (x3).toNat h)))) → (g 176 0 = (jmPs (jit jmDy (x3).toNat h)) 176 0 ∧ g 176 34 = (jmPs (jit jmDy (x3).toNat h)) 176 34) → (x4 = 0 ∨ x4 ≤ g 176 34) → (jG9 h → jG8 x4 g) → jfr w_X12_days h g → (2000 - x3) * 1000000 + (40 - x4) < (N : Int) → jGo E l 95 229 229 (jRK (k_X12_days a1 h)) 50 [.inr (.inr (.inl 176)), .inl a1, .inl x2, .inl x3, .inl x4] [] 229 jr0 g) := by
    intro N
    induction N with
    | zero => exact ⟨fun _ _ _ _ hi hx0 hx1 hx2 _ hN => absurd hN (by omega), fun _ _ _ _ hi hx0 hx1 hx2 hx3 hx4 _ hN => absurd hN (by omega)⟩
    | succ N ih =>
      refine ⟨?_, ?_⟩
      · intro x2 x3 x4 g hi hx0 hx1 hx2 hf hN
        refine jGo_ok (fun hls _ => ?_)
        have rx2 : -2147483648 ≤ x2 ∧ x2 ≤ 2147483647 := hls (.inl x2) (by simp)
        refine jGo_blk qX12_days_35 ?_
        refine And.intro (fun c1 => ?_) (fun c1 => ?_)
        · replace c1 : a1 ≤ x3 := c1
          show jGo E l 95 229 229 _ 118 [.inr (.inr (.inl 176)), .inl a1, .inl x2, .inl x3, x4] [] 229 jr0 g
          refine jGo_blk qX12_days_118 ?_
          exact st_r0 (ls := []) ⟨rfl, rfl, hf, x2, rfl, trivial, (by refine ⟨by refine ⟨by unfold P_X12_days; omega, Or.inr ⟨by omega, by omega, by rw [show a1 = x3 by omega]; exact hx1⟩⟩, ?_⟩; exact hx2)⟩
        · replace c1 : x3 < a1 := by first | exact c1 | exact Int.not_le.mp c1 | exact Int.not_lt.mp c1 | exact Decidable.not_not.mp c1
          refine st_cv (na := 0) (st := [.inr (.inr (.inl 176)), .inl x2]) jo_176 rfl rfl rfl (c_X12_pass g (by omega)) rfl ?_
          rintro _ _ g3 ⟨rfl, ft2, t2, rfl, ht2, zt2⟩ kt2
          replace kt2 : -2147483648 ≤ t2 ∧ t2 ≤ 2147483647 := kt2
          have fg3 : jfr w_X12_days h g3 := jfr_tr hf ft2 ws_X12_pass__X12_days
          replace zt2 : (g3 176 0 = g 176 0 + 1) ∧ g3 = jmPs g := zt2
          have y4 := zt2.2
          show jGo E l 95 229 229 _ 50 [.inr (.inr (.inl 176)), .inl a1, .inl (jw32 (x2 + t2)), .inl x3, .inl 0] [] 229 jr0 g3
          have yG : g3 = (jmPs (jit jmDy x3.toNat h)) := by rw [← hx1]; exact y4
          have e6 : g3 176 34 = g 176 34 := ft2 176 34 (by unfold w_X12_pass; omega)
          have e7 : g3 176 34 = g 176 34 := ft2 176 34 (by unfold w_X12_pass; omega)
          exact ih.2 (jw32 (x2 + t2)) x3 0 g3 (by omega) (by omega) (by exact Or.inl ⟨rfl, yG⟩) (by rw [yG]; exact ⟨rfl, rfl⟩) (by omega) (by exact fun q9 => jG8_0 (fun t => (ft2 207 t (by unfold w_X12_pass; omega))) (by omega) (hx2 q9)) fg3 (by omega)
      · intro x2 x3 x4 g hi hx0 hx1 hx2 hx3 hx4 hf hN
        refine jGo_ok (fun hls _ => ?_)
        have rx2 : -2147483648 ≤ x2 ∧ x2 ≤ 2147483647 := hls (.inl x2) (by simp)
        refine jGo_blk qX12_days_50 ?_
        refine st_gi jo_176 (fun v8 ev8 b9 => ?_)
        replace ev8 : v8 = g 176 34 := ev8
        replace b9 := (jbf_12_34 jo_176 _).1 b9
        refine And.intro (fun c10 => ?_) (fun c10 => ?_)
        · replace c10 : v8 ≤ x4 := c10
          show jGo E l 95 229 229 _ 112 [.inr (.inr (.inl 176)), .inl a1, .inl x2, .inl x3, .inl x4] [] 229 jr0 g
          refine jGo_blk qX12_days_112 ?_
          have e11 : jw32 (x3 + 1) = x3 + 1 := jzj32 (by omega)
          show jGo E l 95 229 229 _ 35 [.inr (.inr (.inl 176)), .inl a1, .inl x2, .inl (jw32 (x3 + 1)), .inl x4] [] 229 jr0 g
          have hc12 : g = jit jmDy (jw32 (x3 + 1)).toNat h := by
            rw [show jw32 (x3 + 1) = x3 + 1 by omega, jit_s (by omega)]
            show g = jmGr (jmPs (jit jmDy x3.toNat h))
            generalize jmPs (jit jmDy x3.toNat h) = G at hx1 hx2 ⊢
            subst ev8; unfold jmGr
            rw [← hx2.1]
            by_cases z : (g 176 0).tmod 360 = 0
            · rw [if_pos z, show (G 176 34).toNat = x4.toNat by omega]
              rcases hx1 with q | q
              · rw [q.1]; exact q.2
              · exact q.2
            · rw [if_neg z]
              rcases hx1 with q | q
              · exact q.2
              · exact absurd (by rw [hx2.1]; exact q.1) z
          exact ih.1 x2 (jw32 (x3 + 1)) (.inl x4) g (by omega) (by omega) (by exact hc12) (by exact fun q9 => jG8_e (by omega) (hx4 q9)) hf (by omega)
        · replace c10 : x4 < v8 := by first | exact c10 | exact Int.not_le.mp c10 | exact Int.not_lt.mp c10 | exact Decidable.not_not.mp c10
          refine st_gi jo_176 (fun v13 ev13 b14 => ?_)
          replace ev13 : v13 = g 176 0 := ev13
          replace b14 := (jbf_12_0 jo_176 _).1 b14
          refine And.intro (show 360 ≠ 0 by omega) ?_
          have e15 : v13.tmod 360 = v13 % 360 ∧ 0 ≤ v13.tmod 360 ∧ v13.tmod 360 < 360 := jmd (by omega) (by omega)
          refine And.intro (fun c16 => ?_) (fun c16 => ?_)
          · replace c16 : ¬ v13.tmod 360 = 0 := c16
            show jGo E l 95 229 229 _ 112 [.inr (.inr (.inl 176)), .inl a1, .inl x2, .inl x3, .inl x4] [] 229 jr0 g
            refine jGo_blk qX12_days_112 ?_
            have e17 : jw32 (x3 + 1) = x3 + 1 := jzj32 (by omega)
            show jGo E l 95 229 229 _ 35 [.inr (.inr (.inl 176)), .inl a1, .inl x2, .inl (jw32 (x3 + 1)), .inl x4] [] 229 jr0 g
            have hc18 : g = jit jmDy (jw32 (x3 + 1)).toNat h := by
              rw [show jw32 (x3 + 1) = x3 + 1 by omega, jit_s (by omega)]
              show g = jmGr (jmPs (jit jmDy x3.toNat h))
              generalize jmPs (jit jmDy x3.toNat h) = G at hx1 hx2 ⊢
              subst ev13 ev8; unfold jmGr
              rw [← hx2.1]
              by_cases z : (g 176 0).tmod 360 = 0
              · rw [if_pos z, show (G 176 34).toNat = x4.toNat by omega]
                rcases hx1 with q | q
                · rw [q.1]; exact q.2
                · exact q.2
              · rw [if_neg z]
                rcases hx1 with q | q
                · exact q.2
                · exact absurd (by rw [hx2.1]; exact q.1) z
            exact ih.1 x2 (jw32 (x3 + 1)) (.inl x4) g (by omega) (by omega) (by exact hc18) (by exact fun q9 => jG8_e (by omega) (hx4 q9)) hf (by omega)
          · replace c16 : v13.tmod 360 = 0 := by first | exact c16 | exact Int.not_le.mp c16 | exact Int.not_lt.mp c16 | exact Decidable.not_not.mp c16
            refine st_gr jo_176 jr_176_37 ?_
            refine st_ai jo_207 (show 0 ≤ x4 by omega) (show x4 < ((40 : Nat) : Int) by omega) (fun v19 ev19 b20 => ?_)
            replace ev19 : v19 = g 207 x4 := ev19
            replace b20 := (jba_207 x4 _).1 b20
            refine st_gr jo_176 jr_176_38 ?_
            refine st_ai jo_208 (show 0 ≤ x4 by omega) (show x4 < ((40 : Nat) : Int) by omega) (fun v21 ev21 b22 => ?_)
            replace ev21 : v21 = g 208 x4 := ev21
            replace b22 := (jba_208 x4 _).1 b22
            refine And.intro (fun c23 => ?_) (fun c23 => ?_)
            · replace c23 : 0 ≤ v21 := c23
              show jGo E l 95 229 229 _ 103 [.inr (.inr (.inl 176)), .inl a1, .inl x2, .inl x3, .inl x4] [.inl v19, .inl x4, .inr (.inr (.inl 207))] 229 jr0 g
              refine jGo_blk qX12_days_103 ?_
              show jGo E l 95 229 229 _ 104 [.inr (.inr (.inl 176)), .inl a1, .inl x2, .inl x3, .inl x4] [.inl 0, .inl v19, .inl x4, .inr (.inr (.inl 207))] 229 jr0 g
              refine jGo_blk qX12_days_104 ?_
              refine st_si jo_207 (show 0 ≤ x4 by omega) (show x4 < ((40 : Nat) : Int) by omega) (fun hx => (jba_207 _ _).2 hx) (fun g24 eg24 => ?_)
              replace eg24 : g24 = jup g 207 x4 (jw32 (v19 + 0)) := eg24
              have fg24 : jfr w_X12_days h g24 := jfr_up hf eg24 (by unfold w_X12_days; omega)
              have e25 : g24 207 x4 = jw32 (v19 + 0) := jup_s eg24
              have e26 : jw32 (x4 + 1) = x4 + 1 := jzj32 (by omega)
              show jGo E l 95 229 229 _ 50 [.inr (.inr (.inl 176)), .inl a1, .inl x2, .inl x3, .inl (jw32 (x4 + 1))] [] 229 jr0 g24
              have e27 : g24 176 0 = g 176 0 := jup_o eg24 (by first | exact fun q => absurd q.1 (by decide) | exact fun q => absurd q.2 (by decide) | omega)
              have hc28 : (jw32 (x4 + 1) = 0 ∧ g24 = (jmPs (jit jmDy x3.toNat h))) ∨ (((jmPs (jit jmDy x3.toNat h)) 176 0).tmod 360 = 0 ∧ g24 = jit jmTr (jw32 (x4 + 1)).toNat (jmPs (jit jmDy x3.toNat h))) := by
                generalize (jmPs (jit jmDy x3.toNat h)) = G at hx1 hx2 ⊢
                have y7 : g = jit jmTr x4.toNat G := by
                  rcases hx1 with q | q
                  · rw [q.1]; exact q.2
                  · exact q.2
                refine Or.inr ⟨?_, ?_⟩
                · rw [← hx2.1]; subst eg24 ev21 ev19 ev13 ev8; assumption
                · rw [show jw32 (x4 + 1) = x4 + 1 by omega, jit_s (by omega), ← y7]; subst eg24 ev21 ev19 ev13 ev8; unfold jmTr; (repeat (first | rw [if_pos (by omega)] | rw [if_neg (by omega)])); all_goals ((try rw [e26]); (try rfl))
              have e29 : g24 176 0 = g 176 0 := jup_o eg24 (by first | exact fun q => absurd q.1 (by decide) | exact fun q => absurd q.2 (by decide) | omega)
              have e30 : g24 176 34 = g 176 34 := jup_o eg24 (by first | exact fun q => absurd q.1 (by decide) | exact fun q => absurd q.2 (by decide) | omega)
              have e31 : g24 176 34 = g 176 34 := jup_o eg24 (by first | exact fun q => absurd q.1 (by decide) | exact fun q => absurd q.2 (by decide) | omega)
              have hc32 : jG9 h → jG8 (jw32 (x4 + 1)) g24 := by
                intro q9
                have w9 := hx4 q9
                have w8 := w9 x4 (by omega) (by omega)
                have w7 := w8.2.2 (by omega)
                have w6 : jw32 (v19 + 0) = v19 + 0 := jzj32 (by omega)
                rw [show jw32 (x4 + 1) = x4 + 1 by omega]
                exact jG8_s (by omega) eg24 (by omega) (by rw [show g 176 0 = v13 by omega]; exact c16) (by omega) w9
              exact ih.2 x2 x3 (jw32 (x4 + 1)) g24 (by omega) (by omega) (by exact hc28) (by omega) (by omega) (by exact hc32) fg24 (by omega)
            · replace c23 : v21 < 0 := by first | exact c23 | exact Int.not_le.mp c23 | exact Int.not_lt.mp c23 | exact Decidable.not_not.mp c23
              refine st_gr jo_176 jr_176_33 ?_
              refine st_gr jo_176 jr_176_35 ?_
              refine st_ai jo_205 (show 0 ≤ x4 by omega) (show x4 < ((40 : Nat) : Int) by omega) (fun v33 ev33 b34 => ?_)
              replace ev33 : v33 = g 205 x4 := ev33
              replace b34 := (jba_205 x4 _).1 b34
              refine st_ai jo_204 (show 0 ≤ v33 by omega) (show v33 < ((3 : Nat) : Int) by omega) (fun v35 ev35 b36 => ?_)
              replace ev35 : v35 = g 204 v33 := ev35
              replace b36 := (jba_204 v33 _).1 b36
              show jGo E l 95 229 229 _ 104 [.inr (.inr (.inl 176)), .inl a1, .inl x2, .inl x3, .inl x4] [.inl v35, .inl v19, .inl x4, .inr (.inr (.inl 207))] 229 jr0 g
              refine jGo_blk qX12_days_104 ?_
              refine st_si jo_207 (show 0 ≤ x4 by omega) (show x4 < ((40 : Nat) : Int) by omega) (fun hx => (jba_207 _ _).2 hx) (fun g37 eg37 => ?_)
              replace eg37 : g37 = jup g 207 x4 (jw32 (v19 + v35)) := eg37
              have fg37 : jfr w_X12_days h g37 := jfr_up hf eg37 (by unfold w_X12_days; omega)
              have e38 : g37 207 x4 = jw32 (v19 + v35) := jup_s eg37
              have e39 : jw32 (x4 + 1) = x4 + 1 := jzj32 (by omega)
              show jGo E l 95 229 229 _ 50 [.inr (.inr (.inl 176)), .inl a1, .inl x2, .inl x3, .inl (jw32 (x4 + 1))] [] 229 jr0 g37
              have e40 : g37 176 0 = g 176 0 := jup_o eg37 (by first | exact fun q => absurd q.1 (by decide) | exact fun q => absurd q.2 (by decide) | omega)
              have hc41 : (jw32 (x4 + 1) = 0 ∧ g37 = (jmPs (jit jmDy x3.toNat h))) ∨ (((jmPs (jit jmDy x3.toNat h)) 176 0).tmod 360 = 0 ∧ g37 = jit jmTr (jw32 (x4 + 1)).toNat (jmPs (jit jmDy x3.toNat h))) := by
                generalize (jmPs (jit jmDy x3.toNat h)) = G at hx1 hx2 ⊢
                have y7 : g = jit jmTr x4.toNat G := by
                  rcases hx1 with q | q
                  · rw [q.1]; exact q.2
                  · exact q.2
                refine Or.inr ⟨?_, ?_⟩
                · rw [← hx2.1]; subst eg37 ev35 ev33 ev21 ev19 ev13 ev8; assumption
                · rw [show jw32 (x4 + 1) = x4 + 1 by omega, jit_s (by omega), ← y7]; subst eg37 ev35 ev33 ev21 ev19 ev13 ev8; unfold jmTr; (repeat (first | rw [if_pos (by omega)] | rw [if_neg (by omega)])); all_goals ((try rw [e39]); (try rfl))
              have e42 : g37 176 0 = g 176 0 := jup_o eg37 (by first | exact fun q => absurd q.1 (by decide) | exact fun q => absurd q.2 (by decide) | omega)
              have e43 : g37 176 34 = g 176 34 := jup_o eg37 (by first | exact fun q => absurd q.1 (by decide) | exact fun q => absurd q.2 (by decide) | omega)
              have e44 : g37 176 34 = g 176 34 := jup_o eg37 (by first | exact fun q => absurd q.1 (by decide) | exact fun q => absurd q.2 (by decide) | omega)
              have hc45 : jG9 h → jG8 (jw32 (x4 + 1)) g37 := by
                intro q9
                have w9 := hx4 q9
                have w8 := w9 x4 (by omega) (by omega)
                have w7 := w8.2.2 (by omega)
                have w6 : jw32 (v19 + v35) = v19 + v35 := jzj32 (by omega)
                rw [show jw32 (x4 + 1) = x4 + 1 by omega]
                exact jG8_s (by omega) eg37 (by omega) (by rw [show g 176 0 = v13 by omega]; exact c16) (by omega) w9
              exact ih.2 x2 x3 (jw32 (x4 + 1)) g37 (by omega) (by omega) (by exact hc41) (by omega) (by omega) (by exact hc45) fg37 (by omega)
  refine jGo_blk qX12_days_0 ?_
  refine And.intro (fun c46 => ?_) (fun c46 => ?_)
  · replace c46 : 1 ≤ a1 := c46
    show jGo E l 95 229 229 _ 12 [.inr (.inr (.inl 176)), .inl a1, .inr (.inr (.inr ())), .inr (.inr (.inr ())), .inr (.inr (.inr ()))] [] 229 jr0 h
    refine jGo_blk qX12_days_12 ?_
    refine st_gi jo_176 (fun v47 ev47 b48 => ?_)
    replace ev47 : v47 = h 176 0 := ev47
    replace b48 := (jbf_12_0 jo_176 _).1 b48
    have e49 : jw32 (2000 - v47) = 2000 - v47 := jzj32 (by omega)
    refine And.intro (fun c50 => ?_) (fun c50 => ?_)
    · replace c50 : a1 ≤ jw32 (2000 - v47) := c50
      show jGo E l 95 229 229 _ 31 [.inr (.inr (.inl 176)), .inl a1, .inr (.inr (.inr ())), .inr (.inr (.inr ())), .inr (.inr (.inr ()))] [] 229 jr0 h
      refine jGo_blk qX12_days_31 ?_
      show jGo E l 95 229 229 _ 35 [.inr (.inr (.inl 176)), .inl a1, .inl 0, .inl 0, .inr (.inr (.inr ()))] [] 229 jr0 h
      exact (key 1000000000000000000).1 0 0 (.inr (.inr (.inr ()))) h (by omega) (by omega) (by rfl) (by exact fun q9 => q9) f0 (by omega)
    · replace c50 : jw32 (2000 - v47) < a1 := by first | exact c50 | exact Int.not_le.mp c50 | exact Int.not_lt.mp c50 | exact Decidable.not_not.mp c50
      refine st_cv (na := 1) (st := [.inl (-6), .inr (.inr (.inl 176))]) jo_176 rfl rfl rfl (c_X12_refuse (-6) h (by omega)) rfl ?_
      rintro _ _ g52 ⟨rfl, ft51, t51, rfl, ht51, zt51⟩ kt51
      replace kt51 : -2147483648 ≤ t51 ∧ t51 ≤ 2147483647 := kt51
      replace ht51 : -7 ≤ t51 ∧ t51 ≤ -1 := ht51
      have fg52 : jfr w_X12_days h g52 := jfr_tr f0 ft51 ws_X12_refuse__X12_days
      replace zt51 : t51 = (-6 : Int) := zt51
      have e53 : g52 176 0 = h 176 0 := ft51 176 0 (by unfold w_X12_refuse; omega)
      have hs54 : ∀ i k : Int, ¬ i = 219 → g52 i k = h i k := fun i k p1 => (ft51 i k (by first | exact p1 | (unfold w_X12_refuse; omega)))
      exact st_r0 (ls := []) ⟨rfl, rfl, fg52, t51, rfl, trivial, (by refine ⟨by refine ⟨by unfold P_X12_days; omega, Or.inl ⟨by omega, hs54⟩⟩, ?_⟩; exact fun q9 => jG9_fr (fun t => (ft51 207 t (by unfold w_X12_refuse; omega))) (ft51 176 0 (by unfold w_X12_refuse; omega)) q9)⟩
  · replace c46 : a1 < 1 := by first | exact c46 | exact Int.not_le.mp c46 | exact Int.not_lt.mp c46 | exact Decidable.not_not.mp c46
    refine st_cv (na := 1) (st := [.inl (-4), .inr (.inr (.inl 176))]) jo_176 rfl rfl rfl (c_X12_refuse (-4) h (by omega)) rfl ?_
    rintro _ _ g56 ⟨rfl, ft55, t55, rfl, ht55, zt55⟩ kt55
    replace kt55 : -2147483648 ≤ t55 ∧ t55 ≤ 2147483647 := kt55
    replace ht55 : -7 ≤ t55 ∧ t55 ≤ -1 := ht55
    have fg56 : jfr w_X12_days h g56 := jfr_tr f0 ft55 ws_X12_refuse__X12_days
    replace zt55 : t55 = (-4 : Int) := zt55
    have e57 : g56 176 0 = h 176 0 := ft55 176 0 (by unfold w_X12_refuse; omega)
    have hs58 : ∀ i k : Int, ¬ i = 219 → g56 i k = h i k := fun i k p1 => (ft55 i k (by first | exact p1 | (unfold w_X12_refuse; omega)))
    exact st_r0 (ls := []) ⟨rfl, rfl, fg56, t55, rfl, trivial, (by refine ⟨by refine ⟨by unfold P_X12_days; omega, Or.inl ⟨by omega, hs58⟩⟩, ?_⟩; exact fun q9 => jG9_fr (fun t => (ft55 207 t (by unfold w_X12_refuse; omega))) (ft55 176 0 (by unfold w_X12_refuse; omega)) q9)⟩
