def w_X12_count (i k : Int) : Prop := (i = 181) ∨ (215 ≤ i ∧ i ≤ 219) ∨ (i = 176 ∧ k = 45)
theorem ws_X12_refuseFar__X12_count (i k : Int) (q : w_X12_refuseFar i k) : w_X12_count i k := by
  unfold w_X12_refuseFar at q; unfold w_X12_count
  exact (Or.inr (Or.inl (by omega)))
def k_X12_count (a1 : Int) (a2 : Int) (h : JH) (v : Option JV) (r' g : JH) : Prop := r' = jr0 ∧ jfr w_X12_count h g ∧ ∃ x : Int, v = some (.inl x) ∧ (True) ∧ (P_X12_count a1 a2 x h g)
set_option maxHeartbeats 4000000 in
theorem c_X12_count {E : JE} {l : Launch} (a1 : Int) (a2 : Int) (h : JH) (q0 : h 176 0 ≤ 2000) : jMt E l 130 [.inr (.inr (.inl 176)), .inl a1, .inl a2] 229 jr0 h (k_X12_count a1 a2 h) := by
  refine jMt0 (nL := 5) (ls := [.inr (.inr (.inl 176)), .inl a1, .inl a2, .inr (.inr (.inr ())), .inr (.inr (.inr ()))]) (by decide +kernel) (by decide +kernel) (by decide +kernel) rfl rfl ?_
  have f0 : jfr w_X12_count h h := jfr_rf _ _
  refine jGo_bd (fun hbd => ?_)
  have hb0 := (jbf_12_45 jo_176 _).1 (hbd 176 45)
  have key : ∀ N : Nat, (∀ (x3 : Int) (x4 : Int) (g : JH), (0 ≤ a1 ∧ a1 ≤ 5 ∧ 0 ≤ a2 ∧ a2 ≤ 1000000 ∧ 0 ≤ x3 ∧ x3 ≤ 2000 ∧ 0 ≤ x4 ∧ x4 ≤ 39) → (g 176 45 ≤ 39) → (g 176 0 ≤ 2000) → (x3 = jLb (h 215) (h 216) a1 (x4).toNat) → (g = h) → (0 ≤ x4 ∧ x4 ≤ g 176 45 ∧ 0 ≤ a1 ∧ a1 < 6 ∧ 0 ≤ a2 ∧ a2 ≤ 1000000) → jfr w_X12_count h g → (39 - x4) < (N : Int) → jGo E l 130 229 229 (jRK (k_X12_count a1 a2 h)) 53 [.inr (.inr (.inl 176)), .inl a1, .inl a2, .inl x3, .inl x4] [] 229 jr0 g) := by
    intro N
    induction N with
    | zero => exact fun _ _ _ hi hx0 hx1 hx2 hx3 hx4 _ hN => absurd hN (by omega)
    | succ N ih =>
      intro x3 x4 g hi hx0 hx1 hx2 hx3 hx4 hf hN
      refine jGo_blk qX12_count_53 ?_
      refine st_gi jo_176 (fun v1 ev1 b2 => ?_)
      replace ev1 : v1 = g 176 45 := ev1
      replace b2 := (jbf_12_45 jo_176 _).1 b2
      refine And.intro (fun c3 => ?_) (fun c3 => ?_)
      · replace c3 : v1 ≤ x4 := c3
        show jGo E l 130 229 229 _ 91 [.inr (.inr (.inl 176)), .inl a1, .inl a2, .inl x3, .inl x4] [] 229 jr0 g
        refine jGo_blk qX12_count_91 ?_
        refine st_gr jo_176 jr_176_46 ?_
        refine st_gi jo_176 (fun v4 ev4 b5 => ?_)
        replace ev4 : v4 = g 176 45 := ev4
        replace b5 := (jbf_12_45 jo_176 _).1 b5
        refine st_si jo_215 (show 0 ≤ v4 by omega) (show v4 < ((40 : Nat) : Int) by omega) (fun hx => (jba_215 _ _).2 (show 0 ≤ a1 ∧ a1 ≤ 5 by omega)) (fun g6 eg6 => ?_)
        replace eg6 : g6 = jup g 215 v4 a1 := eg6
        have fg6 : jfr w_X12_count h g6 := jfr_up hf eg6 (by unfold w_X12_count; omega)
        have e7 : g6 215 v4 = a1 := jup_s eg6
        refine st_gr jo_176 jr_176_47 ?_
        refine st_gi jo_176 (fun v8 ev8 b9 => ?_)
        replace ev8 : v8 = g6 176 45 := ev8
        replace b9 := (jbf_12_45 jo_176 _).1 b9
        have e10 : g6 176 45 = g 176 45 := jup_o eg6 (by first | exact fun q => absurd q.1 (by decide) | exact fun q => absurd q.2 (by decide) | omega)
        refine st_gi jo_176 (fun v11 ev11 b12 => ?_)
        replace ev11 : v11 = g6 176 0 := ev11
        replace b12 := (jbf_12_0 jo_176 _).1 b12
        have e13 : g6 176 0 = g 176 0 := jup_o eg6 (by first | exact fun q => absurd q.1 (by decide) | exact fun q => absurd q.2 (by decide) | omega)
        refine st_si jo_216 (show 0 ≤ v8 by omega) (show v8 < ((40 : Nat) : Int) by omega) (fun hx => (jba_216 _ _).2 (show 0 ≤ v11 ∧ v11 ≤ 2000 by omega)) (fun g14 eg14 => ?_)
        replace eg14 : g14 = jup g6 216 v8 v11 := eg14
        have fg14 : jfr w_X12_count h g14 := jfr_up fg6 eg14 (by unfold w_X12_count; omega)
        have e15 : g14 216 v8 = v11 := jup_s eg14
        refine st_gr jo_176 jr_176_48 ?_
        refine st_gi jo_176 (fun v16 ev16 b17 => ?_)
        replace ev16 : v16 = g14 176 45 := ev16
        replace b17 := (jbf_12_45 jo_176 _).1 b17
        have e18 : g14 176 45 = g6 176 45 := jup_o eg14 (by first | exact fun q => absurd q.1 (by decide) | exact fun q => absurd q.2 (by decide) | omega)
        refine st_gr jo_176 jr_176_5 ?_
        refine st_ai jo_181 (show 0 ≤ a1 by omega) (show a1 < ((6 : Nat) : Int) by omega) (fun v19 ev19 b20 => ?_)
        replace ev19 : v19 = g14 181 a1 := ev19
        replace b20 := (jba_181 a1 _).1 b20
        have e21 : g14 181 a1 = g6 181 a1 := jup_o eg14 (by first | exact fun q => absurd q.1 (by decide) | exact fun q => absurd q.2 (by decide) | omega)
        have e22 : g6 181 a1 = g 181 a1 := jup_o eg6 (by first | exact fun q => absurd q.1 (by decide) | exact fun q => absurd q.2 (by decide) | omega)
        refine st_si jo_217 (show 0 ≤ v16 by omega) (show v16 < ((40 : Nat) : Int) by omega) (fun hx => (jba_217 _ _).2 hx) (fun g23 eg23 => ?_)
        replace eg23 : g23 = jup g14 217 v16 (jw32 (v19 - a2)) := eg23
        have fg23 : jfr w_X12_count h g23 := jfr_up fg14 eg23 (by unfold w_X12_count; omega)
        have e24 : g23 217 v16 = jw32 (v19 - a2) := jup_s eg23
        refine st_gr jo_176 jr_176_49 ?_
        refine st_gi jo_176 (fun v25 ev25 b26 => ?_)
        replace ev25 : v25 = g23 176 45 := ev25
        replace b26 := (jbf_12_45 jo_176 _).1 b26
        have e27 : g23 176 45 = g14 176 45 := jup_o eg23 (by first | exact fun q => absurd q.1 (by decide) | exact fun q => absurd q.2 (by decide) | omega)
        refine st_si jo_218 (show 0 ≤ v25 by omega) (show v25 < ((40 : Nat) : Int) by omega) (fun hx => (jba_218 _ _).2 (show 0 ≤ x3 ∧ x3 ≤ 2000 by omega)) (fun g28 eg28 => ?_)
        replace eg28 : g28 = jup g23 218 v25 x3 := eg28
        have fg28 : jfr w_X12_count h g28 := jfr_up fg23 eg28 (by unfold w_X12_count; omega)
        have e29 : g28 218 v25 = x3 := jup_s eg28
        refine st_gi jo_176 (fun v30 ev30 b31 => ?_)
        replace ev30 : v30 = g28 176 45 := ev30
        replace b31 := (jbf_12_45 jo_176 _).1 b31
        have e32 : g28 176 45 = g23 176 45 := jup_o eg28 (by first | exact fun q => absurd q.1 (by decide) | exact fun q => absurd q.2 (by decide) | omega)
        have e33 : jw32 (v30 + 1) = v30 + 1 := jzj32 (by omega)
        refine st_pi jo_176 (fun hx => (jbf_12_45 jo_176 _).2 (show 0 ≤ jw32 (v30 + 1) ∧ jw32 (v30 + 1) ≤ 40 by omega)) (fun g34 eg34 => ?_)
        replace eg34 : g34 = jup g28 176 45 (jw32 (v30 + 1)) := eg34
        have fg34 : jfr w_X12_count h g34 := jfr_up fg28 eg34 (by unfold w_X12_count; omega)
        have e35 : g34 176 45 = jw32 (v30 + 1) := jup_s eg34
        refine st_gr jo_176 jr_176_5 ?_
        refine st_si jo_181 (show 0 ≤ a1 by omega) (show a1 < ((6 : Nat) : Int) by omega) (fun hx => (jba_181 _ _).2 hx) (fun g36 eg36 => ?_)
        replace eg36 : g36 = jup g34 181 a1 a2 := eg36
        have fg36 : jfr w_X12_count h g36 := jfr_up fg34 eg36 (by unfold w_X12_count; omega)
        have e37 : g36 181 a1 = a2 := jup_s eg36
        refine st_gr jo_176 jr_176_48 ?_
        refine st_gi jo_176 (fun v38 ev38 b39 => ?_)
        replace ev38 : v38 = g36 176 45 := ev38
        replace b39 := (jbf_12_45 jo_176 _).1 b39
        have e40 : g36 176 45 = g34 176 45 := jup_o eg36 (by first | exact fun q => absurd q.1 (by decide) | exact fun q => absurd q.2 (by decide) | omega)
        have e41 : jw32 (v38 - 1) = v38 - 1 := jzj32 (by omega)
        refine st_ai jo_217 (show 0 ≤ jw32 (v38 - 1) by omega) (show jw32 (v38 - 1) < ((40 : Nat) : Int) by omega) (fun v42 ev42 b43 => ?_)
        replace ev42 : v42 = g36 217 (jw32 (v38 - 1)) := ev42
        replace b43 := (jba_217 (jw32 (v38 - 1)) _).1 b43
        have e44 : g36 217 (jw32 (v38 - 1)) = g34 217 (jw32 (v38 - 1)) := jup_o eg36 (by first | exact fun q => absurd q.1 (by decide) | exact fun q => absurd q.2 (by decide) | omega)
        have e45 : g34 217 (jw32 (v38 - 1)) = g28 217 (jw32 (v38 - 1)) := jup_o eg34 (by first | exact fun q => absurd q.1 (by decide) | exact fun q => absurd q.2 (by decide) | omega)
        have e46 : g28 217 (jw32 (v38 - 1)) = g23 217 (jw32 (v38 - 1)) := jup_o eg28 (by first | exact fun q => absurd q.1 (by decide) | exact fun q => absurd q.2 (by decide) | omega)
        have y9 : g = h := hx3
        have y49 : g 176 45 = h 176 45 := by rw [y9]
        have y50 : g 176 0 = h 176 0 := by rw [y9]
        have y51 : g 181 a1 = h 181 a1 := by rw [y9]
        have yl : x3 = jLb (h 215) (h 216) a1 (h 176 45).toNat := by rw [← show x4 = h 176 45 by omega]; exact hx2
        have hq47 : ∀ i k : Int, ¬ i = 219 → g36 i k = (jup (jup (jup (jup (jup (jup h 215 (h 176 45) a1) 216 (h 176 45) (h 176 0)) 217 (h 176 45) (jw32 (h 181 a1 - a2))) 218 (h 176 45) (jLb (h 215) (h 216) a1 (h 176 45).toNat)) 176 45 (h 176 45 + 1)) 181 a1 a2) i k := fun i k _ => ((congrFun (congrFun eg36 i) k).trans (jup_cc rfl (by first | rfl | omega) (by first | rfl | exact yl | omega | exact congrArg jw32 (by omega)) ((congrFun (congrFun eg34 i) k).trans (jup_cc rfl (by first | rfl | omega) (by first | rfl | exact yl | omega | exact congrArg jw32 (by omega)) ((congrFun (congrFun eg28 i) k).trans (jup_cc rfl (by first | rfl | omega) (by first | rfl | exact yl | omega | exact congrArg jw32 (by omega)) ((congrFun (congrFun eg23 i) k).trans (jup_cc rfl (by first | rfl | omega) (by first | rfl | exact yl | omega | exact congrArg jw32 (by omega)) ((congrFun (congrFun eg14 i) k).trans (jup_cc rfl (by first | rfl | omega) (by first | rfl | exact yl | omega | exact congrArg jw32 (by omega)) ((congrFun (congrFun eg6 i) k).trans (jup_cc rfl (by first | rfl | omega) (by first | rfl | exact yl | omega | exact congrArg jw32 (by omega)) (congrFun (congrFun y9 i) k)))))))))))))
        have hq48 : v42 = jw32 (h 181 a1 - a2) := by rw [ev42, show jw32 (v38 - 1) = h 176 45 by omega, hq47 217 (h 176 45) (by decide), jup_ne (by omega), jup_ne (by omega), jup_ne (by omega), jup_eq]
        exact st_r0 (ls := []) ⟨rfl, rfl, fg36, v42, rfl, trivial, (by unfold P_X12_count; exact Or.inr (Or.inr (Or.inr ⟨by omega, hq48, hq47⟩)))⟩
      · replace c3 : x4 < v1 := by first | exact c3 | exact Int.not_le.mp c3 | exact Int.not_lt.mp c3 | exact Decidable.not_not.mp c3
        refine st_gr jo_176 jr_176_46 ?_
        refine st_ai jo_215 (show 0 ≤ x4 by omega) (show x4 < ((40 : Nat) : Int) by omega) (fun v52 ev52 b53 => ?_)
        replace ev52 : v52 = g 215 x4 := ev52
        replace b53 := (jba_215 x4 _).1 b53
        refine And.intro (fun c54 => ?_) (fun c54 => ?_)
        · replace c54 : ¬ v52 = a1 := c54
          show jGo E l 130 229 229 _ 83 [.inr (.inr (.inl 176)), .inl a1, .inl a2, .inl x3, .inl x4] [] 229 jr0 g
          refine jGo_blk qX12_count_83 ?_
          show jGo E l 130 229 229 _ 84 [.inr (.inr (.inl 176)), .inl a1, .inl a2, .inl x3, .inl x4] [.inl x3] 229 jr0 g
          refine jGo_blk qX12_count_84 ?_
          have e55 : jw32 (x4 + 1) = x4 + 1 := jzj32 (by omega)
          show jGo E l 130 229 229 _ 53 [.inr (.inr (.inl 176)), .inl a1, .inl a2, .inl x3, .inl (jw32 (x4 + 1))] [] 229 jr0 g
          exact ih x3 (jw32 (x4 + 1)) g (by omega) (by omega) (by omega) (by have y9 : g = h := hx3; have y8 : g 215 x4 = h 215 x4 := (by rw [y9]); have y7 : g 216 x4 = h 216 x4 := (by rw [y9]); rw [show jw32 (x4 + 1) = x4 + 1 by omega, jLb_s (by omega), ← hx2]; exact (if_neg (by omega)).symm) (by exact hx3) (by omega) hf (by omega)
        · replace c54 : v52 = a1 := by first | exact c54 | exact Int.not_le.mp c54 | exact Int.not_lt.mp c54 | exact Decidable.not_not.mp c54
          refine st_gr jo_176 jr_176_47 ?_
          refine st_ai jo_216 (show 0 ≤ x4 by omega) (show x4 < ((40 : Nat) : Int) by omega) (fun v56 ev56 b57 => ?_)
          replace ev56 : v56 = g 216 x4 := ev56
          replace b57 := (jba_216 x4 _).1 b57
          show jGo E l 130 229 229 _ 84 [.inr (.inr (.inl 176)), .inl a1, .inl a2, .inl x3, .inl x4] [.inl v56] 229 jr0 g
          refine jGo_blk qX12_count_84 ?_
          have e58 : jw32 (x4 + 1) = x4 + 1 := jzj32 (by omega)
          show jGo E l 130 229 229 _ 53 [.inr (.inr (.inl 176)), .inl a1, .inl a2, .inl v56, .inl (jw32 (x4 + 1))] [] 229 jr0 g
          exact ih v56 (jw32 (x4 + 1)) g (by omega) (by omega) (by omega) (by have y9 : g = h := hx3; have y8 : g 215 x4 = h 215 x4 := (by rw [y9]); have y7 : g 216 x4 = h 216 x4 := (by rw [y9]); rw [show jw32 (x4 + 1) = x4 + 1 by omega, jLb_s (by omega), ← hx2]; rw [if_pos (by omega)]; omega) (by exact hx3) (by omega) hf (by omega)
  refine jGo_blk qX12_count_0 ?_
  refine st_cs (na := 3) (st := [.inl 5, .inl 0, .inl a1]) rfl rfl rfl (c_X12_in a1 0 5 h) rfl ?_
  rintro _ _ _ ⟨rfl, rfl, t59, rfl, ht59, zt59⟩ kt59
  replace kt59 : -2147483648 ≤ t59 ∧ t59 ≤ 2147483647 := kt59
  replace ht59 : 0 ≤ t59 ∧ t59 ≤ 1 := ht59
  replace zt59 : (t59 = 1 ∧ (0 : Int) ≤ a1 ∧ a1 ≤ (5 : Int)) ∨ (t59 = 0 ∧ ¬ ((0 : Int) ≤ a1 ∧ a1 ≤ (5 : Int))) := zt59
  refine And.intro (fun c61 => ?_) (fun c61 => ?_)
  · replace c61 : ¬ t59 = 0 := c61
    show jGo E l 130 229 229 _ 15 [.inr (.inr (.inl 176)), .inl a1, .inl a2, .inr (.inr (.inr ())), .inr (.inr (.inr ()))] [] 229 jr0 h
    refine jGo_blk qX12_count_15 ?_
    refine And.intro (fun c62 => ?_) (fun c62 => ?_)
    · replace c62 : 0 ≤ a2 := c62
      show jGo E l 130 229 229 _ 26 [.inr (.inr (.inl 176)), .inl a1, .inl a2, .inr (.inr (.inr ())), .inr (.inr (.inr ()))] [] 229 jr0 h
      refine jGo_blk qX12_count_26 ?_
      refine And.intro (fun c63 => ?_) (fun c63 => ?_)
      · replace c63 : 1000000 < a2 := c63
        show jGo E l 130 229 229 _ 41 [.inr (.inr (.inl 176)), .inl a1, .inl a2, .inr (.inr (.inr ())), .inr (.inr (.inr ()))] [] 229 jr0 h
        refine jGo_blk qX12_count_41 ?_
        refine st_cv (na := 1) (st := [.inl (-6), .inr (.inr (.inl 176))]) jo_176 rfl rfl rfl (c_X12_refuseFar (-6) h (by omega)) rfl ?_
        rintro _ _ g65 ⟨rfl, ft64, t64, rfl, ht64, zt64⟩ kt64
        replace kt64 : -2147483648 ≤ t64 ∧ t64 ≤ 2147483647 := kt64
        replace ht64 : 2000000001 ≤ t64 ∧ t64 ≤ 2000000007 := ht64
        have fg65 : jfr w_X12_count h g65 := jfr_tr f0 ft64 ws_X12_refuseFar__X12_count
        replace zt64 : t64 = 2000000000 - (-6 : Int) := zt64
        have hs66 : ∀ i k : Int, ¬ i = 219 → g65 i k = h i k := fun i k p1 => (ft64 i k (by first | exact p1 | (unfold w_X12_refuseFar; omega)))
        exact st_r0 (ls := []) ⟨rfl, rfl, fg65, t64, rfl, trivial, (by unfold P_X12_count; by_cases zz : t64 = 2000000004 <;> first | exact Or.inl ⟨by omega, hs66⟩ | exact Or.inr (Or.inl ⟨by omega, hs66⟩) | exact Or.inr (Or.inr (Or.inl ⟨by omega, hs66⟩)))⟩
      · replace c63 : a2 ≤ 1000000 := by first | exact c63 | exact Int.not_le.mp c63 | exact Int.not_lt.mp c63 | exact Decidable.not_not.mp c63
        refine st_gi jo_176 (fun v67 ev67 b68 => ?_)
        replace ev67 : v67 = h 176 45 := ev67
        replace b68 := (jbf_12_45 jo_176 _).1 b68
        refine And.intro (fun c69 => ?_) (fun c69 => ?_)
        · replace c69 : ¬ v67 = 40 := c69
          show jGo E l 130 229 229 _ 48 [.inr (.inr (.inl 176)), .inl a1, .inl a2, .inr (.inr (.inr ())), .inr (.inr (.inr ()))] [] 229 jr0 h
          refine jGo_blk qX12_count_48 ?_
          show jGo E l 130 229 229 _ 53 [.inr (.inr (.inl 176)), .inl a1, .inl a2, .inl 0, .inl 0] [] 229 jr0 h
          exact (key 1000000000000) 0 0 h (by omega) (by omega) (by omega) (by rfl) (by rfl) (by omega) f0 (by omega)
        · replace c69 : v67 = 40 := by first | exact c69 | exact Int.not_le.mp c69 | exact Int.not_lt.mp c69 | exact Decidable.not_not.mp c69
          show jGo E l 130 229 229 _ 41 [.inr (.inr (.inl 176)), .inl a1, .inl a2, .inr (.inr (.inr ())), .inr (.inr (.inr ()))] [] 229 jr0 h
          refine jGo_blk qX12_count_41 ?_
          refine st_cv (na := 1) (st := [.inl (-6), .inr (.inr (.inl 176))]) jo_176 rfl rfl rfl (c_X12_refuseFar (-6) h (by omega)) rfl ?_
          rintro _ _ g71 ⟨rfl, ft70, t70, rfl, ht70, zt70⟩ kt70
          replace kt70 : -2147483648 ≤ t70 ∧ t70 ≤ 2147483647 := kt70
          replace ht70 : 2000000001 ≤ t70 ∧ t70 ≤ 2000000007 := ht70
          have fg71 : jfr w_X12_count h g71 := jfr_tr f0 ft70 ws_X12_refuseFar__X12_count
          replace zt70 : t70 = 2000000000 - (-6 : Int) := zt70
          have hs72 : ∀ i k : Int, ¬ i = 219 → g71 i k = h i k := fun i k p1 => (ft70 i k (by first | exact p1 | (unfold w_X12_refuseFar; omega)))
          exact st_r0 (ls := []) ⟨rfl, rfl, fg71, t70, rfl, trivial, (by unfold P_X12_count; by_cases zz : t70 = 2000000004 <;> first | exact Or.inl ⟨by omega, hs72⟩ | exact Or.inr (Or.inl ⟨by omega, hs72⟩) | exact Or.inr (Or.inr (Or.inl ⟨by omega, hs72⟩)))⟩
    · replace c62 : a2 < 0 := by first | exact c62 | exact Int.not_le.mp c62 | exact Int.not_lt.mp c62 | exact Decidable.not_not.mp c62
      refine st_cv (na := 1) (st := [.inl (-4), .inr (.inr (.inl 176))]) jo_176 rfl rfl rfl (c_X12_refuseFar (-4) h (by omega)) rfl ?_
      rintro _ _ g74 ⟨rfl, ft73, t73, rfl, ht73, zt73⟩ kt73
      replace kt73 : -2147483648 ≤ t73 ∧ t73 ≤ 2147483647 := kt73
      replace ht73 : 2000000001 ≤ t73 ∧ t73 ≤ 2000000007 := ht73
      have fg74 : jfr w_X12_count h g74 := jfr_tr f0 ft73 ws_X12_refuseFar__X12_count
      replace zt73 : t73 = 2000000000 - (-4 : Int) := zt73
      have hs75 : ∀ i k : Int, ¬ i = 219 → g74 i k = h i k := fun i k p1 => (ft73 i k (by first | exact p1 | (unfold w_X12_refuseFar; omega)))
      exact st_r0 (ls := []) ⟨rfl, rfl, fg74, t73, rfl, trivial, (by unfold P_X12_count; by_cases zz : t73 = 2000000004 <;> first | exact Or.inl ⟨by omega, hs75⟩ | exact Or.inr (Or.inl ⟨by omega, hs75⟩) | exact Or.inr (Or.inr (Or.inl ⟨by omega, hs75⟩)))⟩
  · replace c61 : t59 = 0 := by first | exact c61 | exact Int.not_le.mp c61 | exact Int.not_lt.mp c61 | exact Decidable.not_not.mp c61
    refine st_cv (na := 1) (st := [.inl (-1), .inr (.inr (.inl 176))]) jo_176 rfl rfl rfl (c_X12_refuseFar (-1) h (by omega)) rfl ?_
    rintro _ _ g77 ⟨rfl, ft76, t76, rfl, ht76, zt76⟩ kt76
    replace kt76 : -2147483648 ≤ t76 ∧ t76 ≤ 2147483647 := kt76
    replace ht76 : 2000000001 ≤ t76 ∧ t76 ≤ 2000000007 := ht76
    have fg77 : jfr w_X12_count h g77 := jfr_tr f0 ft76 ws_X12_refuseFar__X12_count
    replace zt76 : t76 = 2000000000 - (-1 : Int) := zt76
    have hs78 : ∀ i k : Int, ¬ i = 219 → g77 i k = h i k := fun i k p1 => (ft76 i k (by first | exact p1 | (unfold w_X12_refuseFar; omega)))
    exact st_r0 (ls := []) ⟨rfl, rfl, fg77, t76, rfl, trivial, (by unfold P_X12_count; by_cases zz : t76 = 2000000004 <;> first | exact Or.inl ⟨by omega, hs78⟩ | exact Or.inr (Or.inl ⟨by omega, hs78⟩) | exact Or.inr (Or.inr (Or.inl ⟨by omega, hs78⟩)))⟩

def w_X11_gap (i k : Int) : Prop := (i = 1)
theorem ws_X11_refusedAside__X11_gap (i k : Int) (q : w_X11_refusedAside i k) : w_X11_gap i k := by
  unfold w_X11_refusedAside at q; unfold w_X11_gap
  exact (by omega)
def k_X11_gap (a1 : Int) (a2 : Int) (h : JH) (v : Option JV) (r' g : JH) : Prop := r' = jr0 ∧ jfr w_X11_gap h g ∧ ∃ x : Int, v = some (.inl x) ∧ (True) ∧ (P_X11_gap a1 a2 x h)
set_option maxHeartbeats 4000000 in
theorem c_X11_gap {E : JE} {l : Launch} (a1 : Int) (a2 : Int) (h : JH) : jMt E l 131 [.inr (.inr (.inl 0)), .inl a1, .inl a2] 229 jr0 h (k_X11_gap a1 a2 h) := by
  refine jMt0 (nL := 3) (ls := [.inr (.inr (.inl 0)), .inl a1, .inl a2]) (by decide +kernel) (by decide +kernel) (by decide +kernel) rfl rfl ?_
  have f0 : jfr w_X11_gap h h := jfr_rf _ _
  refine jGo_blk qX11_gap_0 ?_
  refine st_gr jo_0 jr_0_9 ?_
  refine st_gi jo_101 (fun v1 ev1 b2 => ?_)
  replace ev1 : v1 = h 101 0 := ev1
  replace b2 := (jbf_5_0 jo_101 _).1 b2
  refine st_cs (na := 2) (st := [.inl v1, .inl a1]) rfl rfl rfl (c_X11_within a1 v1 h) rfl ?_
  rintro _ _ _ ⟨rfl, rfl, t3, rfl, ht3, zt3⟩ kt3
  replace kt3 : -2147483648 ≤ t3 ∧ t3 ≤ 2147483647 := kt3
  replace ht3 : 0 ≤ t3 ∧ t3 ≤ 1 := ht3
  replace zt3 : (t3 = 1 ∧ 0 ≤ a1 ∧ a1 < v1) ∨ (t3 = 0 ∧ ¬ (0 ≤ a1 ∧ a1 < v1)) := zt3
  refine And.intro (fun c5 => ?_) (fun c5 => ?_)
  · replace c5 : ¬ t3 = 0 := c5
    show jGo E l 131 229 229 _ 20 [.inr (.inr (.inl 0)), .inl a1, .inl a2] [] 229 jr0 h
    refine jGo_blk qX11_gap_20 ?_
    refine And.intro (fun c6 => ?_) (And.intro (fun c6 => ?_) (And.intro (fun c6 => ?_) (And.intro (fun c6 => ?_) (And.intro (fun c6 => ?_) (trivial)))))
    · replace c6 : a2 < 0 ∨ 3 < a2 := c6
      show jGo E l 131 229 229 _ 92 [.inr (.inr (.inl 0)), .inl a1, .inl a2] [] 229 jr0 h
      refine jGo_blk qX11_gap_92 ?_
      refine st_cv (na := 1) (st := [.inl (-2), .inr (.inr (.inl 0))]) jo_0 rfl rfl rfl (c_X11_refusedAside (-2) h (by omega)) rfl ?_
      rintro _ _ g8 ⟨rfl, ft7, t7, rfl, ht7, zt7⟩ kt7
      replace kt7 : -2147483648 ≤ t7 ∧ t7 ≤ 2147483647 := kt7
      replace ht7 : 2000000001 ≤ t7 ∧ t7 ≤ 2000000007 := ht7
      have fg8 : jfr w_X11_gap h g8 := jfr_tr f0 ft7 ws_X11_refusedAside__X11_gap
      replace zt7 : t7 = 2000000000 - (-2 : Int) := zt7
      exact st_r0 (ls := []) ⟨rfl, rfl, fg8, t7, rfl, trivial, (by unfold P_X11_gap; first | exact Or.inl (by omega) | (refine Or.inr ⟨by omega, ?_⟩; first | exact Or.inl (by omega) | exact Or.inr (Or.inl (by omega)) | exact Or.inr (Or.inr (Or.inl (by omega))) | exact Or.inr (Or.inr (Or.inr (Or.inl (by omega)))) | exact Or.inr (Or.inr (Or.inr (Or.inr (by omega))))))⟩
    · replace c6 : a2 = 0 := c6
      show jGo E l 131 229 229 _ 52 [.inr (.inr (.inl 0)), .inl a1, .inl a2] [] 229 jr0 h
      refine jGo_blk qX11_gap_52 ?_
      refine st_gr jo_0 jr_0_9 ?_
      refine st_gr jo_101 jr_101_1 ?_
      refine st_ai jo_102 (show 0 ≤ a1 by omega) (show a1 < ((40 : Nat) : Int) by omega) (fun v9 ev9 b10 => ?_)
      replace ev9 : v9 = h 102 a1 := ev9
      replace b10 := (jba_102 a1 _).1 b10
      exact st_r0 (ls := []) ⟨rfl, rfl, f0, v9, rfl, trivial, (by unfold P_X11_gap; first | exact Or.inl (by omega) | (refine Or.inr ⟨by omega, ?_⟩; first | exact Or.inl (by omega) | exact Or.inr (Or.inl (by omega)) | exact Or.inr (Or.inr (Or.inl (by omega))) | exact Or.inr (Or.inr (Or.inr (Or.inl (by omega)))) | exact Or.inr (Or.inr (Or.inr (Or.inr (by omega))))))⟩
    · replace c6 : a2 = 1 := c6
      show jGo E l 131 229 229 _ 62 [.inr (.inr (.inl 0)), .inl a1, .inl a2] [] 229 jr0 h
      refine jGo_blk qX11_gap_62 ?_
      refine st_gr jo_0 jr_0_9 ?_
      refine st_gr jo_101 jr_101_2 ?_
      refine st_ai jo_103 (show 0 ≤ a1 by omega) (show a1 < ((40 : Nat) : Int) by omega) (fun v11 ev11 b12 => ?_)
      replace ev11 : v11 = h 103 a1 := ev11
      replace b12 := (jba_103 a1 _).1 b12
      exact st_r0 (ls := []) ⟨rfl, rfl, f0, v11, rfl, trivial, (by unfold P_X11_gap; first | exact Or.inl (by omega) | (refine Or.inr ⟨by omega, ?_⟩; first | exact Or.inl (by omega) | exact Or.inr (Or.inl (by omega)) | exact Or.inr (Or.inr (Or.inl (by omega))) | exact Or.inr (Or.inr (Or.inr (Or.inl (by omega)))) | exact Or.inr (Or.inr (Or.inr (Or.inr (by omega))))))⟩
    · replace c6 : a2 = 2 := c6
      show jGo E l 131 229 229 _ 72 [.inr (.inr (.inl 0)), .inl a1, .inl a2] [] 229 jr0 h
      refine jGo_blk qX11_gap_72 ?_
      refine st_gr jo_0 jr_0_9 ?_
      refine st_gr jo_101 jr_101_3 ?_
      refine st_ai jo_104 (show 0 ≤ a1 by omega) (show a1 < ((40 : Nat) : Int) by omega) (fun v13 ev13 b14 => ?_)
      replace ev13 : v13 = h 104 a1 := ev13
      replace b14 := (jba_104 a1 _).1 b14
      exact st_r0 (ls := []) ⟨rfl, rfl, f0, v13, rfl, trivial, (by unfold P_X11_gap; first | exact Or.inl (by omega) | (refine Or.inr ⟨by omega, ?_⟩; first | exact Or.inl (by omega) | exact Or.inr (Or.inl (by omega)) | exact Or.inr (Or.inr (Or.inl (by omega))) | exact Or.inr (Or.inr (Or.inr (Or.inl (by omega)))) | exact Or.inr (Or.inr (Or.inr (Or.inr (by omega))))))⟩
    · replace c6 : a2 = 3 := c6
      show jGo E l 131 229 229 _ 82 [.inr (.inr (.inl 0)), .inl a1, .inl a2] [] 229 jr0 h
      refine jGo_blk qX11_gap_82 ?_
      refine st_gr jo_0 jr_0_9 ?_
      refine st_gr jo_101 jr_101_4 ?_
      refine st_ai jo_105 (show 0 ≤ a1 by omega) (show a1 < ((40 : Nat) : Int) by omega) (fun v15 ev15 b16 => ?_)
      replace ev15 : v15 = h 105 a1 := ev15
      replace b16 := (jba_105 a1 _).1 b16
      exact st_r0 (ls := []) ⟨rfl, rfl, f0, v15, rfl, trivial, (by unfold P_X11_gap; first | exact Or.inl (by omega) | (refine Or.inr ⟨by omega, ?_⟩; first | exact Or.inl (by omega) | exact Or.inr (Or.inl (by omega)) | exact Or.inr (Or.inr (Or.inl (by omega))) | exact Or.inr (Or.inr (Or.inr (Or.inl (by omega)))) | exact Or.inr (Or.inr (Or.inr (Or.inr (by omega))))))⟩
  · replace c5 : t3 = 0 := by first | exact c5 | exact Int.not_le.mp c5 | exact Int.not_lt.mp c5 | exact Decidable.not_not.mp c5
    refine st_cv (na := 1) (st := [.inl (-1), .inr (.inr (.inl 0))]) jo_0 rfl rfl rfl (c_X11_refusedAside (-1) h (by omega)) rfl ?_
    rintro _ _ g18 ⟨rfl, ft17, t17, rfl, ht17, zt17⟩ kt17
    replace kt17 : -2147483648 ≤ t17 ∧ t17 ≤ 2147483647 := kt17
    replace ht17 : 2000000001 ≤ t17 ∧ t17 ≤ 2000000007 := ht17
    have fg18 : jfr w_X11_gap h g18 := jfr_tr f0 ft17 ws_X11_refusedAside__X11_gap
    replace zt17 : t17 = 2000000000 - (-1 : Int) := zt17
    exact st_r0 (ls := []) ⟨rfl, rfl, fg18, t17, rfl, trivial, (by unfold P_X11_gap; first | exact Or.inl (by omega) | (refine Or.inr ⟨by omega, ?_⟩; first | exact Or.inl (by omega) | exact Or.inr (Or.inl (by omega)) | exact Or.inr (Or.inr (Or.inl (by omega))) | exact Or.inr (Or.inr (Or.inr (Or.inl (by omega)))) | exact Or.inr (Or.inr (Or.inr (Or.inr (by omega))))))⟩

def w_X12_gap (i k : Int) : Prop := (i = 219)
theorem ws_X12_refuseFar__X12_gap (i k : Int) (q : w_X12_refuseFar i k) : w_X12_gap i k := by
  unfold w_X12_refuseFar at q; unfold w_X12_gap
  exact (by omega)
def k_X12_gap (a1 : Int) (a2 : Int) (h : JH) (v : Option JV) (r' g : JH) : Prop := r' = jr0 ∧ jfr w_X12_gap h g ∧ ∃ x : Int, v = some (.inl x) ∧ (True) ∧ (P_X12_gap a1 a2 x h)
set_option maxHeartbeats 4000000 in
theorem c_X12_gap {E : JE} {l : Launch} (a1 : Int) (a2 : Int) (h : JH) : jMt E l 132 [.inr (.inr (.inl 176)), .inl a1, .inl a2] 229 jr0 h (k_X12_gap a1 a2 h) := by
  refine jMt0 (nL := 3) (ls := [.inr (.inr (.inl 176)), .inl a1, .inl a2]) (by decide +kernel) (by decide +kernel) (by decide +kernel) rfl rfl ?_
  have f0 : jfr w_X12_gap h h := jfr_rf _ _
  refine jGo_blk qX12_gap_0 ?_
  refine st_gi jo_176 (fun v1 ev1 b2 => ?_)
  replace ev1 : v1 = h 176 45 := ev1
  replace b2 := (jbf_12_45 jo_176 _).1 b2
  have e3 : jw32 (v1 - 1) = v1 - 1 := jzj32 (by omega)
  refine st_cs (na := 3) (st := [.inl (jw32 (v1 - 1)), .inl 0, .inl a1]) rfl rfl rfl (c_X12_in a1 0 (jw32 (v1 - 1)) h) rfl ?_
  rintro _ _ _ ⟨rfl, rfl, t4, rfl, ht4, zt4⟩ kt4
  replace kt4 : -2147483648 ≤ t4 ∧ t4 ≤ 2147483647 := kt4
  replace ht4 : 0 ≤ t4 ∧ t4 ≤ 1 := ht4
  replace zt4 : (t4 = 1 ∧ (0 : Int) ≤ a1 ∧ a1 ≤ (jw32 (v1 - 1))) ∨ (t4 = 0 ∧ ¬ ((0 : Int) ≤ a1 ∧ a1 ≤ (jw32 (v1 - 1)))) := zt4
  refine And.intro (fun c6 => ?_) (fun c6 => ?_)
  · replace c6 : ¬ t4 = 0 := c6
    show jGo E l 132 229 229 _ 20 [.inr (.inr (.inl 176)), .inl a1, .inl a2] [] 229 jr0 h
    refine jGo_blk qX12_gap_20 ?_
    refine And.intro (fun c7 => ?_) (And.intro (fun c7 => ?_) (And.intro (fun c7 => ?_) (And.intro (fun c7 => ?_) (And.intro (fun c7 => ?_) (trivial)))))
    · replace c7 : a2 < 0 ∨ 3 < a2 := c7
      show jGo E l 132 229 229 _ 80 [.inr (.inr (.inl 176)), .inl a1, .inl a2] [] 229 jr0 h
      refine jGo_blk qX12_gap_80 ?_
      refine st_cv (na := 1) (st := [.inl (-2), .inr (.inr (.inl 176))]) jo_176 rfl rfl rfl (c_X12_refuseFar (-2) h (by omega)) rfl ?_
      rintro _ _ g9 ⟨rfl, ft8, t8, rfl, ht8, zt8⟩ kt8
      replace kt8 : -2147483648 ≤ t8 ∧ t8 ≤ 2147483647 := kt8
      replace ht8 : 2000000001 ≤ t8 ∧ t8 ≤ 2000000007 := ht8
      have fg9 : jfr w_X12_gap h g9 := jfr_tr f0 ft8 ws_X12_refuseFar__X12_gap
      replace zt8 : t8 = 2000000000 - (-2 : Int) := zt8
      exact st_r0 (ls := []) ⟨rfl, rfl, fg9, t8, rfl, trivial, (by unfold P_X12_gap; first | exact Or.inl (by omega) | (refine Or.inr ⟨by omega, ?_⟩; first | exact Or.inl (by omega) | exact Or.inr (Or.inl (by omega)) | exact Or.inr (Or.inr (Or.inl (by omega))) | exact Or.inr (Or.inr (Or.inr (Or.inl (by omega)))) | exact Or.inr (Or.inr (Or.inr (Or.inr (by omega))))))⟩
    · replace c7 : a2 = 0 := c7
      show jGo E l 132 229 229 _ 52 [.inr (.inr (.inl 176)), .inl a1, .inl a2] [] 229 jr0 h
      refine jGo_blk qX12_gap_52 ?_
      refine st_gr jo_176 jr_176_46 ?_
      refine st_ai jo_215 (show 0 ≤ a1 by omega) (show a1 < ((40 : Nat) : Int) by omega) (fun v10 ev10 b11 => ?_)
      replace ev10 : v10 = h 215 a1 := ev10
      replace b11 := (jba_215 a1 _).1 b11
      exact st_r0 (ls := []) ⟨rfl, rfl, f0, v10, rfl, trivial, (by unfold P_X12_gap; first | exact Or.inl (by omega) | (refine Or.inr ⟨by omega, ?_⟩; first | exact Or.inl (by omega) | exact Or.inr (Or.inl (by omega)) | exact Or.inr (Or.inr (Or.inl (by omega))) | exact Or.inr (Or.inr (Or.inr (Or.inl (by omega)))) | exact Or.inr (Or.inr (Or.inr (Or.inr (by omega))))))⟩
    · replace c7 : a2 = 1 := c7
      show jGo E l 132 229 229 _ 59 [.inr (.inr (.inl 176)), .inl a1, .inl a2] [] 229 jr0 h
      refine jGo_blk qX12_gap_59 ?_
      refine st_gr jo_176 jr_176_47 ?_
      refine st_ai jo_216 (show 0 ≤ a1 by omega) (show a1 < ((40 : Nat) : Int) by omega) (fun v12 ev12 b13 => ?_)
      replace ev12 : v12 = h 216 a1 := ev12
      replace b13 := (jba_216 a1 _).1 b13
      exact st_r0 (ls := []) ⟨rfl, rfl, f0, v12, rfl, trivial, (by unfold P_X12_gap; first | exact Or.inl (by omega) | (refine Or.inr ⟨by omega, ?_⟩; first | exact Or.inl (by omega) | exact Or.inr (Or.inl (by omega)) | exact Or.inr (Or.inr (Or.inl (by omega))) | exact Or.inr (Or.inr (Or.inr (Or.inl (by omega)))) | exact Or.inr (Or.inr (Or.inr (Or.inr (by omega))))))⟩
    · replace c7 : a2 = 2 := c7
      show jGo E l 132 229 229 _ 66 [.inr (.inr (.inl 176)), .inl a1, .inl a2] [] 229 jr0 h
      refine jGo_blk qX12_gap_66 ?_
      refine st_gr jo_176 jr_176_48 ?_
      refine st_ai jo_217 (show 0 ≤ a1 by omega) (show a1 < ((40 : Nat) : Int) by omega) (fun v14 ev14 b15 => ?_)
      replace ev14 : v14 = h 217 a1 := ev14
      replace b15 := (jba_217 a1 _).1 b15
      exact st_r0 (ls := []) ⟨rfl, rfl, f0, v14, rfl, trivial, (by unfold P_X12_gap; first | exact Or.inl (by omega) | (refine Or.inr ⟨by omega, ?_⟩; first | exact Or.inl (by omega) | exact Or.inr (Or.inl (by omega)) | exact Or.inr (Or.inr (Or.inl (by omega))) | exact Or.inr (Or.inr (Or.inr (Or.inl (by omega)))) | exact Or.inr (Or.inr (Or.inr (Or.inr (by omega))))))⟩
    · replace c7 : a2 = 3 := c7
      show jGo E l 132 229 229 _ 73 [.inr (.inr (.inl 176)), .inl a1, .inl a2] [] 229 jr0 h
      refine jGo_blk qX12_gap_73 ?_
      refine st_gr jo_176 jr_176_49 ?_
      refine st_ai jo_218 (show 0 ≤ a1 by omega) (show a1 < ((40 : Nat) : Int) by omega) (fun v16 ev16 b17 => ?_)
      replace ev16 : v16 = h 218 a1 := ev16
      replace b17 := (jba_218 a1 _).1 b17
      exact st_r0 (ls := []) ⟨rfl, rfl, f0, v16, rfl, trivial, (by unfold P_X12_gap; first | exact Or.inl (by omega) | (refine Or.inr ⟨by omega, ?_⟩; first | exact Or.inl (by omega) | exact Or.inr (Or.inl (by omega)) | exact Or.inr (Or.inr (Or.inl (by omega))) | exact Or.inr (Or.inr (Or.inr (Or.inl (by omega)))) | exact Or.inr (Or.inr (Or.inr (Or.inr (by omega))))))⟩
  · replace c6 : t4 = 0 := by first | exact c6 | exact Int.not_le.mp c6 | exact Int.not_lt.mp c6 | exact Decidable.not_not.mp c6
    refine st_cv (na := 1) (st := [.inl (-1), .inr (.inr (.inl 176))]) jo_176 rfl rfl rfl (c_X12_refuseFar (-1) h (by omega)) rfl ?_
    rintro _ _ g19 ⟨rfl, ft18, t18, rfl, ht18, zt18⟩ kt18
    replace kt18 : -2147483648 ≤ t18 ∧ t18 ≤ 2147483647 := kt18
    replace ht18 : 2000000001 ≤ t18 ∧ t18 ≤ 2000000007 := ht18
    have fg19 : jfr w_X12_gap h g19 := jfr_tr f0 ft18 ws_X12_refuseFar__X12_gap
    replace zt18 : t18 = 2000000000 - (-1 : Int) := zt18
    exact st_r0 (ls := []) ⟨rfl, rfl, fg19, t18, rfl, trivial, (by unfold P_X12_gap; first | exact Or.inl (by omega) | (refine Or.inr ⟨by omega, ?_⟩; first | exact Or.inl (by omega) | exact Or.inr (Or.inl (by omega)) | exact Or.inr (Or.inr (Or.inl (by omega))) | exact Or.inr (Or.inr (Or.inr (Or.inl (by omega)))) | exact Or.inr (Or.inr (Or.inr (Or.inr (by omega))))))⟩

def k_X5_spanOf (a1 : Int) (h : JH) (v : Option JV) (r' g : JH) : Prop := r' = jr0 ∧ h = g ∧ ∃ x : Int, v = some (.inl x) ∧ (1 ≤ x ∧ x ≤ 2000) ∧ (x = jSpn (h 103) (h 105) a1)
set_option maxHeartbeats 4000000 in
theorem c_X5_spanOf {E : JE} {l : Launch} (a1 : Int) (h : JH) (p1 : 0 ≤ a1 ∧ a1 ≤ 39) : jMt E l 134 [.inr (.inr (.inl 101)), .inl a1] 229 jr0 h (k_X5_spanOf a1 h) := by
  refine jMt0 (nL := 2) (ls := [.inr (.inr (.inl 101)), .inl a1]) (by decide +kernel) (by decide +kernel) (by decide +kernel) rfl rfl ?_
  refine jGo_blk qX5_spanOf_0 ?_
  refine st_gr jo_101 jr_101_2 ?_
  refine st_ai jo_103 (show 0 ≤ a1 by omega) (show a1 < ((40 : Nat) : Int) by omega) (fun v1 ev1 b2 => ?_)
  replace ev1 : v1 = h 103 a1 := ev1
  replace b2 := (jba_103 a1 _).1 b2
  refine st_gr jo_101 jr_101_4 ?_
  refine st_ai jo_105 (show 0 ≤ a1 by omega) (show a1 < ((40 : Nat) : Int) by omega) (fun v3 ev3 b4 => ?_)
  replace ev3 : v3 = h 105 a1 := ev3
  replace b4 := (jba_105 a1 _).1 b4
  have e5 : jw32 (v1 - v3) = v1 - v3 := jzj32 (by omega)
  refine st_m1 rfl (fun v6 m1v6 m2v6 m3v6 => ?_)
  replace m1v6 : v6 ≥ 1 := m1v6; replace m2v6 : v6 ≥ jw32 (v1 - v3) := m2v6; replace m3v6 : v6 = 1 ∨ v6 = jw32 (v1 - v3) := m3v6
  have hc7 : v6 = jSpn (h 103) (h 105) a1 := by
    unfold jSpn; omega
  exact st_r0 (ls := []) ⟨rfl, rfl, rfl, v6, rfl, (by omega), (by exact hc7)⟩

def k_X5_isWorse (a1 : Int) (a2 : Int) (h : JH) (v : Option JV) (r' g : JH) : Prop := r' = jr0 ∧ h = g ∧ ∃ x : Int, v = some (.inl x) ∧ (0 ≤ x ∧ x ≤ 1) ∧ ((x = 1 ∧ h 104 a2 * jSpn (h 103) (h 105) a1 < h 104 a1 * jSpn (h 103) (h 105) a2) ∨ (x = 0 ∧ ¬ h 104 a2 * jSpn (h 103) (h 105) a1 < h 104 a1 * jSpn (h 103) (h 105) a2))
set_option maxHeartbeats 4000000 in
theorem c_X5_isWorse {E : JE} {l : Launch} (a1 : Int) (a2 : Int) (h : JH) (p1 : 0 ≤ a1 ∧ a1 ≤ 39) (p2 : 0 ≤ a2 ∧ a2 ≤ 39) : jMt E l 135 [.inr (.inr (.inl 101)), .inl a1, .inl a2] 229 jr0 h (k_X5_isWorse a1 a2 h) := by
  refine jMt0 (nL := 3) (ls := [.inr (.inr (.inl 101)), .inl a1, .inl a2]) (by decide +kernel) (by decide +kernel) (by decide +kernel) rfl rfl ?_
  refine jGo_blk qX5_isWorse_0 ?_
  refine st_gr jo_101 jr_101_3 ?_
  refine st_ai jo_104 (show 0 ≤ a1 by omega) (show a1 < ((40 : Nat) : Int) by omega) (fun v1 ev1 b2 => ?_)
  replace ev1 : v1 = h 104 a1 := ev1
  replace b2 := (jba_104 a1 _).1 b2
  refine st_cv (na := 1) (st := [.inl a2, .inr (.inr (.inl 101)), .inr (.inl v1)]) jo_101 rfl rfl rfl (c_X5_spanOf a2 h (by omega)) rfl ?_
  rintro _ _ _ ⟨rfl, rfl, t3, rfl, ht3, zt3⟩ kt3
  replace kt3 : -2147483648 ≤ t3 ∧ t3 ≤ 2147483647 := kt3
  replace ht3 : 1 ≤ t3 ∧ t3 ≤ 2000 := ht3
  replace zt3 : t3 = jSpn (h 103) (h 105) a2 := zt3
  have e5 : jw64 (v1 * t3) = v1 * t3 := jmwl (by omega) (by omega) (by omega) (by omega)
  refine st_gr jo_101 jr_101_3 ?_
  refine st_ai jo_104 (show 0 ≤ a2 by omega) (show a2 < ((40 : Nat) : Int) by omega) (fun v6 ev6 b7 => ?_)
  replace ev6 : v6 = h 104 a2 := ev6
  replace b7 := (jba_104 a2 _).1 b7
  refine st_cv (na := 1) (st := [.inl a1, .inr (.inr (.inl 101)), .inr (.inl v6), .inr (.inl (jw64 (v1 * t3)))]) jo_101 rfl rfl rfl (c_X5_spanOf a1 h (by omega)) rfl ?_
  rintro _ _ _ ⟨rfl, rfl, t8, rfl, ht8, zt8⟩ kt8
  replace kt8 : -2147483648 ≤ t8 ∧ t8 ≤ 2147483647 := kt8
  replace ht8 : 1 ≤ t8 ∧ t8 ≤ 2000 := ht8
  replace zt8 : t8 = jSpn (h 103) (h 105) a1 := zt8
  have e10 : jw64 (v6 * t8) = v6 * t8 := jmwl (by omega) (by omega) (by omega) (by omega)
  have e11 := jlc_u (jw64 (v1 * t3)) (jw64 (v6 * t8))
  refine And.intro (fun c12 => ?_) (fun c12 => ?_)
  · replace c12 : jlc (jw64 (v1 * t3)) (jw64 (v6 * t8)) ≤ 0 := c12
    show jGo E l 135 229 229 _ 36 [.inr (.inr (.inl 101)), .inl a1, .inl a2] [] 229 jr0 h
    refine jGo_blk qX5_isWorse_36 ?_
    show jGo E l 135 229 229 _ 37 [.inr (.inr (.inl 101)), .inl a1, .inl a2] [.inl 0] 229 jr0 h
    refine jGo_blk qX5_isWorse_37 ?_
    exact st_r1 (ls := []) (show (0 : Int) = 0 ∨ (0 : Int) = 1 by omega) ⟨rfl, rfl, rfl, 0, rfl, (by omega), (by subst zt8 ev6 zt3 ev1; omega)⟩
  · replace c12 : 0 < jlc (jw64 (v1 * t3)) (jw64 (v6 * t8)) := by first | exact c12 | exact Int.not_le.mp c12 | exact Int.not_lt.mp c12 | exact Decidable.not_not.mp c12
    show jGo E l 135 229 229 _ 37 [.inr (.inr (.inl 101)), .inl a1, .inl a2] [.inl 1] 229 jr0 h
    refine jGo_blk qX5_isWorse_37 ?_
    exact st_r1 (ls := []) (show (1 : Int) = 0 ∨ (1 : Int) = 1 by omega) ⟨rfl, rfl, rfl, 1, rfl, (by omega), (by subst zt8 ev6 zt3 ev1; omega)⟩

def k_X5_worstOf (a1 : Int) (h : JH) (v : Option JV) (r' g : JH) : Prop := r' = jr0 ∧ h = g ∧ ∃ x : Int, v = some (.inl x) ∧ (-9 ≤ x ∧ x ≤ 39) ∧ (x = jWst (h 102) (h 103) (h 104) (h 105) a1 (h 101 0).toNat)
set_option maxHeartbeats 4000000 in
theorem c_X5_worstOf {E : JE} {l : Launch} (a1 : Int) (h : JH) : jMt E l 136 [.inr (.inr (.inl 101)), .inl a1] 229 jr0 h (k_X5_worstOf a1 h) := by
  refine jMt0 (nL := 4) (ls := [.inr (.inr (.inl 101)), .inl a1, .inr (.inr (.inr ())), .inr (.inr (.inr ()))]) (by decide +kernel) (by decide +kernel) (by decide +kernel) rfl rfl ?_
  refine jGo_bd (fun hbd => ?_)
  have hb0 := (jbf_5_0 jo_101 _).1 (hbd 101 0)
  have key : ∀ N : Nat, (∀ (x2 : Int) (x3 : Int), ((-9) ≤ x2 ∧ x2 ≤ 39 ∧ 0 ≤ x3 ∧ x3 ≤ 40) → (x2 = -9 ∨ (0 ≤ x2 ∧ x2 ≤ 39)) → (x2 = jWst (h 102) (h 103) (h 104) (h 105) a1 (x3).toNat) → (0 ≤ x3 ∧ x3 ≤ h 101 0) → (40 - x3) < (N : Int) → jGo E l 136 229 229 (jRK (k_X5_worstOf a1 h)) 5 [.inr (.inr (.inl 101)), .inl a1, .inl x2, .inl x3] [] 229 jr0 h) := by
    intro N
    induction N with
    | zero => exact fun _ _ hi hx0 hx1 hx2 hN => absurd hN (by omega)
    | succ N ih =>
      intro x2 x3 hi hx0 hx1 hx2 hN
      refine jGo_blk qX5_worstOf_5 ?_
      refine st_gi jo_101 (fun v1 ev1 b2 => ?_)
      replace ev1 : v1 = h 101 0 := ev1
      replace b2 := (jbf_5_0 jo_101 _).1 b2
      refine And.intro (fun c3 => ?_) (fun c3 => ?_)
      · replace c3 : v1 ≤ x3 := c3
        show jGo E l 136 229 229 _ 55 [.inr (.inr (.inl 101)), .inl a1, .inl x2, .inl x3] [] 229 jr0 h
        refine jGo_blk qX5_worstOf_55 ?_
        exact st_r0 (ls := []) ⟨rfl, rfl, rfl, x2, rfl, (by omega), (by rw [show h 101 0 = x3 by omega]; exact hx1)⟩
      · replace c3 : x3 < v1 := by first | exact c3 | exact Int.not_le.mp c3 | exact Int.not_lt.mp c3 | exact Decidable.not_not.mp c3
        refine st_gr jo_101 jr_101_1 ?_
        refine st_ai jo_102 (show 0 ≤ x3 by omega) (show x3 < ((40 : Nat) : Int) by omega) (fun v4 ev4 b5 => ?_)
        replace ev4 : v4 = h 102 x3 := ev4
        replace b5 := (jba_102 x3 _).1 b5
        refine And.intro (fun c6 => ?_) (fun c6 => ?_)
        · replace c6 : ¬ v4 = a1 := c6
          show jGo E l 136 229 229 _ 49 [.inr (.inr (.inl 101)), .inl a1, .inl x2, .inl x3] [] 229 jr0 h
          refine jGo_blk qX5_worstOf_49 ?_
          have e7 : jw32 (x3 + 1) = x3 + 1 := jzj32 (by omega)
          show jGo E l 136 229 229 _ 5 [.inr (.inr (.inl 101)), .inl a1, .inl x2, .inl (jw32 (x3 + 1))] [] 229 jr0 h
          exact ih x2 (jw32 (x3 + 1)) (by omega) (by omega) (by rw [show jw32 (x3 + 1) = x3 + 1 by omega, jWst_s (by omega), ← hx1]; exact (if_neg (fun q => by omega)).symm) (by omega) (by omega)
        · replace c6 : v4 = a1 := by first | exact c6 | exact Int.not_le.mp c6 | exact Int.not_lt.mp c6 | exact Decidable.not_not.mp c6
          refine st_gr jo_101 jr_101_3 ?_
          refine st_ai jo_104 (show 0 ≤ x3 by omega) (show x3 < ((40 : Nat) : Int) by omega) (fun v8 ev8 b9 => ?_)
          replace ev8 : v8 = h 104 x3 := ev8
          replace b9 := (jba_104 x3 _).1 b9
          refine And.intro (fun c10 => ?_) (fun c10 => ?_)
          · replace c10 : v8 ≤ 0 := c10
            show jGo E l 136 229 229 _ 49 [.inr (.inr (.inl 101)), .inl a1, .inl x2, .inl x3] [] 229 jr0 h
            refine jGo_blk qX5_worstOf_49 ?_
            have e11 : jw32 (x3 + 1) = x3 + 1 := jzj32 (by omega)
            show jGo E l 136 229 229 _ 5 [.inr (.inr (.inl 101)), .inl a1, .inl x2, .inl (jw32 (x3 + 1))] [] 229 jr0 h
            exact ih x2 (jw32 (x3 + 1)) (by omega) (by omega) (by rw [show jw32 (x3 + 1) = x3 + 1 by omega, jWst_s (by omega), ← hx1]; exact (if_neg (fun q => by omega)).symm) (by omega) (by omega)
          · replace c10 : 0 < v8 := by first | exact c10 | exact Int.not_le.mp c10 | exact Int.not_lt.mp c10 | exact Decidable.not_not.mp c10
            refine And.intro (fun c12 => ?_) (fun c12 => ?_)
            · replace c12 : x2 = (-9) := c12
              show jGo E l 136 229 229 _ 47 [.inr (.inr (.inl 101)), .inl a1, .inl x2, .inl x3] [] 229 jr0 h
              refine jGo_blk qX5_worstOf_47 ?_
              show jGo E l 136 229 229 _ 49 [.inr (.inr (.inl 101)), .inl a1, .inl x3, .inl x3] [] 229 jr0 h
              refine jGo_blk qX5_worstOf_49 ?_
              have e13 : jw32 (x3 + 1) = x3 + 1 := jzj32 (by omega)
              show jGo E l 136 229 229 _ 5 [.inr (.inr (.inl 101)), .inl a1, .inl x3, .inl (jw32 (x3 + 1))] [] 229 jr0 h
              exact ih x3 (jw32 (x3 + 1)) (by omega) (by omega) (by rw [show jw32 (x3 + 1) = x3 + 1 by omega, jWst_s (by omega), ← hx1]; exact (if_pos (by omega)).symm) (by omega) (by omega)
            · replace c12 : ¬ x2 = (-9) := by first | exact c12 | exact Int.not_le.mp c12 | exact Int.not_lt.mp c12 | exact Decidable.not_not.mp c12
              refine st_cv (na := 2) (st := [.inl x2, .inl x3, .inr (.inr (.inl 101))]) jo_101 rfl rfl rfl (c_X5_isWorse x3 x2 h (by omega) (by omega)) rfl ?_
              rintro _ _ _ ⟨rfl, rfl, t14, rfl, ht14, zt14⟩ kt14
              replace kt14 : -2147483648 ≤ t14 ∧ t14 ≤ 2147483647 := kt14
              replace ht14 : 0 ≤ t14 ∧ t14 ≤ 1 := ht14
              replace zt14 : (t14 = 1 ∧ h 104 x2 * jSpn (h 103) (h 105) x3 < h 104 x3 * jSpn (h 103) (h 105) x2) ∨ (t14 = 0 ∧ ¬ h 104 x2 * jSpn (h 103) (h 105) x3 < h 104 x3 * jSpn (h 103) (h 105) x2) := zt14
              refine And.intro (fun c16 => ?_) (fun c16 => ?_)
              · replace c16 : t14 = 0 := c16
                show jGo E l 136 229 229 _ 49 [.inr (.inr (.inl 101)), .inl a1, .inl x2, .inl x3] [] 229 jr0 h
                refine jGo_blk qX5_worstOf_49 ?_
                have e17 : jw32 (x3 + 1) = x3 + 1 := jzj32 (by omega)
                show jGo E l 136 229 229 _ 5 [.inr (.inr (.inl 101)), .inl a1, .inl x2, .inl (jw32 (x3 + 1))] [] 229 jr0 h
                exact ih x2 (jw32 (x3 + 1)) (by omega) (by omega) (by rw [show jw32 (x3 + 1) = x3 + 1 by omega, jWst_s (by omega), ← hx1]; exact (if_neg (fun q => by omega)).symm) (by omega) (by omega)
              · replace c16 : ¬ t14 = 0 := by first | exact c16 | exact Int.not_le.mp c16 | exact Int.not_lt.mp c16 | exact Decidable.not_not.mp c16
                show jGo E l 136 229 229 _ 47 [.inr (.inr (.inl 101)), .inl a1, .inl x2, .inl x3] [] 229 jr0 h
                refine jGo_blk qX5_worstOf_47 ?_
                show jGo E l 136 229 229 _ 49 [.inr (.inr (.inl 101)), .inl a1, .inl x3, .inl x3] [] 229 jr0 h
                refine jGo_blk qX5_worstOf_49 ?_
                have e18 : jw32 (x3 + 1) = x3 + 1 := jzj32 (by omega)
                show jGo E l 136 229 229 _ 5 [.inr (.inr (.inl 101)), .inl a1, .inl x3, .inl (jw32 (x3 + 1))] [] 229 jr0 h
                exact ih x3 (jw32 (x3 + 1)) (by omega) (by omega) (by rw [show jw32 (x3 + 1) = x3 + 1 by omega, jWst_s (by omega), ← hx1]; exact (if_pos (by omega)).symm) (by omega) (by omega)
  refine jGo_blk qX5_worstOf_0 ?_
  show jGo E l 136 229 229 _ 5 [.inr (.inr (.inl 101)), .inl a1, .inl (-9), .inl 0] [] 229 jr0 h
  exact (key 1000000000000) (-9) 0 (by omega) (by omega) (by rfl) (by omega) (by omega)

def w_X11_worst (i k : Int) : Prop := (i = 1)
theorem ws_X11_refused__X11_worst (i k : Int) (q : w_X11_refused i k) : w_X11_worst i k := by
  unfold w_X11_refused at q; unfold w_X11_worst
  exact (by omega)
def k_X11_worst (a1 : Int) (h : JH) (v : Option JV) (r' g : JH) : Prop := r' = jr0 ∧ jfr w_X11_worst h g ∧ ∃ x : Int, v = some (.inl x) ∧ (-9 ≤ x ∧ x ≤ 39) ∧ (P_X11_worst a1 x h)
set_option maxHeartbeats 4000000 in
theorem c_X11_worst {E : JE} {l : Launch} (a1 : Int) (h : JH) : jMt E l 137 [.inr (.inr (.inl 0)), .inl a1] 229 jr0 h (k_X11_worst a1 h) := by
  refine jMt0 (nL := 2) (ls := [.inr (.inr (.inl 0)), .inl a1]) (by decide +kernel) (by decide +kernel) (by decide +kernel) rfl rfl ?_
  have f0 : jfr w_X11_worst h h := jfr_rf _ _
  refine jGo_blk qX11_worst_0 ?_
  refine st_cs (na := 2) (st := [.inl 6, .inl a1]) rfl rfl rfl (c_X11_within a1 6 h) rfl ?_
  rintro _ _ _ ⟨rfl, rfl, t1, rfl, ht1, zt1⟩ kt1
  replace kt1 : -2147483648 ≤ t1 ∧ t1 ≤ 2147483647 := kt1
  replace ht1 : 0 ≤ t1 ∧ t1 ≤ 1 := ht1
  replace zt1 : (t1 = 1 ∧ 0 ≤ a1 ∧ a1 < (6 : Int)) ∨ (t1 = 0 ∧ ¬ (0 ≤ a1 ∧ a1 < (6 : Int))) := zt1
  refine And.intro (fun c3 => ?_) (fun c3 => ?_)
  · replace c3 : ¬ t1 = 0 := c3
    show jGo E l 137 229 229 _ 17 [.inr (.inr (.inl 0)), .inl a1] [] 229 jr0 h
    refine jGo_blk qX11_worst_17 ?_
    refine st_gr jo_0 jr_0_9 ?_
    refine st_cv (na := 1) (st := [.inl a1, .inr (.inr (.inl 101))]) jo_101 rfl rfl rfl (c_X5_worstOf a1 h) rfl ?_
    rintro _ _ _ ⟨rfl, rfl, t4, rfl, ht4, zt4⟩ kt4
    replace kt4 : -2147483648 ≤ t4 ∧ t4 ≤ 2147483647 := kt4
    replace ht4 : -9 ≤ t4 ∧ t4 ≤ 39 := ht4
    replace zt4 : t4 = jWst (h 102) (h 103) (h 104) (h 105) a1 (h 101 0).toNat := zt4
    show jGo E l 137 229 229 _ 25 [.inr (.inr (.inl 0)), .inl a1] [.inl t4] 229 jr0 h
    refine jGo_blk qX11_worst_25 ?_
    exact st_r0 (ls := []) ⟨rfl, rfl, f0, t4, rfl, (by omega), (by unfold P_X11_worst; omega)⟩
  · replace c3 : t1 = 0 := by first | exact c3 | exact Int.not_le.mp c3 | exact Int.not_lt.mp c3 | exact Decidable.not_not.mp c3
    refine st_cv (na := 1) (st := [.inl (-1), .inr (.inr (.inl 0))]) jo_0 rfl rfl rfl (c_X11_refused (-1) h (by omega)) rfl ?_
    rintro _ _ g7 ⟨rfl, ft6, t6, rfl, ht6, zt6⟩ kt6
    replace kt6 : -2147483648 ≤ t6 ∧ t6 ≤ 2147483647 := kt6
    replace ht6 : -7 ≤ t6 ∧ t6 ≤ -1 := ht6
    have fg7 : jfr w_X11_worst h g7 := jfr_tr f0 ft6 ws_X11_refused__X11_worst
    replace zt6 : t6 = (-1 : Int) := zt6
    show jGo E l 137 229 229 _ 25 [.inr (.inr (.inl 0)), .inl a1] [.inl t6] 229 jr0 g7
    refine jGo_blk qX11_worst_25 ?_
    exact st_r0 (ls := []) ⟨rfl, rfl, fg7, t6, rfl, (by omega), (by unfold P_X11_worst; omega)⟩

def k_X12_spanOf (a1 : Int) (h : JH) (v : Option JV) (r' g : JH) : Prop := r' = jr0 ∧ h = g ∧ ∃ x : Int, v = some (.inr (.inl x)) ∧ (-1998 ≤ x ∧ x ≤ 2000) ∧ (x = jSpn (h 216) (h 218) a1)
set_option maxHeartbeats 4000000 in
theorem c_X12_spanOf {E : JE} {l : Launch} (a1 : Int) (h : JH) (p1 : 0 ≤ a1 ∧ a1 ≤ 39) : jMt E l 138 [.inr (.inr (.inl 176)), .inl a1] 229 jr0 h (k_X12_spanOf a1 h) := by
  refine jMt0 (nL := 2) (ls := [.inr (.inr (.inl 176)), .inl a1]) (by decide +kernel) (by decide +kernel) (by decide +kernel) rfl rfl ?_
  refine jGo_blk qX12_spanOf_0 ?_
  refine st_gr jo_176 jr_176_47 ?_
  refine st_ai jo_216 (show 0 ≤ a1 by omega) (show a1 < ((40 : Nat) : Int) by omega) (fun v1 ev1 b2 => ?_)
  replace ev1 : v1 = h 216 a1 := ev1
  replace b2 := (jba_216 a1 _).1 b2
  refine st_gr jo_176 jr_176_49 ?_
  refine st_ai jo_218 (show 0 ≤ a1 by omega) (show a1 < ((40 : Nat) : Int) by omega) (fun v3 ev3 b4 => ?_)
  replace ev3 : v3 = h 218 a1 := ev3
  replace b4 := (jba_218 a1 _).1 b4
  refine And.intro (fun c5 => ?_) (fun c5 => ?_)
  · replace c5 : v1 ≤ v3 := c5
    show jGo E l 138 229 229 _ 32 [.inr (.inr (.inl 176)), .inl a1] [] 229 jr0 h
    refine jGo_blk qX12_spanOf_32 ?_
    show jGo E l 138 229 229 _ 33 [.inr (.inr (.inl 176)), .inl a1] [.inr (.inl 1)] 229 jr0 h
    refine jGo_blk qX12_spanOf_33 ?_
    have hc6 : 1 = jSpn (h 216) (h 218) a1 := by
      unfold jSpn; omega
    exact ⟨rfl, rfl, rfl, 1, rfl, (by omega), (by exact hc6)⟩
  · replace c5 : v3 < v1 := by first | exact c5 | exact Int.not_le.mp c5 | exact Int.not_lt.mp c5 | exact Decidable.not_not.mp c5
    refine st_gr jo_176 jr_176_47 ?_
    refine st_ai jo_216 (show 0 ≤ a1 by omega) (show a1 < ((40 : Nat) : Int) by omega) (fun v7 ev7 b8 => ?_)
    replace ev7 : v7 = h 216 a1 := ev7
    replace b8 := (jba_216 a1 _).1 b8
    refine st_gr jo_176 jr_176_49 ?_
    refine st_ai jo_218 (show 0 ≤ a1 by omega) (show a1 < ((40 : Nat) : Int) by omega) (fun v9 ev9 b10 => ?_)
    replace ev9 : v9 = h 218 a1 := ev9
    replace b10 := (jba_218 a1 _).1 b10
    have e11 : jw32 (v7 - v9) = v7 - v9 := jzj32 (by omega)
    show jGo E l 138 229 229 _ 33 [.inr (.inr (.inl 176)), .inl a1] [.inr (.inl (jw32 (v7 - v9)))] 229 jr0 h
    refine jGo_blk qX12_spanOf_33 ?_
    have hc12 : jw32 (v7 - v9) = jSpn (h 216) (h 218) a1 := by
      unfold jSpn; omega
    exact ⟨rfl, rfl, rfl, jw32 (v7 - v9), rfl, (by omega), (by exact hc12)⟩

def w_X12_worst (i k : Int) : Prop := (i = 219)
theorem ws_X12_refuse__X12_worst (i k : Int) (q : w_X12_refuse i k) : w_X12_worst i k := by
  unfold w_X12_refuse at q; unfold w_X12_worst
  exact (by omega)
def k_X12_worst (a1 : Int) (h : JH) (v : Option JV) (r' g : JH) : Prop := r' = jr0 ∧ jfr w_X12_worst h g ∧ ∃ x : Int, v = some (.inl x) ∧ (-9 ≤ x ∧ x ≤ 39) ∧ (P_X12_worst a1 x h)
set_option maxHeartbeats 4000000 in
theorem c_X12_worst {E : JE} {l : Launch} (a1 : Int) (h : JH) : jMt E l 139 [.inr (.inr (.inl 176)), .inl a1] 229 jr0 h (k_X12_worst a1 h) := by
  refine jMt0 (nL := 4) (ls := [.inr (.inr (.inl 176)), .inl a1, .inr (.inr (.inr ())), .inr (.inr (.inr ()))]) (by decide +kernel) (by decide +kernel) (by decide +kernel) rfl rfl ?_
  have f0 : jfr w_X12_worst h h := jfr_rf _ _
  refine jGo_bd (fun hbd => ?_)
  have hb0 := (jbf_12_45 jo_176 _).1 (hbd 176 45)
  have key : ∀ N : Nat, (∀ (x2 : Int) (x3 : Int) (g : JH), (0 ≤ a1 ∧ a1 ≤ 5 ∧ (-9) ≤ x2 ∧ x2 ≤ 39 ∧ 0 ≤ x3 ∧ x3 ≤ 40) → (x2 = -9 ∨ (0 ≤ x2 ∧ x2 ≤ 39)) → (x2 = jWst (h 215) (h 216) (h 217) (h 218) a1 (x3).toNat) → (0 ≤ x3 ∧ x3 ≤ g 176 45 ∧ 0 ≤ a1 ∧ a1 < 6) → (g = h) → jfr w_X12_worst h g → (40 - x3) < (N : Int) → jGo E l 139 229 229 (jRK (k_X12_worst a1 h)) 20 [.inr (.inr (.inl 176)), .inl a1, .inl x2, .inl x3] [] 229 jr0 g) := by
    intro N
    induction N with
    | zero => exact fun _ _ _ hi hx0 hx1 hx2 hx3 _ hN => absurd hN (by omega)
    | succ N ih =>
      intro x2 x3 g hi hx0 hx1 hx2 hx3 hf hN
      refine jGo_blk qX12_worst_20 ?_
      refine st_gi jo_176 (fun v1 ev1 b2 => ?_)
      replace ev1 : v1 = g 176 45 := ev1
      replace b2 := (jbf_12_45 jo_176 _).1 b2
      refine And.intro (fun c3 => ?_) (fun c3 => ?_)
      · replace c3 : v1 ≤ x3 := c3
        show jGo E l 139 229 229 _ 89 [.inr (.inr (.inl 176)), .inl a1, .inl x2, .inl x3] [] 229 jr0 g
        refine jGo_blk qX12_worst_89 ?_
        exact st_r0 (ls := []) ⟨rfl, rfl, hf, x2, rfl, (by omega), (by unfold P_X12_worst; have y9 : g = h := hx3; have y8 : g 176 45 = h 176 45 := (by rw [y9]); exact Or.inr ⟨by omega, by rw [show h 176 45 = x3 by omega]; exact hx1⟩)⟩
      · replace c3 : x3 < v1 := by first | exact c3 | exact Int.not_le.mp c3 | exact Int.not_lt.mp c3 | exact Decidable.not_not.mp c3
        refine st_gr jo_176 jr_176_46 ?_
        refine st_ai jo_215 (show 0 ≤ x3 by omega) (show x3 < ((40 : Nat) : Int) by omega) (fun v4 ev4 b5 => ?_)
        replace ev4 : v4 = g 215 x3 := ev4
        replace b5 := (jba_215 x3 _).1 b5
        refine And.intro (fun c6 => ?_) (fun c6 => ?_)
        · replace c6 : ¬ v4 = a1 := c6
          show jGo E l 139 229 229 _ 83 [.inr (.inr (.inl 176)), .inl a1, .inl x2, .inl x3] [] 229 jr0 g
          refine jGo_blk qX12_worst_83 ?_
          have e7 : jw32 (x3 + 1) = x3 + 1 := jzj32 (by omega)
          show jGo E l 139 229 229 _ 20 [.inr (.inr (.inl 176)), .inl a1, .inl x2, .inl (jw32 (x3 + 1))] [] 229 jr0 g
          exact ih x2 (jw32 (x3 + 1)) g (by omega) (by omega) (by have y9 : g = h := hx3; subst y9; rw [show jw32 (x3 + 1) = x3 + 1 by omega, jWst_s (by omega), ← hx1]; subst ev4 ev1; exact (if_neg (fun q => by omega)).symm) (by omega) (by exact hx3) hf (by omega)
        · replace c6 : v4 = a1 := by first | exact c6 | exact Int.not_le.mp c6 | exact Int.not_lt.mp c6 | exact Decidable.not_not.mp c6
          refine st_gr jo_176 jr_176_48 ?_
          refine st_ai jo_217 (show 0 ≤ x3 by omega) (show x3 < ((40 : Nat) : Int) by omega) (fun v8 ev8 b9 => ?_)
          replace ev8 : v8 = g 217 x3 := ev8
          replace b9 := (jba_217 x3 _).1 b9
          refine And.intro (fun c10 => ?_) (fun c10 => ?_)
          · replace c10 : v8 ≤ 0 := c10
            show jGo E l 139 229 229 _ 83 [.inr (.inr (.inl 176)), .inl a1, .inl x2, .inl x3] [] 229 jr0 g
            refine jGo_blk qX12_worst_83 ?_
            have e11 : jw32 (x3 + 1) = x3 + 1 := jzj32 (by omega)
            show jGo E l 139 229 229 _ 20 [.inr (.inr (.inl 176)), .inl a1, .inl x2, .inl (jw32 (x3 + 1))] [] 229 jr0 g
            exact ih x2 (jw32 (x3 + 1)) g (by omega) (by omega) (by have y9 : g = h := hx3; subst y9; rw [show jw32 (x3 + 1) = x3 + 1 by omega, jWst_s (by omega), ← hx1]; subst ev8 ev4 ev1; exact (if_neg (fun q => by omega)).symm) (by omega) (by exact hx3) hf (by omega)
          · replace c10 : 0 < v8 := by first | exact c10 | exact Int.not_le.mp c10 | exact Int.not_lt.mp c10 | exact Decidable.not_not.mp c10
            refine And.intro (fun c12 => ?_) (fun c12 => ?_)
            · replace c12 : x2 < 0 := c12
              show jGo E l 139 229 229 _ 81 [.inr (.inr (.inl 176)), .inl a1, .inl x2, .inl x3] [] 229 jr0 g
              refine jGo_blk qX12_worst_81 ?_
              show jGo E l 139 229 229 _ 83 [.inr (.inr (.inl 176)), .inl a1, .inl x3, .inl x3] [] 229 jr0 g
              refine jGo_blk qX12_worst_83 ?_
              have e13 : jw32 (x3 + 1) = x3 + 1 := jzj32 (by omega)
              show jGo E l 139 229 229 _ 20 [.inr (.inr (.inl 176)), .inl a1, .inl x3, .inl (jw32 (x3 + 1))] [] 229 jr0 g
              exact ih x3 (jw32 (x3 + 1)) g (by omega) (by omega) (by have y9 : g = h := hx3; subst y9; rw [show jw32 (x3 + 1) = x3 + 1 by omega, jWst_s (by omega), ← hx1]; subst ev8 ev4 ev1; exact (if_pos (by omega)).symm) (by omega) (by exact hx3) hf (by omega)
            · replace c12 : 0 ≤ x2 := by first | exact c12 | exact Int.not_le.mp c12 | exact Int.not_lt.mp c12 | exact Decidable.not_not.mp c12
              refine st_gr jo_176 jr_176_48 ?_
              refine st_ai jo_217 (show 0 ≤ x3 by omega) (show x3 < ((40 : Nat) : Int) by omega) (fun v14 ev14 b15 => ?_)
              replace ev14 : v14 = g 217 x3 := ev14
              replace b15 := (jba_217 x3 _).1 b15
              refine st_cv (na := 1) (st := [.inl x2, .inr (.inr (.inl 176)), .inr (.inl v14)]) jo_176 rfl rfl rfl (c_X12_spanOf x2 g (by omega)) rfl ?_
              rintro _ _ _ ⟨rfl, rfl, t16, rfl, ht16, zt16⟩ kt16
              replace kt16 : -9223372036854775808 ≤ t16 ∧ t16 ≤ 9223372036854775807 := kt16
              replace ht16 : -1998 ≤ t16 ∧ t16 ≤ 2000 := ht16
              replace zt16 : t16 = jSpn (g 216) (g 218) x2 := zt16
              have e18 : jw64 (v14 * t16) = v14 * t16 := jmwl (by omega) (by omega) (by omega) (by omega)
              refine st_gr jo_176 jr_176_48 ?_
              refine st_ai jo_217 (show 0 ≤ x2 by omega) (show x2 < ((40 : Nat) : Int) by omega) (fun v19 ev19 b20 => ?_)
              replace ev19 : v19 = g 217 x2 := ev19
              replace b20 := (jba_217 x2 _).1 b20
              refine st_cv (na := 1) (st := [.inl x3, .inr (.inr (.inl 176)), .inr (.inl v19), .inr (.inl (jw64 (v14 * t16)))]) jo_176 rfl rfl rfl (c_X12_spanOf x3 g (by omega)) rfl ?_
              rintro _ _ _ ⟨rfl, rfl, t21, rfl, ht21, zt21⟩ kt21
              replace kt21 : -9223372036854775808 ≤ t21 ∧ t21 ≤ 9223372036854775807 := kt21
              replace ht21 : -1998 ≤ t21 ∧ t21 ≤ 2000 := ht21
              replace zt21 : t21 = jSpn (g 216) (g 218) x3 := zt21
              have e23 : jw64 (v19 * t21) = v19 * t21 := jmwl (by omega) (by omega) (by omega) (by omega)
              have e24 := jlc_u (jw64 (v14 * t16)) (jw64 (v19 * t21))
              refine And.intro (fun c25 => ?_) (fun c25 => ?_)
              · replace c25 : jlc (jw64 (v14 * t16)) (jw64 (v19 * t21)) ≤ 0 := c25
                show jGo E l 139 229 229 _ 83 [.inr (.inr (.inl 176)), .inl a1, .inl x2, .inl x3] [] 229 jr0 g
                refine jGo_blk qX12_worst_83 ?_
                have e26 : jw32 (x3 + 1) = x3 + 1 := jzj32 (by omega)
                show jGo E l 139 229 229 _ 20 [.inr (.inr (.inl 176)), .inl a1, .inl x2, .inl (jw32 (x3 + 1))] [] 229 jr0 g
                exact ih x2 (jw32 (x3 + 1)) g (by omega) (by omega) (by have y9 : g = h := hx3; subst y9; rw [show jw32 (x3 + 1) = x3 + 1 by omega, jWst_s (by omega), ← hx1]; subst zt21 ev19 zt16 ev14 ev8 ev4 ev1; exact (if_neg (fun q => by omega)).symm) (by omega) (by exact hx3) hf (by omega)
              · replace c25 : 0 < jlc (jw64 (v14 * t16)) (jw64 (v19 * t21)) := by first | exact c25 | exact Int.not_le.mp c25 | exact Int.not_lt.mp c25 | exact Decidable.not_not.mp c25
                show jGo E l 139 229 229 _ 81 [.inr (.inr (.inl 176)), .inl a1, .inl x2, .inl x3] [] 229 jr0 g
                refine jGo_blk qX12_worst_81 ?_
                show jGo E l 139 229 229 _ 83 [.inr (.inr (.inl 176)), .inl a1, .inl x3, .inl x3] [] 229 jr0 g
                refine jGo_blk qX12_worst_83 ?_
                have e27 : jw32 (x3 + 1) = x3 + 1 := jzj32 (by omega)
                show jGo E l 139 229 229 _ 20 [.inr (.inr (.inl 176)), .inl a1, .inl x3, .inl (jw32 (x3 + 1))] [] 229 jr0 g
                exact ih x3 (jw32 (x3 + 1)) g (by omega) (by omega) (by have y9 : g = h := hx3; subst y9; rw [show jw32 (x3 + 1) = x3 + 1 by omega, jWst_s (by omega), ← hx1]; subst zt21 ev19 zt16 ev14 ev8 ev4 ev1; exact (if_pos (by omega)).symm) (by omega) (by exact hx3) hf (by omega)
  refine jGo_blk qX12_worst_0 ?_
  refine st_cs (na := 3) (st := [.inl 5, .inl 0, .inl a1]) rfl rfl rfl (c_X12_in a1 0 5 h) rfl ?_
  rintro _ _ _ ⟨rfl, rfl, t28, rfl, ht28, zt28⟩ kt28
  replace kt28 : -2147483648 ≤ t28 ∧ t28 ≤ 2147483647 := kt28
  replace ht28 : 0 ≤ t28 ∧ t28 ≤ 1 := ht28
  replace zt28 : (t28 = 1 ∧ (0 : Int) ≤ a1 ∧ a1 ≤ (5 : Int)) ∨ (t28 = 0 ∧ ¬ ((0 : Int) ≤ a1 ∧ a1 ≤ (5 : Int))) := zt28
  refine And.intro (fun c30 => ?_) (fun c30 => ?_)
  · replace c30 : ¬ t28 = 0 := c30
    show jGo E l 139 229 229 _ 15 [.inr (.inr (.inl 176)), .inl a1, .inr (.inr (.inr ())), .inr (.inr (.inr ()))] [] 229 jr0 h
    refine jGo_blk qX12_worst_15 ?_
    show jGo E l 139 229 229 _ 20 [.inr (.inr (.inl 176)), .inl a1, .inl (-9), .inl 0] [] 229 jr0 h
    exact (key 1000000000000) (-9) 0 h (by omega) (by omega) (by rfl) (by omega) (by rfl) f0 (by omega)
  · replace c30 : t28 = 0 := by first | exact c30 | exact Int.not_le.mp c30 | exact Int.not_lt.mp c30 | exact Decidable.not_not.mp c30
    refine st_cv (na := 1) (st := [.inl (-1), .inr (.inr (.inl 176))]) jo_176 rfl rfl rfl (c_X12_refuse (-1) h (by omega)) rfl ?_
    rintro _ _ g32 ⟨rfl, ft31, t31, rfl, ht31, zt31⟩ kt31
    replace kt31 : -2147483648 ≤ t31 ∧ t31 ≤ 2147483647 := kt31
    replace ht31 : -7 ≤ t31 ∧ t31 ≤ -1 := ht31
    have fg32 : jfr w_X12_worst h g32 := jfr_tr f0 ft31 ws_X12_refuse__X12_worst
    replace zt31 : t31 = (-1 : Int) := zt31
    exact st_r0 (ls := []) ⟨rfl, rfl, fg32, t31, rfl, (by omega), (by unfold P_X12_worst; omega)⟩
