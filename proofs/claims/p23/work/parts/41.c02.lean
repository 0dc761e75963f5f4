def w_X12_copy (i k : Int) : Prop := (i = 180) ∨ (219 ≤ i ∧ i ≤ 220)
def k_X12_copy (a1 : Int) (a2 : Int) (a3 : Int) (a4 : Int) (a5 : Int) (h : JH) (v : Option JV) (r' g : JH) : Prop := r' = jr0 ∧ jfr w_X12_copy h g ∧ ∃ x : Int, v = some (.inl x) ∧ (-7 ≤ x ∧ x ≤ 30) ∧ (P_X12_copy a1 a2 a3 a4 a5 x h g)
set_option maxHeartbeats 4000000 in
theorem c_X12_copy {E : JE} {l : Launch} (a1 : Int) (a2 : Int) (a3 : Int) (a4 : Int) (a5 : Int) (h : JH) : jMt E l 33 [.inr (.inr (.inl 176)), .inl a1, .inl a2, .inl a3, .inl a4, .inl a5] 229 jr0 h (k_X12_copy a1 a2 a3 a4 a5 h) := by
  refine jMt0 (nL := 7) (ls := [.inr (.inr (.inl 176)), .inl a1, .inl a2, .inl a3, .inl a4, .inl a5, .inr (.inr (.inr ()))]) (by decide +kernel) (by decide +kernel) (by decide +kernel) rfl rfl ?_
  have f0 : jfr w_X12_copy h h := jfr_rf _ _
  have key : ∀ N : Nat, (∀ (x6 : Int) (g : JH), (0 ≤ a1 ∧ a1 ≤ 3 ∧ 0 ≤ a2 ∧ a2 ≤ 30 ∧ 0 ≤ a3 ∧ a3 ≤ 3 ∧ 0 ≤ a4 ∧ a4 ≤ 30 ∧ 0 ≤ a5 ∧ a5 ≤ 30 ∧ 0 ≤ x6 ∧ x6 ≤ 30) → (0 ≤ a2 ∧ 0 ≤ a4 ∧ 0 ≤ a5 ∧ a2 + a5 ≤ h 179 a1 ∧ a4 + a5 ≤ h 179 a3 ∧ h 179 a1 ≤ 30 ∧ h 179 a3 ≤ 30 ∧ x6 ≤ a5 ∧ 0 ≤ a1 ∧ a1 < 4 ∧ 0 ≤ a3 ∧ a3 < 4) → ((∀ k : Int, 0 ≤ k → k < x6 → g 220 k = h 180 (30 * a1 + a2 + k)) ∧ ∀ k : Int, g 180 k = h 180 k) → jfr w_X12_copy h g → (30 - x6) + 20000 < (N : Int) → jGo E l 33 229 229 (jRK (k_X12_copy a1 a2 a3 a4 a5 h)) 107 [.inr (.inr (.inl 176)), .inl a1, .inl a2, .inl a3, .inl a4, .inl a5, .inl x6] [] 229 jr0 g) ∧
      (∀ (x6 : Int) (g : JH), (0 ≤ a1 ∧ a1 ≤ 3 ∧ 0 ≤ a2 ∧ a2 ≤ 30 ∧ 0 ≤ a3 ∧ a3 ≤ 3 ∧ 0 ≤ a4 ∧ a4 ≤ 30 ∧ 0 ≤ a5 ∧ a5 ≤ 30 ∧ 0 ≤ x6 ∧ x6 ≤ 30) → (0 ≤ a2 ∧ 0 ≤ a4 ∧ 0 ≤ a5 ∧ a2 + a5 ≤ h 179 a1 ∧ a4 + a5 ≤ h 179 a3 ∧ h 179 a1 ≤ 30 ∧ h 179 a3 ≤ 30 ∧ x6 ≤ a5 ∧ 0 ≤ a1 ∧ a1 < 4 ∧ 0 ≤ a3 ∧ a3 < 4) → ((∀ k : Int, 0 ≤ k → k < a5 → g 220 k = h 180 (30 * a1 + a2 + k)) ∧ (∀ k : Int, 30 * a3 + a4 ≤ k → k < 30 * a3 + a4 + x6 → g 180 k = h 180 (30 * a1 + a2 + (k - (30 * a3 + a4)))) ∧ ∀ k : Int, ¬ (30 * a3 + a4 ≤ k ∧ k < 30 * a3 + a4 + x6) → g 180 k = h 180 k) → jfr w_X12_copy h g → (30 - x6) < (N : Int) → jGo E l 33 229 229 (jRK (k_X12_copy a1 a2 a3 a4 a5 h)) 144 [.inr (.inr (.inl 176)), .inl a1, .inl a2, .inl a3, .inl a4, .inl a5, .inl x6] [] 229 jr0 g) := by
    intro N
    induction N with
    | zero => exact ⟨fun _ _ hi hx0 hx1 _ hN => absurd hN (by omega), fun _ _ hi hx0 hx1 _ hN => absurd hN (by omega)⟩
    | succ N ih =>
      refine ⟨?_, ?_⟩
      · intro x6 g hi hx0 hx1 hf hN
        refine jGo_blk qX12_copy_107 ?_
        refine And.intro (fun c1 => ?_) (fun c1 => ?_)
        · replace c1 : a5 ≤ x6 := c1
          show jGo E l 33 229 229 _ 141 [.inr (.inr (.inl 176)), .inl a1, .inl a2, .inl a3, .inl a4, .inl a5, .inl x6] [] 229 jr0 g
          refine jGo_blk qX12_copy_141 ?_
          show jGo E l 33 229 229 _ 144 [.inr (.inr (.inl 176)), .inl a1, .inl a2, .inl a3, .inl a4, .inl a5, .inl 0] [] 229 jr0 g
          exact ih.2 0 g (by omega) (by omega) (by exact ⟨fun k p1 p2 => hx1.1 k p1 (by omega), fun k p1 p2 => absurd p2 (by omega), fun k _ => hx1.2 k⟩) hf (by omega)
        · replace c1 : x6 < a5 := by first | exact c1 | exact Int.not_le.mp c1 | exact Int.not_lt.mp c1 | exact Decidable.not_not.mp c1
          refine st_gr jo_176 jr_176_51 ?_
          refine st_gr jo_176 jr_176_4 ?_
          have e2 : jw32 (30 * a1) = 30 * a1 := j32e (by omega) (by omega)
          have e3 : jw32 ((jw32 (30 * a1)) + a2) = (jw32 (30 * a1)) + a2 := j32e (by omega) (by omega)
          have e4 : jw32 ((jw32 ((jw32 (30 * a1)) + a2)) + x6) = (jw32 ((jw32 (30 * a1)) + a2)) + x6 := j32e (by omega) (by omega)
          refine st_ai jo_180 (show 0 ≤ jw32 ((jw32 ((jw32 (30 * a1)) + a2)) + x6) by omega) (show jw32 ((jw32 ((jw32 (30 * a1)) + a2)) + x6) < ((120 : Nat) : Int) by omega) (fun v5 ev5 b6 => ?_)
          replace ev5 : v5 = g 180 (jw32 ((jw32 ((jw32 (30 * a1)) + a2)) + x6)) := ev5
          replace b6 := (jba_180 (jw32 ((jw32 ((jw32 (30 * a1)) + a2)) + x6)) _).1 b6
          refine st_si jo_220 (show 0 ≤ x6 by omega) (show x6 < ((30 : Nat) : Int) by omega) (fun hx => (jba_220 _ _).2 (show 0 ≤ v5 ∧ v5 ≤ 400 by omega)) (fun g7 eg7 => ?_)
          replace eg7 : g7 = jup g 220 x6 v5 := eg7
          have fg7 : jfr w_X12_copy h g7 := jfr_up hf eg7 (by unfold w_X12_copy; omega)
          have e8 : g7 220 x6 = v5 := jup_s eg7
          have e9 : jw32 (x6 + 1) = x6 + 1 := j32e (by omega) (by omega)
          show jGo E l 33 229 229 _ 107 [.inr (.inr (.inl 176)), .inl a1, .inl a2, .inl a3, .inl a4, .inl a5, .inl (jw32 (x6 + 1))] [] 229 jr0 g7
          have hc10 : (∀ k : Int, 0 ≤ k → k < jw32 (x6 + 1) → g7 220 k = h 180 (30 * a1 + a2 + k)) ∧ ∀ k : Int, g7 180 k = h 180 k := by
            refine ⟨fun k p1 p2 => ?_, fun k => (jup_o eg7 (by omega)).trans (hx1.2 k)⟩
            by_cases z : k = x6
            · rw [z]; exact (jup_s eg7).trans (ev5.trans ((hx1.2 _).trans (congrArg (h 180) (show jw32 ((jw32 ((jw32 (30 * a1)) + a2)) + x6) = 30 * a1 + a2 + x6 by omega))))
            · exact (jup_o eg7 (by omega)).trans (hx1.1 k p1 (by omega))
          exact ih.1 (jw32 (x6 + 1)) g7 (by omega) (by omega) (by exact hc10) fg7 (by omega)
      · intro x6 g hi hx0 hx1 hf hN
        refine jGo_blk qX12_copy_144 ?_
        refine And.intro (fun c11 => ?_) (fun c11 => ?_)
        · replace c11 : a5 ≤ x6 := c11
          show jGo E l 33 229 229 _ 179 [.inr (.inr (.inl 176)), .inl a1, .inl a2, .inl a3, .inl a4, .inl a5, .inl x6] [] 229 jr0 g
          refine jGo_blk qX12_copy_179 ?_
          exact st_r0 (ls := []) ⟨rfl, rfl, hf, a5, rfl, (by omega), (by unfold P_X12_copy; exact Or.inr (Or.inr (Or.inr ⟨by omega, ⟨fun k p1 p2 => hx1.2.1 k p1 (by omega), fun k p3 => hx1.2.2 k (by omega)⟩⟩)))⟩
        · replace c11 : x6 < a5 := by first | exact c11 | exact Int.not_le.mp c11 | exact Int.not_lt.mp c11 | exact Decidable.not_not.mp c11
          refine st_gr jo_176 jr_176_4 ?_
          have e12 : jw32 (30 * a3) = 30 * a3 := j32e (by omega) (by omega)
          have e13 : jw32 ((jw32 (30 * a3)) + a4) = (jw32 (30 * a3)) + a4 := j32e (by omega) (by omega)
          have e14 : jw32 ((jw32 ((jw32 (30 * a3)) + a4)) + x6) = (jw32 ((jw32 (30 * a3)) + a4)) + x6 := j32e (by omega) (by omega)
          refine st_gr jo_176 jr_176_51 ?_
          refine st_ai jo_220 (show 0 ≤ x6 by omega) (show x6 < ((30 : Nat) : Int) by omega) (fun v15 ev15 b16 => ?_)
          replace ev15 : v15 = g 220 x6 := ev15
          replace b16 := (jba_220 x6 _).1 b16
          refine st_si jo_180 (show 0 ≤ jw32 ((jw32 ((jw32 (30 * a3)) + a4)) + x6) by omega) (show jw32 ((jw32 ((jw32 (30 * a3)) + a4)) + x6) < ((120 : Nat) : Int) by omega) (fun hx => (jba_180 _ _).2 (show 0 ≤ v15 ∧ v15 ≤ 400 by omega)) (fun g17 eg17 => ?_)
          replace eg17 : g17 = jup g 180 (jw32 ((jw32 ((jw32 (30 * a3)) + a4)) + x6)) v15 := eg17
          have fg17 : jfr w_X12_copy h g17 := jfr_up hf eg17 (by unfold w_X12_copy; omega)
          have e18 : g17 180 (jw32 ((jw32 ((jw32 (30 * a3)) + a4)) + x6)) = v15 := jup_s eg17
          have e19 : jw32 (x6 + 1) = x6 + 1 := j32e (by omega) (by omega)
          show jGo E l 33 229 229 _ 144 [.inr (.inr (.inl 176)), .inl a1, .inl a2, .inl a3, .inl a4, .inl a5, .inl (jw32 (x6 + 1))] [] 229 jr0 g17
          have hc20 : (∀ k : Int, 0 ≤ k → k < a5 → g17 220 k = h 180 (30 * a1 + a2 + k)) ∧ (∀ k : Int, 30 * a3 + a4 ≤ k → k < 30 * a3 + a4 + jw32 (x6 + 1) → g17 180 k = h 180 (30 * a1 + a2 + (k - (30 * a3 + a4)))) ∧ ∀ k : Int, ¬ (30 * a3 + a4 ≤ k ∧ k < 30 * a3 + a4 + jw32 (x6 + 1)) → g17 180 k = h 180 k := by
            refine ⟨fun k p1 p2 => (jup_o eg17 (by omega)).trans (hx1.1 k p1 p2), fun k p1 p2 => ?_, fun k p => (jup_o eg17 (by omega)).trans (hx1.2.2 k (by omega))⟩
            by_cases z : k = jw32 ((jw32 ((jw32 (30 * a3)) + a4)) + x6)
            · rw [z]; exact (jup_s eg17).trans (ev15.trans ((hx1.1 x6 (by omega) (by omega)).trans (congrArg (h 180) (show 30 * a1 + a2 + x6 = 30 * a1 + a2 + (jw32 ((jw32 ((jw32 (30 * a3)) + a4)) + x6) - (30 * a3 + a4)) by omega))))
            · exact (jup_o eg17 (by omega)).trans (hx1.2.1 k p1 (by omega))
          exact ih.2 (jw32 (x6 + 1)) g17 (by omega) (by omega) (by exact hc20) fg17 (by omega)
  refine jGo_blk qX12_copy_0 ?_
  refine st_cs (na := 3) (st := [.inl 3, .inl 0, .inl a1]) rfl rfl rfl (c_X12_in a1 0 3 h) rfl ?_
  rintro _ _ _ ⟨rfl, rfl, t21, rfl, ht21, zt21⟩ kt21
  replace kt21 : -2147483648 ≤ t21 ∧ t21 ≤ 2147483647 := kt21
  replace ht21 : 0 ≤ t21 ∧ t21 ≤ 1 := ht21
  replace zt21 : (t21 = 1 ∧ (0 : Int) ≤ a1 ∧ a1 ≤ (3 : Int)) ∨ (t21 = 0 ∧ ¬ ((0 : Int) ≤ a1 ∧ a1 ≤ (3 : Int))) := zt21
  refine And.intro (fun c23 => ?_) (fun c23 => ?_)
  · replace c23 : t21 = 0 := c23
    show jGo E l 33 229 229 _ 18 [.inr (.inr (.inl 176)), .inl a1, .inl a2, .inl a3, .inl a4, .inl a5, .inr (.inr (.inr ()))] [] 229 jr0 h
    refine jGo_blk qX12_copy_18 ?_
    refine st_cv (na := 1) (st := [.inl (-1), .inr (.inr (.inl 176))]) jo_176 rfl rfl rfl (c_X12_refuse (-1) h (by omega)) rfl ?_
    rintro _ _ g25 ⟨rfl, ft24, t24, rfl, ht24, zt24⟩ kt24
    replace kt24 : -2147483648 ≤ t24 ∧ t24 ≤ 2147483647 := kt24
    replace ht24 : -7 ≤ t24 ∧ t24 ≤ -1 := ht24
    have fg25 : jfr w_X12_copy h g25 := jfr_tr f0 ft24 (fun i k q => by unfold w_X12_refuse at q; unfold w_X12_copy; omega)
    replace zt24 : t24 = (-1 : Int) := zt24
    have hs26 : ∀ i k : Int, 180 ≤ i → i ≤ 180 → g25 i k = h i k := fun i k p1 p2 => (ft24 i k (by unfold w_X12_refuse; omega))
    exact st_r0 (ls := []) ⟨rfl, rfl, fg25, t24, rfl, (by omega), (by unfold P_X12_copy; by_cases zz : t24 = -4 <;> first | exact Or.inl ⟨by omega, hs26⟩ | exact Or.inr (Or.inl ⟨by omega, hs26⟩) | exact Or.inr (Or.inr (Or.inl ⟨by omega, hs26⟩)))⟩
  · replace c23 : ¬ t21 = 0 := by first | exact c23 | exact Int.not_le.mp c23 | exact Int.not_lt.mp c23 | exact Decidable.not_not.mp c23
    refine st_cs (na := 3) (st := [.inl 3, .inl 0, .inl a3]) rfl rfl rfl (c_X12_in a3 0 3 h) rfl ?_
    rintro _ _ _ ⟨rfl, rfl, t27, rfl, ht27, zt27⟩ kt27
    replace kt27 : -2147483648 ≤ t27 ∧ t27 ≤ 2147483647 := kt27
    replace ht27 : 0 ≤ t27 ∧ t27 ≤ 1 := ht27
    replace zt27 : (t27 = 1 ∧ (0 : Int) ≤ a3 ∧ a3 ≤ (3 : Int)) ∨ (t27 = 0 ∧ ¬ ((0 : Int) ≤ a3 ∧ a3 ≤ (3 : Int))) := zt27
    refine And.intro (fun c29 => ?_) (fun c29 => ?_)
    · replace c29 : ¬ t27 = 0 := c29
      show jGo E l 33 229 229 _ 24 [.inr (.inr (.inl 176)), .inl a1, .inl a2, .inl a3, .inl a4, .inl a5, .inr (.inr (.inr ()))] [] 229 jr0 h
      refine jGo_blk qX12_copy_24 ?_
      refine st_gr jo_176 jr_176_3 ?_
      refine st_ai jo_179 (show 0 ≤ a1 by omega) (show a1 < ((4 : Nat) : Int) by omega) (fun v30 ev30 b31 => ?_)
      replace ev30 : v30 = h 179 a1 := ev30
      replace b31 := (jba_179 a1 _).1 b31
      refine And.intro (fun c32 => ?_) (fun c32 => ?_)
      · replace c32 : v30 < 0 := c32
        show jGo E l 33 229 229 _ 42 [.inr (.inr (.inl 176)), .inl a1, .inl a2, .inl a3, .inl a4, .inl a5, .inr (.inr (.inr ()))] [] 229 jr0 h
        refine jGo_blk qX12_copy_42 ?_
        refine st_cv (na := 1) (st := [.inl (-5), .inr (.inr (.inl 176))]) jo_176 rfl rfl rfl (c_X12_refuse (-5) h (by omega)) rfl ?_
        rintro _ _ g34 ⟨rfl, ft33, t33, rfl, ht33, zt33⟩ kt33
        replace kt33 : -2147483648 ≤ t33 ∧ t33 ≤ 2147483647 := kt33
        replace ht33 : -7 ≤ t33 ∧ t33 ≤ -1 := ht33
        have fg34 : jfr w_X12_copy h g34 := jfr_tr f0 ft33 (fun i k q => by unfold w_X12_refuse at q; unfold w_X12_copy; omega)
        replace zt33 : t33 = (-5 : Int) := zt33
        have hs35 : ∀ i k : Int, 180 ≤ i → i ≤ 180 → g34 i k = h i k := fun i k p1 p2 => (ft33 i k (by unfold w_X12_refuse; omega))
        exact st_r0 (ls := []) ⟨rfl, rfl, fg34, t33, rfl, (by omega), (by unfold P_X12_copy; by_cases zz : t33 = -4 <;> first | exact Or.inl ⟨by omega, hs35⟩ | exact Or.inr (Or.inl ⟨by omega, hs35⟩) | exact Or.inr (Or.inr (Or.inl ⟨by omega, hs35⟩)))⟩
      · replace c32 : 0 ≤ v30 := by first | exact c32 | exact Int.not_le.mp c32 | exact Int.not_lt.mp c32 | exact Decidable.not_not.mp c32
        refine st_gr jo_176 jr_176_3 ?_
        refine st_ai jo_179 (show 0 ≤ a3 by omega) (show a3 < ((4 : Nat) : Int) by omega) (fun v36 ev36 b37 => ?_)
        replace ev36 : v36 = h 179 a3 := ev36
        replace b37 := (jba_179 a3 _).1 b37
        refine And.intro (fun c38 => ?_) (fun c38 => ?_)
        · replace c38 : 0 ≤ v36 := c38
          show jGo E l 33 229 229 _ 49 [.inr (.inr (.inl 176)), .inl a1, .inl a2, .inl a3, .inl a4, .inl a5, .inr (.inr (.inr ()))] [] 229 jr0 h
          refine jGo_blk qX12_copy_49 ?_
          refine And.intro (fun c39 => ?_) (fun c39 => ?_)
          · replace c39 : a5 < 0 := c39
            show jGo E l 33 229 229 _ 97 [.inr (.inr (.inl 176)), .inl a1, .inl a2, .inl a3, .inl a4, .inl a5, .inr (.inr (.inr ()))] [] 229 jr0 h
            refine jGo_blk qX12_copy_97 ?_
            refine st_cv (na := 1) (st := [.inl (-7), .inr (.inr (.inl 176))]) jo_176 rfl rfl rfl (c_X12_refuse (-7) h (by omega)) rfl ?_
            rintro _ _ g41 ⟨rfl, ft40, t40, rfl, ht40, zt40⟩ kt40
            replace kt40 : -2147483648 ≤ t40 ∧ t40 ≤ 2147483647 := kt40
            replace ht40 : -7 ≤ t40 ∧ t40 ≤ -1 := ht40
            have fg41 : jfr w_X12_copy h g41 := jfr_tr f0 ft40 (fun i k q => by unfold w_X12_refuse at q; unfold w_X12_copy; omega)
            replace zt40 : t40 = (-7 : Int) := zt40
            have hs42 : ∀ i k : Int, 180 ≤ i → i ≤ 180 → g41 i k = h i k := fun i k p1 p2 => (ft40 i k (by unfold w_X12_refuse; omega))
            exact st_r0 (ls := []) ⟨rfl, rfl, fg41, t40, rfl, (by omega), (by unfold P_X12_copy; by_cases zz : t40 = -4 <;> first | exact Or.inl ⟨by omega, hs42⟩ | exact Or.inr (Or.inl ⟨by omega, hs42⟩) | exact Or.inr (Or.inr (Or.inl ⟨by omega, hs42⟩)))⟩
          · replace c39 : 0 ≤ a5 := by first | exact c39 | exact Int.not_le.mp c39 | exact Int.not_lt.mp c39 | exact Decidable.not_not.mp c39
            refine And.intro (fun c43 => ?_) (fun c43 => ?_)
            · replace c43 : 30 < a5 := c43
              show jGo E l 33 229 229 _ 97 [.inr (.inr (.inl 176)), .inl a1, .inl a2, .inl a3, .inl a4, .inl a5, .inr (.inr (.inr ()))] [] 229 jr0 h
              refine jGo_blk qX12_copy_97 ?_
              refine st_cv (na := 1) (st := [.inl (-7), .inr (.inr (.inl 176))]) jo_176 rfl rfl rfl (c_X12_refuse (-7) h (by omega)) rfl ?_
              rintro _ _ g45 ⟨rfl, ft44, t44, rfl, ht44, zt44⟩ kt44
              replace kt44 : -2147483648 ≤ t44 ∧ t44 ≤ 2147483647 := kt44
              replace ht44 : -7 ≤ t44 ∧ t44 ≤ -1 := ht44
              have fg45 : jfr w_X12_copy h g45 := jfr_tr f0 ft44 (fun i k q => by unfold w_X12_refuse at q; unfold w_X12_copy; omega)
              replace zt44 : t44 = (-7 : Int) := zt44
              have hs46 : ∀ i k : Int, 180 ≤ i → i ≤ 180 → g45 i k = h i k := fun i k p1 p2 => (ft44 i k (by unfold w_X12_refuse; omega))
              exact st_r0 (ls := []) ⟨rfl, rfl, fg45, t44, rfl, (by omega), (by unfold P_X12_copy; by_cases zz : t44 = -4 <;> first | exact Or.inl ⟨by omega, hs46⟩ | exact Or.inr (Or.inl ⟨by omega, hs46⟩) | exact Or.inr (Or.inr (Or.inl ⟨by omega, hs46⟩)))⟩
            · replace c43 : a5 ≤ 30 := by first | exact c43 | exact Int.not_le.mp c43 | exact Int.not_lt.mp c43 | exact Decidable.not_not.mp c43
              refine And.intro (fun c47 => ?_) (fun c47 => ?_)
              · replace c47 : a2 < 0 := c47
                show jGo E l 33 229 229 _ 97 [.inr (.inr (.inl 176)), .inl a1, .inl a2, .inl a3, .inl a4, .inl a5, .inr (.inr (.inr ()))] [] 229 jr0 h
                refine jGo_blk qX12_copy_97 ?_
                refine st_cv (na := 1) (st := [.inl (-7), .inr (.inr (.inl 176))]) jo_176 rfl rfl rfl (c_X12_refuse (-7) h (by omega)) rfl ?_
                rintro _ _ g49 ⟨rfl, ft48, t48, rfl, ht48, zt48⟩ kt48
                replace kt48 : -2147483648 ≤ t48 ∧ t48 ≤ 2147483647 := kt48
                replace ht48 : -7 ≤ t48 ∧ t48 ≤ -1 := ht48
                have fg49 : jfr w_X12_copy h g49 := jfr_tr f0 ft48 (fun i k q => by unfold w_X12_refuse at q; unfold w_X12_copy; omega)
                replace zt48 : t48 = (-7 : Int) := zt48
                have hs50 : ∀ i k : Int, 180 ≤ i → i ≤ 180 → g49 i k = h i k := fun i k p1 p2 => (ft48 i k (by unfold w_X12_refuse; omega))
                exact st_r0 (ls := []) ⟨rfl, rfl, fg49, t48, rfl, (by omega), (by unfold P_X12_copy; by_cases zz : t48 = -4 <;> first | exact Or.inl ⟨by omega, hs50⟩ | exact Or.inr (Or.inl ⟨by omega, hs50⟩) | exact Or.inr (Or.inr (Or.inl ⟨by omega, hs50⟩)))⟩
              · replace c47 : 0 ≤ a2 := by first | exact c47 | exact Int.not_le.mp c47 | exact Int.not_lt.mp c47 | exact Decidable.not_not.mp c47
                refine And.intro (fun c51 => ?_) (fun c51 => ?_)
                · replace c51 : a4 < 0 := c51
                  show jGo E l 33 229 229 _ 97 [.inr (.inr (.inl 176)), .inl a1, .inl a2, .inl a3, .inl a4, .inl a5, .inr (.inr (.inr ()))] [] 229 jr0 h
                  refine jGo_blk qX12_copy_97 ?_
                  refine st_cv (na := 1) (st := [.inl (-7), .inr (.inr (.inl 176))]) jo_176 rfl rfl rfl (c_X12_refuse (-7) h (by omega)) rfl ?_
                  rintro _ _ g53 ⟨rfl, ft52, t52, rfl, ht52, zt52⟩ kt52
                  replace kt52 : -2147483648 ≤ t52 ∧ t52 ≤ 2147483647 := kt52
                  replace ht52 : -7 ≤ t52 ∧ t52 ≤ -1 := ht52
                  have fg53 : jfr w_X12_copy h g53 := jfr_tr f0 ft52 (fun i k q => by unfold w_X12_refuse at q; unfold w_X12_copy; omega)
                  replace zt52 : t52 = (-7 : Int) := zt52
                  have hs54 : ∀ i k : Int, 180 ≤ i → i ≤ 180 → g53 i k = h i k := fun i k p1 p2 => (ft52 i k (by unfold w_X12_refuse; omega))
                  exact st_r0 (ls := []) ⟨rfl, rfl, fg53, t52, rfl, (by omega), (by unfold P_X12_copy; by_cases zz : t52 = -4 <;> first | exact Or.inl ⟨by omega, hs54⟩ | exact Or.inr (Or.inl ⟨by omega, hs54⟩) | exact Or.inr (Or.inr (Or.inl ⟨by omega, hs54⟩)))⟩
                · replace c51 : 0 ≤ a4 := by first | exact c51 | exact Int.not_le.mp c51 | exact Int.not_lt.mp c51 | exact Decidable.not_not.mp c51
                  refine st_gr jo_176 jr_176_3 ?_
                  refine st_ai jo_179 (show 0 ≤ a1 by omega) (show a1 < ((4 : Nat) : Int) by omega) (fun v55 ev55 b56 => ?_)
                  replace ev55 : v55 = h 179 a1 := ev55
                  replace b56 := (jba_179 a1 _).1 b56
                  have e57 : jw32 (v55 - a5) = v55 - a5 := j32e (by omega) (by omega)
                  refine And.intro (fun c58 => ?_) (fun c58 => ?_)
                  · replace c58 : jw32 (v55 - a5) < a2 := c58
                    show jGo E l 33 229 229 _ 97 [.inr (.inr (.inl 176)), .inl a1, .inl a2, .inl a3, .inl a4, .inl a5, .inr (.inr (.inr ()))] [] 229 jr0 h
                    refine jGo_blk qX12_copy_97 ?_
                    refine st_cv (na := 1) (st := [.inl (-7), .inr (.inr (.inl 176))]) jo_176 rfl rfl rfl (c_X12_refuse (-7) h (by omega)) rfl ?_
                    rintro _ _ g60 ⟨rfl, ft59, t59, rfl, ht59, zt59⟩ kt59
                    replace kt59 : -2147483648 ≤ t59 ∧ t59 ≤ 2147483647 := kt59
                    replace ht59 : -7 ≤ t59 ∧ t59 ≤ -1 := ht59
                    have fg60 : jfr w_X12_copy h g60 := jfr_tr f0 ft59 (fun i k q => by unfold w_X12_refuse at q; unfold w_X12_copy; omega)
                    replace zt59 : t59 = (-7 : Int) := zt59
                    have hs61 : ∀ i k : Int, 180 ≤ i → i ≤ 180 → g60 i k = h i k := fun i k p1 p2 => (ft59 i k (by unfold w_X12_refuse; omega))
                    exact st_r0 (ls := []) ⟨rfl, rfl, fg60, t59, rfl, (by omega), (by unfold P_X12_copy; by_cases zz : t59 = -4 <;> first | exact Or.inl ⟨by omega, hs61⟩ | exact Or.inr (Or.inl ⟨by omega, hs61⟩) | exact Or.inr (Or.inr (Or.inl ⟨by omega, hs61⟩)))⟩
                  · replace c58 : a2 ≤ jw32 (v55 - a5) := by first | exact c58 | exact Int.not_le.mp c58 | exact Int.not_lt.mp c58 | exact Decidable.not_not.mp c58
                    refine st_gr jo_176 jr_176_3 ?_
                    refine st_ai jo_179 (show 0 ≤ a3 by omega) (show a3 < ((4 : Nat) : Int) by omega) (fun v62 ev62 b63 => ?_)
                    replace ev62 : v62 = h 179 a3 := ev62
                    replace b63 := (jba_179 a3 _).1 b63
                    have e64 : jw32 (v62 - a5) = v62 - a5 := j32e (by omega) (by omega)
                    refine And.intro (fun c65 => ?_) (fun c65 => ?_)
                    · replace c65 : a4 ≤ jw32 (v62 - a5) := c65
                      show jGo E l 33 229 229 _ 104 [.inr (.inr (.inl 176)), .inl a1, .inl a2, .inl a3, .inl a4, .inl a5, .inr (.inr (.inr ()))] [] 229 jr0 h
                      refine jGo_blk qX12_copy_104 ?_
                      show jGo E l 33 229 229 _ 107 [.inr (.inr (.inl 176)), .inl a1, .inl a2, .inl a3, .inl a4, .inl a5, .inl 0] [] 229 jr0 h
                      exact (key 1000000000000).1 0 h (by omega) (by omega) (by exact ⟨fun k p1 p2 => absurd p2 (by omega), fun k => rfl⟩) f0 (by omega)
                    · replace c65 : jw32 (v62 - a5) < a4 := by first | exact c65 | exact Int.not_le.mp c65 | exact Int.not_lt.mp c65 | exact Decidable.not_not.mp c65
                      show jGo E l 33 229 229 _ 97 [.inr (.inr (.inl 176)), .inl a1, .inl a2, .inl a3, .inl a4, .inl a5, .inr (.inr (.inr ()))] [] 229 jr0 h
                      refine jGo_blk qX12_copy_97 ?_
                      refine st_cv (na := 1) (st := [.inl (-7), .inr (.inr (.inl 176))]) jo_176 rfl rfl rfl (c_X12_refuse (-7) h (by omega)) rfl ?_
                      rintro _ _ g67 ⟨rfl, ft66, t66, rfl, ht66, zt66⟩ kt66
                      replace kt66 : -2147483648 ≤ t66 ∧ t66 ≤ 2147483647 := kt66
                      replace ht66 : -7 ≤ t66 ∧ t66 ≤ -1 := ht66
                      have fg67 : jfr w_X12_copy h g67 := jfr_tr f0 ft66 (fun i k q => by unfold w_X12_refuse at q; unfold w_X12_copy; omega)
                      replace zt66 : t66 = (-7 : Int) := zt66
                      have hs68 : ∀ i k : Int, 180 ≤ i → i ≤ 180 → g67 i k = h i k := fun i k p1 p2 => (ft66 i k (by unfold w_X12_refuse; omega))
                      exact st_r0 (ls := []) ⟨rfl, rfl, fg67, t66, rfl, (by omega), (by unfold P_X12_copy; by_cases zz : t66 = -4 <;> first | exact Or.inl ⟨by omega, hs68⟩ | exact Or.inr (Or.inl ⟨by omega, hs68⟩) | exact Or.inr (Or.inr (Or.inl ⟨by omega, hs68⟩)))⟩
        · replace c38 : v36 < 0 := by first | exact c38 | exact Int.not_le.mp c38 | exact Int.not_lt.mp c38 | exact Decidable.not_not.mp c38
          show jGo E l 33 229 229 _ 42 [.inr (.inr (.inl 176)), .inl a1, .inl a2, .inl a3, .inl a4, .inl a5, .inr (.inr (.inr ()))] [] 229 jr0 h
          refine jGo_blk qX12_copy_42 ?_
          refine st_cv (na := 1) (st := [.inl (-5), .inr (.inr (.inl 176))]) jo_176 rfl rfl rfl (c_X12_refuse (-5) h (by omega)) rfl ?_
          rintro _ _ g70 ⟨rfl, ft69, t69, rfl, ht69, zt69⟩ kt69
          replace kt69 : -2147483648 ≤ t69 ∧ t69 ≤ 2147483647 := kt69
          replace ht69 : -7 ≤ t69 ∧ t69 ≤ -1 := ht69
          have fg70 : jfr w_X12_copy h g70 := jfr_tr f0 ft69 (fun i k q => by unfold w_X12_refuse at q; unfold w_X12_copy; omega)
          replace zt69 : t69 = (-5 : Int) := zt69
          have hs71 : ∀ i k : Int, 180 ≤ i → i ≤ 180 → g70 i k = h i k := fun i k p1 p2 => (ft69 i k (by unfold w_X12_refuse; omega))
          exact st_r0 (ls := []) ⟨rfl, rfl, fg70, t69, rfl, (by omega), (by unfold P_X12_copy; by_cases zz : t69 = -4 <;> first | exact Or.inl ⟨by omega, hs71⟩ | exact Or.inr (Or.inl ⟨by omega, hs71⟩) | exact Or.inr (Or.inr (Or.inl ⟨by omega, hs71⟩)))⟩
    · replace c29 : t27 = 0 := by first | exact c29 | exact Int.not_le.mp c29 | exact Int.not_lt.mp c29 | exact Decidable.not_not.mp c29
      show jGo E l 33 229 229 _ 18 [.inr (.inr (.inl 176)), .inl a1, .inl a2, .inl a3, .inl a4, .inl a5, .inr (.inr (.inr ()))] [] 229 jr0 h
      refine jGo_blk qX12_copy_18 ?_
      refine st_cv (na := 1) (st := [.inl (-1), .inr (.inr (.inl 176))]) jo_176 rfl rfl rfl (c_X12_refuse (-1) h (by omega)) rfl ?_
      rintro _ _ g73 ⟨rfl, ft72, t72, rfl, ht72, zt72⟩ kt72
      replace kt72 : -2147483648 ≤ t72 ∧ t72 ≤ 2147483647 := kt72
      replace ht72 : -7 ≤ t72 ∧ t72 ≤ -1 := ht72
      have fg73 : jfr w_X12_copy h g73 := jfr_tr f0 ft72 (fun i k q => by unfold w_X12_refuse at q; unfold w_X12_copy; omega)
      replace zt72 : t72 = (-1 : Int) := zt72
      have hs74 : ∀ i k : Int, 180 ≤ i → i ≤ 180 → g73 i k = h i k := fun i k p1 p2 => (ft72 i k (by unfold w_X12_refuse; omega))
      exact st_r0 (ls := []) ⟨rfl, rfl, fg73, t72, rfl, (by omega), (by unfold P_X12_copy; by_cases zz : t72 = -4 <;> first | exact Or.inl ⟨by omega, hs74⟩ | exact Or.inr (Or.inl ⟨by omega, hs74⟩) | exact Or.inr (Or.inr (Or.inl ⟨by omega, hs74⟩)))⟩

def w_X11_refusedAside (i k : Int) : Prop := (i = 1)
def k_X11_refusedAside (a1 : Int) (h : JH) (v : Option JV) (r' g : JH) : Prop := r' = jr0 ∧ jfr w_X11_refusedAside h g ∧ ∃ x : Int, v = some (.inl x) ∧ (2000000001 ≤ x ∧ x ≤ 2000000007) ∧ (x = 2000000000 - a1)
set_option maxHeartbeats 4000000 in
theorem c_X11_refusedAside {E : JE} {l : Launch} (a1 : Int) (h : JH) (p1 : -7 ≤ a1 ∧ a1 ≤ -1) : jMt E l 34 [.inr (.inr (.inl 0)), .inl a1] 229 jr0 h (k_X11_refusedAside a1 h) := by
  refine jMt0 (nL := 2) (ls := [.inr (.inr (.inl 0)), .inl a1]) (by decide +kernel) (by decide +kernel) (by decide +kernel) rfl rfl ?_
  have f0 : jfr w_X11_refusedAside h h := jfr_rf _ _
  refine jGo_blk qX11_refusedAside_0 ?_
  refine st_cv (na := 1) (st := [.inl a1, .inr (.inr (.inl 0)), .inl 2000000000]) jo_0 rfl rfl rfl (c_X11_refused a1 h (by omega)) rfl ?_
  rintro _ _ g2 ⟨rfl, ft1, t1, rfl, ht1, zt1⟩ kt1
  replace kt1 : -2147483648 ≤ t1 ∧ t1 ≤ 2147483647 := kt1
  replace ht1 : -7 ≤ t1 ∧ t1 ≤ -1 := ht1
  have fg2 : jfr w_X11_refusedAside h g2 := jfr_tr f0 ft1 (fun i k q => by unfold w_X11_refused at q; unfold w_X11_refusedAside; omega)
  replace zt1 : t1 = a1 := zt1
  have e3 : jw32 (2000000000 - t1) = 2000000000 - t1 := j32e (by omega) (by omega)
  exact st_r0 (ls := []) ⟨rfl, rfl, fg2, jw32 (2000000000 - t1), rfl, (by omega), (by omega)⟩

def w_X11_lead (i k : Int) : Prop := (i = 1) ∨ (i = 4) ∨ (i = 111 ∧ 9 ≤ k ∧ k ≤ 11)
def k_X11_lead (a1 : Int) (a2 : Int) (h : JH) (v : Option JV) (r' g : JH) : Prop := r' = jr0 ∧ jfr w_X11_lead h g ∧ ∃ x : Int, v = some (.inl x) ∧ (-1 ≤ x ∧ x ≤ 2000000007) ∧ (P_X11_lead a1 a2 x h g)
set_option maxHeartbeats 4000000 in
theorem c_X11_lead {E : JE} {l : Launch} (a1 : Int) (a2 : Int) (h : JH) : jMt E l 35 [.inr (.inr (.inl 0)), .inl a1, .inl a2] 229 jr0 h (k_X11_lead a1 a2 h) := by
  refine jMt0 (nL := 4) (ls := [.inr (.inr (.inl 0)), .inl a1, .inl a2, .inr (.inr (.inr ()))]) (by decide +kernel) (by decide +kernel) (by decide +kernel) rfl rfl ?_
  have f0 : jfr w_X11_lead h h := jfr_rf _ _
  refine jGo_blk qX11_lead_0 ?_
  refine st_cs (na := 2) (st := [.inl 4, .inl a1]) rfl rfl rfl (c_X11_within a1 4 h) rfl ?_
  rintro _ _ _ ⟨rfl, rfl, t1, rfl, ht1, zt1⟩ kt1
  replace kt1 : -2147483648 ≤ t1 ∧ t1 ≤ 2147483647 := kt1
  replace ht1 : 0 ≤ t1 ∧ t1 ≤ 1 := ht1
  replace zt1 : (t1 = 1 ∧ 0 ≤ a1 ∧ a1 < (4 : Int)) ∨ (t1 = 0 ∧ ¬ (0 ≤ a1 ∧ a1 < (4 : Int))) := zt1
  refine And.intro (fun c3 => ?_) (fun c3 => ?_)
  · replace c3 : t1 = 0 := c3
    show jGo E l 35 229 229 _ 21 [.inr (.inr (.inl 0)), .inl a1, .inl a2, .inr (.inr (.inr ()))] [] 229 jr0 h
    refine jGo_blk qX11_lead_21 ?_
    refine st_cv (na := 1) (st := [.inl (-1), .inr (.inr (.inl 0))]) jo_0 rfl rfl rfl (c_X11_refusedAside (-1) h (by omega)) rfl ?_
    rintro _ _ g5 ⟨rfl, ft4, t4, rfl, ht4, zt4⟩ kt4
    replace kt4 : -2147483648 ≤ t4 ∧ t4 ≤ 2147483647 := kt4
    replace ht4 : 2000000001 ≤ t4 ∧ t4 ≤ 2000000007 := ht4
    have fg5 : jfr w_X11_lead h g5 := jfr_tr f0 ft4 (fun i k q => by unfold w_X11_refusedAside at q; unfold w_X11_lead; omega)
    replace zt4 : t4 = 2000000000 - (-1 : Int) := zt4
    have hs6 : ∀ i k : Int, 4 ≤ i → i ≤ 4 → g5 i k = h i k := fun i k p1 p2 => (ft4 i k (by unfold w_X11_refusedAside; omega))
    exact st_r0 (ls := []) ⟨rfl, rfl, fg5, t4, rfl, (by omega), (by unfold P_X11_lead; by_cases zz : t4 = -4 <;> first | exact Or.inl ⟨by omega, hs6⟩)⟩
  · replace c3 : ¬ t1 = 0 := by first | exact c3 | exact Int.not_le.mp c3 | exact Int.not_lt.mp c3 | exact Decidable.not_not.mp c3
    refine And.intro (fun c7 => ?_) (fun c7 => ?_)
    · replace c7 : a2 = (-1) := c7
      show jGo E l 35 229 229 _ 27 [.inr (.inr (.inl 0)), .inl a1, .inl a2, .inr (.inr (.inr ()))] [] 229 jr0 h
      refine jGo_blk qX11_lead_27 ?_
      refine st_gr jo_0 jr_0_11 ?_
      refine st_cv (na := 0) (st := [.inr (.inr (.inl 111))]) jo_111 rfl rfl rfl (c_X7_forget h) rfl ?_
      rintro _ _ g9 ⟨rfl, ft8, rfl, zt8⟩ kt8
      have fg9 : jfr w_X11_lead h g9 := jfr_tr f0 ft8 (fun i k q => by unfold w_X7_forget at q; unfold w_X11_lead; omega)
      refine st_gr jo_0 jr_0_2 ?_
      refine st_gr jo_2 jr_2_1 ?_
      refine st_ai jo_4 (show 0 ≤ a1 by omega) (show a1 < ((4 : Nat) : Int) by omega) (fun v10 ev10 b11 => ?_)
      replace ev10 : v10 = g9 4 a1 := ev10
      replace b11 := (jba_4 a1 _).1 b11
      refine st_gr jo_0 jr_0_2 ?_
      refine st_gr jo_2 jr_2_1 ?_
      refine st_si jo_4 (show 0 ≤ a1 by omega) (show a1 < ((4 : Nat) : Int) by omega) (fun hx => (jba_4 _ _).2 (show -1 ≤ a2 ∧ a2 ≤ 3 by omega)) (fun g12 eg12 => ?_)
      replace eg12 : g12 = jup g9 4 a1 a2 := eg12
      have fg12 : jfr w_X11_lead h g12 := jfr_up fg9 eg12 (by unfold w_X11_lead; omega)
      have e13 : g12 4 a1 = a2 := jup_s eg12
      have e14 : g9 4 a1 = h 4 a1 := (ft8 4 a1 (by unfold w_X7_forget; omega))
      have hs15 : g12 4 a1 = a2 := by
        exact jup_s eg12
      have hs16 : ∀ i k : Int, 4 ≤ i → i ≤ 4 → ¬ (i = 4 ∧ k = a1) → g12 i k = h i k := fun i k p1 p2 p3 => ((jup_o eg12 (by omega)).trans (ft8 i k (by unfold w_X7_forget; omega)))
      exact st_r0 (ls := []) ⟨rfl, rfl, fg12, v10, rfl, (by omega), (by unfold P_X11_lead; first | exact Or.inr ⟨by omega, ⟨hs15, hs16⟩⟩)⟩
    · replace c7 : ¬ a2 = (-1) := by first | exact c7 | exact Int.not_le.mp c7 | exact Int.not_lt.mp c7 | exact Decidable.not_not.mp c7
      refine st_cs (na := 2) (st := [.inl 4, .inl a2]) rfl rfl rfl (c_X11_within a2 4 h) rfl ?_
      rintro _ _ _ ⟨rfl, rfl, t17, rfl, ht17, zt17⟩ kt17
      replace kt17 : -2147483648 ≤ t17 ∧ t17 ≤ 2147483647 := kt17
      replace ht17 : 0 ≤ t17 ∧ t17 ≤ 1 := ht17
      replace zt17 : (t17 = 1 ∧ 0 ≤ a2 ∧ a2 < (4 : Int)) ∨ (t17 = 0 ∧ ¬ (0 ≤ a2 ∧ a2 < (4 : Int))) := zt17
      refine And.intro (fun c19 => ?_) (fun c19 => ?_)
      · replace c19 : ¬ t17 = 0 := c19
        show jGo E l 35 229 229 _ 27 [.inr (.inr (.inl 0)), .inl a1, .inl a2, .inr (.inr (.inr ()))] [] 229 jr0 h
        refine jGo_blk qX11_lead_27 ?_
        refine st_gr jo_0 jr_0_11 ?_
        refine st_cv (na := 0) (st := [.inr (.inr (.inl 111))]) jo_111 rfl rfl rfl (c_X7_forget h) rfl ?_
        rintro _ _ g21 ⟨rfl, ft20, rfl, zt20⟩ kt20
        have fg21 : jfr w_X11_lead h g21 := jfr_tr f0 ft20 (fun i k q => by unfold w_X7_forget at q; unfold w_X11_lead; omega)
        refine st_gr jo_0 jr_0_2 ?_
        refine st_gr jo_2 jr_2_1 ?_
        refine st_ai jo_4 (show 0 ≤ a1 by omega) (show a1 < ((4 : Nat) : Int) by omega) (fun v22 ev22 b23 => ?_)
        replace ev22 : v22 = g21 4 a1 := ev22
        replace b23 := (jba_4 a1 _).1 b23
        refine st_gr jo_0 jr_0_2 ?_
        refine st_gr jo_2 jr_2_1 ?_
        refine st_si jo_4 (show 0 ≤ a1 by omega) (show a1 < ((4 : Nat) : Int) by omega) (fun hx => (jba_4 _ _).2 (show -1 ≤ a2 ∧ a2 ≤ 3 by omega)) (fun g24 eg24 => ?_)
        replace eg24 : g24 = jup g21 4 a1 a2 := eg24
        have fg24 : jfr w_X11_lead h g24 := jfr_up fg21 eg24 (by unfold w_X11_lead; omega)
        have e25 : g24 4 a1 = a2 := jup_s eg24
        have e26 : g21 4 a1 = h 4 a1 := (ft20 4 a1 (by unfold w_X7_forget; omega))
        have hs27 : g24 4 a1 = a2 := by
          exact jup_s eg24
        have hs28 : ∀ i k : Int, 4 ≤ i → i ≤ 4 → ¬ (i = 4 ∧ k = a1) → g24 i k = h i k := fun i k p1 p2 p3 => ((jup_o eg24 (by omega)).trans (ft20 i k (by unfold w_X7_forget; omega)))
        exact st_r0 (ls := []) ⟨rfl, rfl, fg24, v22, rfl, (by omega), (by unfold P_X11_lead; first | exact Or.inr ⟨by omega, ⟨hs27, hs28⟩⟩)⟩
      · replace c19 : t17 = 0 := by first | exact c19 | exact Int.not_le.mp c19 | exact Int.not_lt.mp c19 | exact Decidable.not_not.mp c19
        show jGo E l 35 229 229 _ 21 [.inr (.inr (.inl 0)), .inl a1, .inl a2, .inr (.inr (.inr ()))] [] 229 jr0 h
        refine jGo_blk qX11_lead_21 ?_
        refine st_cv (na := 1) (st := [.inl (-1), .inr (.inr (.inl 0))]) jo_0 rfl rfl rfl (c_X11_refusedAside (-1) h (by omega)) rfl ?_
        rintro _ _ g30 ⟨rfl, ft29, t29, rfl, ht29, zt29⟩ kt29
        replace kt29 : -2147483648 ≤ t29 ∧ t29 ≤ 2147483647 := kt29
        replace ht29 : 2000000001 ≤ t29 ∧ t29 ≤ 2000000007 := ht29
        have fg30 : jfr w_X11_lead h g30 := jfr_tr f0 ft29 (fun i k q => by unfold w_X11_refusedAside at q; unfold w_X11_lead; omega)
        replace zt29 : t29 = 2000000000 - (-1 : Int) := zt29
        have hs31 : ∀ i k : Int, 4 ≤ i → i ≤ 4 → g30 i k = h i k := fun i k p1 p2 => (ft29 i k (by unfold w_X11_refusedAside; omega))
        exact st_r0 (ls := []) ⟨rfl, rfl, fg30, t29, rfl, (by omega), (by unfold P_X11_lead; by_cases zz : t29 = -4 <;> first | exact Or.inl ⟨by omega, hs31⟩)⟩

def w_X12_refuseFar (i k : Int) : Prop := (i = 219)
def k_X12_refuseFar (a1 : Int) (h : JH) (v : Option JV) (r' g : JH) : Prop := r' = jr0 ∧ jfr w_X12_refuseFar h g ∧ ∃ x : Int, v = some (.inl x) ∧ (2000000001 ≤ x ∧ x ≤ 2000000007) ∧ (x = 2000000000 - a1)
set_option maxHeartbeats 4000000 in
theorem c_X12_refuseFar {E : JE} {l : Launch} (a1 : Int) (h : JH) (p1 : -7 ≤ a1 ∧ a1 ≤ -1) : jMt E l 36 [.inr (.inr (.inl 176)), .inl a1] 229 jr0 h (k_X12_refuseFar a1 h) := by
  refine jMt0 (nL := 2) (ls := [.inr (.inr (.inl 176)), .inl a1]) (by decide +kernel) (by decide +kernel) (by decide +kernel) rfl rfl ?_
  have f0 : jfr w_X12_refuseFar h h := jfr_rf _ _
  refine jGo_blk qX12_refuseFar_0 ?_
  refine st_gr jo_176 jr_176_50 ?_
  have e1 : jw32 (-a1) = -a1 := j32e (by omega) (by omega)
  refine st_ai jo_219 (show 0 ≤ jw32 (-a1) by omega) (show jw32 (-a1) < ((8 : Nat) : Int) by omega) (fun v2 ev2 b3 => ?_)
  replace ev2 : v2 = h 219 (jw32 (-a1)) := ev2
  replace b3 := (jba_219 (jw32 (-a1)) _).1 b3
  refine st_si jo_219 (show 0 ≤ jw32 (-a1) by omega) (show jw32 (-a1) < ((8 : Nat) : Int) by omega) (fun hx => (jba_219 _ _).2 hx) (fun g4 eg4 => ?_)
  replace eg4 : g4 = jup h 219 (jw32 (-a1)) (jw32 (v2 + 1)) := eg4
  have fg4 : jfr w_X12_refuseFar h g4 := jfr_up f0 eg4 (by unfold w_X12_refuseFar; omega)
  have e5 : g4 219 (jw32 (-a1)) = jw32 (v2 + 1) := jup_s eg4
  have e6 : jw32 (2000000000 - a1) = 2000000000 - a1 := j32e (by omega) (by omega)
  exact st_r0 (ls := []) ⟨rfl, rfl, fg4, jw32 (2000000000 - a1), rfl, (by omega), (by omega)⟩

def w_X12_lead (i k : Int) : Prop := (i = 178) ∨ (i = 219)
def k_X12_lead (a1 : Int) (a2 : Int) (h : JH) (v : Option JV) (r' g : JH) : Prop := r' = jr0 ∧ jfr w_X12_lead h g ∧ ∃ x : Int, v = some (.inl x) ∧ (-1 ≤ x ∧ x ≤ 2000000007) ∧ (P_X12_lead a1 a2 x h g)
set_option maxHeartbeats 4000000 in
theorem c_X12_lead {E : JE} {l : Launch} (a1 : Int) (a2 : Int) (h : JH) : jMt E l 37 [.inr (.inr (.inl 176)), .inl a1, .inl a2] 229 jr0 h (k_X12_lead a1 a2 h) := by
  refine jMt0 (nL := 4) (ls := [.inr (.inr (.inl 176)), .inl a1, .inl a2, .inr (.inr (.inr ()))]) (by decide +kernel) (by decide +kernel) (by decide +kernel) rfl rfl ?_
  have f0 : jfr w_X12_lead h h := jfr_rf _ _
  refine jGo_blk qX12_lead_0 ?_
  refine st_cs (na := 3) (st := [.inl 3, .inl 0, .inl a1]) rfl rfl rfl (c_X12_in a1 0 3 h) rfl ?_
  rintro _ _ _ ⟨rfl, rfl, t1, rfl, ht1, zt1⟩ kt1
  replace kt1 : -2147483648 ≤ t1 ∧ t1 ≤ 2147483647 := kt1
  replace ht1 : 0 ≤ t1 ∧ t1 ≤ 1 := ht1
  replace zt1 : (t1 = 1 ∧ (0 : Int) ≤ a1 ∧ a1 ≤ (3 : Int)) ∨ (t1 = 0 ∧ ¬ ((0 : Int) ≤ a1 ∧ a1 ≤ (3 : Int))) := zt1
  refine And.intro (fun c3 => ?_) (fun c3 => ?_)
  · replace c3 : t1 = 0 := c3
    show jGo E l 37 229 229 _ 18 [.inr (.inr (.inl 176)), .inl a1, .inl a2, .inr (.inr (.inr ()))] [] 229 jr0 h
    refine jGo_blk qX12_lead_18 ?_
    refine st_cv (na := 1) (st := [.inl (-1), .inr (.inr (.inl 176))]) jo_176 rfl rfl rfl (c_X12_refuseFar (-1) h (by omega)) rfl ?_
    rintro _ _ g5 ⟨rfl, ft4, t4, rfl, ht4, zt4⟩ kt4
    replace kt4 : -2147483648 ≤ t4 ∧ t4 ≤ 2147483647 := kt4
    replace ht4 : 2000000001 ≤ t4 ∧ t4 ≤ 2000000007 := ht4
    have fg5 : jfr w_X12_lead h g5 := jfr_tr f0 ft4 (fun i k q => by unfold w_X12_refuseFar at q; unfold w_X12_lead; omega)
    replace zt4 : t4 = 2000000000 - (-1 : Int) := zt4
    have hs6 : ∀ i k : Int, 178 ≤ i → i ≤ 178 → g5 i k = h i k := fun i k p1 p2 => (ft4 i k (by unfold w_X12_refuseFar; omega))
    exact st_r0 (ls := []) ⟨rfl, rfl, fg5, t4, rfl, (by omega), (by unfold P_X12_lead; by_cases zz : t4 = -4 <;> first | exact Or.inl ⟨by omega, hs6⟩)⟩
  · replace c3 : ¬ t1 = 0 := by first | exact c3 | exact Int.not_le.mp c3 | exact Int.not_lt.mp c3 | exact Decidable.not_not.mp c3
    refine st_cs (na := 3) (st := [.inl 3, .inl (-1), .inl a2]) rfl rfl rfl (c_X12_in a2 (-1) 3 h) rfl ?_
    rintro _ _ _ ⟨rfl, rfl, t7, rfl, ht7, zt7⟩ kt7
    replace kt7 : -2147483648 ≤ t7 ∧ t7 ≤ 2147483647 := kt7
    replace ht7 : 0 ≤ t7 ∧ t7 ≤ 1 := ht7
    replace zt7 : (t7 = 1 ∧ (-1 : Int) ≤ a2 ∧ a2 ≤ (3 : Int)) ∨ (t7 = 0 ∧ ¬ ((-1 : Int) ≤ a2 ∧ a2 ≤ (3 : Int))) := zt7
    refine And.intro (fun c9 => ?_) (fun c9 => ?_)
    · replace c9 : ¬ t7 = 0 := c9
      show jGo E l 37 229 229 _ 24 [.inr (.inr (.inl 176)), .inl a1, .inl a2, .inr (.inr (.inr ()))] [] 229 jr0 h
      refine jGo_blk qX12_lead_24 ?_
      refine st_gr jo_176 jr_176_2 ?_
      refine st_ai jo_178 (show 0 ≤ a1 by omega) (show a1 < ((4 : Nat) : Int) by omega) (fun v10 ev10 b11 => ?_)
      replace ev10 : v10 = h 178 a1 := ev10
      replace b11 := (jba_178 a1 _).1 b11
      refine st_gr jo_176 jr_176_2 ?_
      refine st_si jo_178 (show 0 ≤ a1 by omega) (show a1 < ((4 : Nat) : Int) by omega) (fun hx => (jba_178 _ _).2 (show -1 ≤ a2 ∧ a2 ≤ 3 by omega)) (fun g12 eg12 => ?_)
      replace eg12 : g12 = jup h 178 a1 a2 := eg12
      have fg12 : jfr w_X12_lead h g12 := jfr_up f0 eg12 (by unfold w_X12_lead; omega)
      have e13 : g12 178 a1 = a2 := jup_s eg12
      have hs14 : g12 178 a1 = a2 := by
        exact jup_s eg12
      have hs15 : ∀ i k : Int, 178 ≤ i → i ≤ 178 → ¬ (i = 178 ∧ k = a1) → g12 i k = h i k := fun i k p1 p2 p3 => (jup_o eg12 (by omega))
      exact st_r0 (ls := []) ⟨rfl, rfl, fg12, v10, rfl, (by omega), (by unfold P_X12_lead; first | exact Or.inr ⟨by omega, ⟨hs14, hs15⟩⟩)⟩
    · replace c9 : t7 = 0 := by first | exact c9 | exact Int.not_le.mp c9 | exact Int.not_lt.mp c9 | exact Decidable.not_not.mp c9
      show jGo E l 37 229 229 _ 18 [.inr (.inr (.inl 176)), .inl a1, .inl a2, .inr (.inr (.inr ()))] [] 229 jr0 h
      refine jGo_blk qX12_lead_18 ?_
      refine st_cv (na := 1) (st := [.inl (-1), .inr (.inr (.inl 176))]) jo_176 rfl rfl rfl (c_X12_refuseFar (-1) h (by omega)) rfl ?_
      rintro _ _ g17 ⟨rfl, ft16, t16, rfl, ht16, zt16⟩ kt16
      replace kt16 : -2147483648 ≤ t16 ∧ t16 ≤ 2147483647 := kt16
      replace ht16 : 2000000001 ≤ t16 ∧ t16 ≤ 2000000007 := ht16
      have fg17 : jfr w_X12_lead h g17 := jfr_tr f0 ft16 (fun i k q => by unfold w_X12_refuseFar at q; unfold w_X12_lead; omega)
      replace zt16 : t16 = 2000000000 - (-1 : Int) := zt16
      have hs18 : ∀ i k : Int, 178 ≤ i → i ≤ 178 → g17 i k = h i k := fun i k p1 p2 => (ft16 i k (by unfold w_X12_refuseFar; omega))
      exact st_r0 (ls := []) ⟨rfl, rfl, fg17, t16, rfl, (by omega), (by unfold P_X12_lead; by_cases zz : t16 = -4 <;> first | exact Or.inl ⟨by omega, hs18⟩)⟩

def k_X1_handsOfDay (a1 : Int) (a2 : Int) (h : JH) (v : Option JV) (r' g : JH) : Prop := r' = jr0 ∧ h = g ∧ ∃ x : Int, v = some (.inl x) ∧ (0 ≤ x ∧ x ≤ 400) ∧ (x = jHd h a1 a2 ∧ -1 ≤ h 4 a1 ∧ h 4 a1 ≤ 3 ∧ (h 4 a1 < 0 ∨ h 10 (h 4 a1) ≤ 30))
set_option maxHeartbeats 4000000 in
theorem c_X1_handsOfDay {E : JE} {l : Launch} (a1 : Int) (a2 : Int) (h : JH) (p1 : 0 ≤ a1 ∧ a1 ≤ 3) (p2 : 0 ≤ a2 ∧ a2 ≤ 2400) : jMt E l 38 [.inr (.inr (.inl 2)), .inl a1, .inl a2] 229 jr0 h (k_X1_handsOfDay a1 a2 h) := by
  refine jMt0 (nL := 4) (ls := [.inr (.inr (.inl 2)), .inl a1, .inl a2, .inr (.inr (.inr ()))]) (by decide +kernel) (by decide +kernel) (by decide +kernel) rfl rfl ?_
  refine jGo_blk qX1_handsOfDay_0 ?_
  refine st_gr jo_2 jr_2_1 ?_
  refine st_ai jo_4 (show 0 ≤ a1 by omega) (show a1 < ((4 : Nat) : Int) by omega) (fun v1 ev1 b2 => ?_)
  replace ev1 : v1 = h 4 a1 := ev1
  replace b2 := (jba_4 a1 _).1 b2
  refine And.intro (fun c3 => ?_) (fun c3 => ?_)
  · replace c3 : v1 = (-1) := c3
    show jGo E l 38 229 229 _ 21 [.inr (.inr (.inl 2)), .inl a1, .inl a2, .inl v1] [] 229 jr0 h
    refine jGo_blk qX1_handsOfDay_21 ?_
    refine st_gr jo_2 jr_2_0 ?_
    refine st_ai jo_3 (show 0 ≤ a1 by omega) (show a1 < ((4 : Nat) : Int) by omega) (fun v4 ev4 b5 => ?_)
    replace ev4 : v4 = h 3 a1 := ev4
    replace b5 := (jba_3 a1 _).1 b5
    have hp6 : v4 = jHd h a1 a2 ∧ -1 ≤ h 4 a1 ∧ h 4 a1 ≤ 3 ∧ (h 4 a1 < 0 ∨ h 10 (h 4 a1) ≤ 30) := by
      unfold jHd; rw [← ev1]
      exact ⟨ev4.trans (if_pos (by omega)).symm, by omega, by omega, by omega⟩
    exact st_r0 (ls := []) ⟨rfl, rfl, rfl, v4, rfl, (by omega), (by exact hp6)⟩
  · replace c3 : ¬ v1 = (-1) := by first | exact c3 | exact Int.not_le.mp c3 | exact Int.not_lt.mp c3 | exact Decidable.not_not.mp c3
    refine st_gr jo_2 jr_2_3 ?_
    refine st_ai jo_10 (show 0 ≤ v1 by omega) (show v1 < ((4 : Nat) : Int) by omega) (fun v7 ev7 b8 => ?_)
    replace ev7 : v7 = h 10 v1 := ev7
    replace b8 := (jba_10 v1 _).1 b8
    refine And.intro (fun c9 => ?_) (fun c9 => ?_)
    · replace c9 : 0 < v7 := c9
      show jGo E l 38 229 229 _ 28 [.inr (.inr (.inl 2)), .inl a1, .inl a2, .inl v1] [] 229 jr0 h
      refine jGo_blk qX1_handsOfDay_28 ?_
      refine st_gr jo_2 jr_2_2 ?_
      refine st_ar jo_5 (by decide) (show 0 ≤ v1 by omega) (show v1 < ((4 : Nat) : Int) by omega) (fun u10 eu10 => ?_)
      replace eu10 : u10 = jr0 5 v1 := eu10
      have qu10 : u10 = 6 + v1 := eu10.trans (jrow_5 v1 (by omega) (by omega)).1
      have ou10 : jF 229 u10 1 30 := by rw [eu10]; exact (jrow_5 v1 (by omega) (by omega)).2.1
      have wu10 : ∀ j v : Int, jbd u10 j v ↔ (0 ≤ v ∧ v ≤ 400) := by rw [eu10]; exact (jrow_5 v1 (by omega) (by omega)).2.2
      refine st_gr jo_2 jr_2_3 ?_
      refine st_ai jo_10 (show 0 ≤ v1 by omega) (show v1 < ((4 : Nat) : Int) by omega) (fun v11 ev11 b12 => ?_)
      replace ev11 : v11 = h 10 v1 := ev11
      replace b12 := (jba_10 v1 _).1 b12
      refine And.intro (show v11 ≠ 0 by omega) ?_
      have e13 : True ∧ 0 ≤ a2.tmod v11 ∧ a2.tmod v11 < v11 := ⟨trivial, (jmd (by omega) (by omega)).2⟩
      refine st_ai ou10 (show 0 ≤ a2.tmod v11 by omega) (show a2.tmod v11 < ((30 : Nat) : Int) by omega) (fun v14 ev14 b15 => ?_)
      replace ev14 : v14 = h u10 (a2.tmod v11) := ev14
      replace b15 := (wu10 (a2.tmod v11) _).1 b15
      have hp16 : v14 = jHd h a1 a2 ∧ -1 ≤ h 4 a1 ∧ h 4 a1 ≤ 3 ∧ (h 4 a1 < 0 ∨ h 10 (h 4 a1) ≤ 30) := by
        unfold jHd; rw [← ev1]
        exact ⟨by rw [if_neg (by omega), ev14, qu10, ev11], by omega, by omega, by omega⟩
      exact st_r0 (ls := []) ⟨rfl, rfl, rfl, v14, rfl, (by omega), (by exact hp16)⟩
    · replace c9 : v7 ≤ 0 := by first | exact c9 | exact Int.not_le.mp c9 | exact Int.not_lt.mp c9 | exact Decidable.not_not.mp c9
      show jGo E l 38 229 229 _ 21 [.inr (.inr (.inl 2)), .inl a1, .inl a2, .inl v1] [] 229 jr0 h
      refine jGo_blk qX1_handsOfDay_21 ?_
      refine st_gr jo_2 jr_2_0 ?_
      refine st_ai jo_3 (show 0 ≤ a1 by omega) (show a1 < ((4 : Nat) : Int) by omega) (fun v17 ev17 b18 => ?_)
      replace ev17 : v17 = h 3 a1 := ev17
      replace b18 := (jba_3 a1 _).1 b18
      have hp19 : v17 = jHd h a1 a2 ∧ -1 ≤ h 4 a1 ∧ h 4 a1 ≤ 3 ∧ (h 4 a1 < 0 ∨ h 10 (h 4 a1) ≤ 30) := by
        unfold jHd; rw [← ev1]
        exact ⟨ev17.trans (if_pos (by omega)).symm, by omega, by omega, by omega⟩
      exact st_r0 (ls := []) ⟨rfl, rfl, rfl, v17, rfl, (by omega), (by exact hp19)⟩

def w_X11_handsOn (i k : Int) : Prop := (i = 1)
def k_X11_handsOn (a1 : Int) (a2 : Int) (h : JH) (v : Option JV) (r' g : JH) : Prop := r' = jr0 ∧ jfr w_X11_handsOn h g ∧ ∃ x : Int, v = some (.inl x) ∧ (-7 ≤ x ∧ x ≤ 400) ∧ (P_X11_handsOn a1 a2 x h)
set_option maxHeartbeats 4000000 in
theorem c_X11_handsOn {E : JE} {l : Launch} (a1 : Int) (a2 : Int) (h : JH) : jMt E l 39 [.inr (.inr (.inl 0)), .inl a1, .inl a2] 229 jr0 h (k_X11_handsOn a1 a2 h) := by
  refine jMt0 (nL := 4) (ls := [.inr (.inr (.inl 0)), .inl a1, .inl a2, .inr (.inr (.inr ()))]) (by decide +kernel) (by decide +kernel) (by decide +kernel) rfl rfl ?_
  have f0 : jfr w_X11_handsOn h h := jfr_rf _ _
  refine jGo_blk qX11_handsOn_0 ?_
  refine st_cs (na := 2) (st := [.inl 4, .inl a1]) rfl rfl rfl (c_X11_within a1 4 h) rfl ?_
  rintro _ _ _ ⟨rfl, rfl, t1, rfl, ht1, zt1⟩ kt1
  replace kt1 : -2147483648 ≤ t1 ∧ t1 ≤ 2147483647 := kt1
  replace ht1 : 0 ≤ t1 ∧ t1 ≤ 1 := ht1
  replace zt1 : (t1 = 1 ∧ 0 ≤ a1 ∧ a1 < (4 : Int)) ∨ (t1 = 0 ∧ ¬ (0 ≤ a1 ∧ a1 < (4 : Int))) := zt1
  refine And.intro (fun c3 => ?_) (fun c3 => ?_)
  · replace c3 : ¬ t1 = 0 := c3
    show jGo E l 39 229 229 _ 12 [.inr (.inr (.inl 0)), .inl a1, .inl a2, .inr (.inr (.inr ()))] [] 229 jr0 h
    refine jGo_blk qX11_handsOn_12 ?_
    refine st_cs (na := 3) (st := [.inl 2000, .inl 0, .inl a2]) rfl rfl rfl (c_X11_outside a2 0 2000 h) rfl ?_
    rintro _ _ _ ⟨rfl, rfl, t4, rfl, ht4, zt4⟩ kt4
    replace kt4 : -2147483648 ≤ t4 ∧ t4 ≤ 2147483647 := kt4
    replace ht4 : -6 ≤ t4 ∧ t4 ≤ 0 := ht4
    replace zt4 : (t4 = -4 ∧ a2 < (0 : Int)) ∨ (t4 = -6 ∧ (0 : Int) ≤ a2 ∧ (2000 : Int) < a2) ∨ (t4 = 0 ∧ (0 : Int) ≤ a2 ∧ a2 ≤ (2000 : Int)) := zt4
    show jGo E l 39 229 229 _ 20 [.inr (.inr (.inl 0)), .inl a1, .inl a2, .inr (.inr (.inr ()))] [.inl t4] 229 jr0 h
    refine jGo_blk qX11_handsOn_20 ?_
    refine And.intro (fun c6 => ?_) (fun c6 => ?_)
    · replace c6 : t4 = 0 := c6
      show jGo E l 39 229 229 _ 33 [.inr (.inr (.inl 0)), .inl a1, .inl a2, .inl t4] [] 229 jr0 h
      refine jGo_blk qX11_handsOn_33 ?_
      refine st_gr jo_0 jr_0_2 ?_
      refine st_cv (na := 2) (st := [.inl a2, .inl a1, .inr (.inr (.inl 2))]) jo_2 rfl rfl rfl (c_X1_handsOfDay a1 a2 h (by omega) (by omega)) rfl ?_
      rintro _ _ _ ⟨rfl, rfl, t7, rfl, ht7, zt7⟩ kt7
      replace kt7 : -2147483648 ≤ t7 ∧ t7 ≤ 2147483647 := kt7
      replace ht7 : 0 ≤ t7 ∧ t7 ≤ 400 := ht7
      replace zt7 : t7 = jHd h a1 a2 ∧ -1 ≤ h 4 a1 ∧ h 4 a1 ≤ 3 ∧ (h 4 a1 < 0 ∨ h 10 (h 4 a1) ≤ 30) := zt7
      show jGo E l 39 229 229 _ 42 [.inr (.inr (.inl 0)), .inl a1, .inl a2, .inl t4] [.inl t7] 229 jr0 h
      refine jGo_blk qX11_handsOn_42 ?_
      exact st_r0 (ls := []) ⟨rfl, rfl, f0, t7, rfl, (by omega), (by unfold P_X11_handsOn; by_cases zz : t7 = -4 <;> first | exact Or.inl (by omega) | exact Or.inr (Or.inl (by omega)) | exact Or.inr (Or.inr (Or.inl (by omega))) | exact Or.inr (Or.inr (Or.inr (by omega))))⟩
    · replace c6 : ¬ t4 = 0 := by first | exact c6 | exact Int.not_le.mp c6 | exact Int.not_lt.mp c6 | exact Decidable.not_not.mp c6
      refine st_cv (na := 1) (st := [.inl t4, .inr (.inr (.inl 0))]) jo_0 rfl rfl rfl (c_X11_refused t4 h (by omega)) rfl ?_
      rintro _ _ g10 ⟨rfl, ft9, t9, rfl, ht9, zt9⟩ kt9
      replace kt9 : -2147483648 ≤ t9 ∧ t9 ≤ 2147483647 := kt9
      replace ht9 : -7 ≤ t9 ∧ t9 ≤ -1 := ht9
      have fg10 : jfr w_X11_handsOn h g10 := jfr_tr f0 ft9 (fun i k q => by unfold w_X11_refused at q; unfold w_X11_handsOn; omega)
      replace zt9 : t9 = t4 := zt9
      show jGo E l 39 229 229 _ 42 [.inr (.inr (.inl 0)), .inl a1, .inl a2, .inl t4] [.inl t9] 229 jr0 g10
      refine jGo_blk qX11_handsOn_42 ?_
      exact st_r0 (ls := []) ⟨rfl, rfl, fg10, t9, rfl, (by omega), (by unfold P_X11_handsOn; by_cases zz : t9 = -4 <;> first | exact Or.inl (by omega) | exact Or.inr (Or.inl (by omega)) | exact Or.inr (Or.inr (Or.inl (by omega))) | exact Or.inr (Or.inr (Or.inr (by omega))))⟩
  · replace c3 : t1 = 0 := by first | exact c3 | exact Int.not_le.mp c3 | exact Int.not_lt.mp c3 | exact Decidable.not_not.mp c3
    show jGo E l 39 229 229 _ 20 [.inr (.inr (.inl 0)), .inl a1, .inl a2, .inr (.inr (.inr ()))] [.inl (-1)] 229 jr0 h
    refine jGo_blk qX11_handsOn_20 ?_
    refine And.intro (fun c11 => ?_) (fun c11 => ?_)
    · replace c11 : (-1 : Int) = 0 := c11
      exfalso; omega
    · replace c11 : ¬ (-1 : Int) = 0 := by first | exact c11 | exact Int.not_le.mp c11 | exact Int.not_lt.mp c11 | exact Decidable.not_not.mp c11
      refine st_cv (na := 1) (st := [.inl (-1), .inr (.inr (.inl 0))]) jo_0 rfl rfl rfl (c_X11_refused (-1) h (by omega)) rfl ?_
      rintro _ _ g13 ⟨rfl, ft12, t12, rfl, ht12, zt12⟩ kt12
      replace kt12 : -2147483648 ≤ t12 ∧ t12 ≤ 2147483647 := kt12
      replace ht12 : -7 ≤ t12 ∧ t12 ≤ -1 := ht12
      have fg13 : jfr w_X11_handsOn h g13 := jfr_tr f0 ft12 (fun i k q => by unfold w_X11_refused at q; unfold w_X11_handsOn; omega)
      replace zt12 : t12 = (-1 : Int) := zt12
      show jGo E l 39 229 229 _ 42 [.inr (.inr (.inl 0)), .inl a1, .inl a2, .inl (-1)] [.inl t12] 229 jr0 g13
      refine jGo_blk qX11_handsOn_42 ?_
      exact st_r0 (ls := []) ⟨rfl, rfl, fg13, t12, rfl, (by omega), (by unfold P_X11_handsOn; by_cases zz : t12 = -4 <;> first | exact Or.inl (by omega) | exact Or.inr (Or.inl (by omega)) | exact Or.inr (Or.inr (Or.inl (by omega))) | exact Or.inr (Or.inr (Or.inr (by omega))))⟩

def k_X12_handsAt (a1 : Int) (a2 : Int) (h : JH) (v : Option JV) (r' g : JH) : Prop := r' = jr0 ∧ h = g ∧ ∃ x : Int, v = some (.inl x) ∧ (0 ≤ x ∧ x ≤ 400) ∧ (x = jHm h a1 a2 ∧ -1 ≤ h 178 a1 ∧ h 178 a1 ≤ 3 ∧ (h 178 a1 < 0 ∨ h 179 (h 178 a1) ≤ 30))
set_option maxHeartbeats 4000000 in
theorem c_X12_handsAt {E : JE} {l : Launch} (a1 : Int) (a2 : Int) (h : JH) (p1 : 0 ≤ a1 ∧ a1 ≤ 3) (p2 : 0 ≤ a2 ∧ a2 ≤ 2400) : jMt E l 40 [.inr (.inr (.inl 176)), .inl a1, .inl a2] 229 jr0 h (k_X12_handsAt a1 a2 h) := by
  refine jMt0 (nL := 4) (ls := [.inr (.inr (.inl 176)), .inl a1, .inl a2, .inr (.inr (.inr ()))]) (by decide +kernel) (by decide +kernel) (by decide +kernel) rfl rfl ?_
  refine jGo_blk qX12_handsAt_0 ?_
  refine st_gr jo_176 jr_176_2 ?_
  refine st_ai jo_178 (show 0 ≤ a1 by omega) (show a1 < ((4 : Nat) : Int) by omega) (fun v1 ev1 b2 => ?_)
  replace ev1 : v1 = h 178 a1 := ev1
  replace b2 := (jba_178 a1 _).1 b2
  refine And.intro (fun c3 => ?_) (fun c3 => ?_)
  · replace c3 : v1 < 0 := c3
    show jGo E l 40 229 229 _ 41 [.inr (.inr (.inl 176)), .inl a1, .inl a2, .inl v1] [] 229 jr0 h
    refine jGo_blk qX12_handsAt_41 ?_
    refine st_gr jo_176 jr_176_1 ?_
    refine st_ai jo_177 (show 0 ≤ a1 by omega) (show a1 < ((4 : Nat) : Int) by omega) (fun v4 ev4 b5 => ?_)
    replace ev4 : v4 = h 177 a1 := ev4
    replace b5 := (jba_177 a1 _).1 b5
    show jGo E l 40 229 229 _ 47 [.inr (.inr (.inl 176)), .inl a1, .inl a2, .inl v1] [.inl v4] 229 jr0 h
    refine jGo_blk qX12_handsAt_47 ?_
    have hp6 : v4 = jHm h a1 a2 ∧ -1 ≤ h 178 a1 ∧ h 178 a1 ≤ 3 ∧ (h 178 a1 < 0 ∨ h 179 (h 178 a1) ≤ 30) := by
      unfold jHm; rw [← ev1]
      exact ⟨ev4.trans (if_pos (by omega)).symm, by omega, by omega, by omega⟩
    exact st_r0 (ls := []) ⟨rfl, rfl, rfl, v4, rfl, (by omega), (by exact hp6)⟩
  · replace c3 : 0 ≤ v1 := by first | exact c3 | exact Int.not_le.mp c3 | exact Int.not_lt.mp c3 | exact Decidable.not_not.mp c3
    refine st_gr jo_176 jr_176_3 ?_
    refine st_ai jo_179 (show 0 ≤ v1 by omega) (show v1 < ((4 : Nat) : Int) by omega) (fun v7 ev7 b8 => ?_)
    replace ev7 : v7 = h 179 v1 := ev7
    replace b8 := (jba_179 v1 _).1 b8
    refine And.intro (fun c9 => ?_) (fun c9 => ?_)
    · replace c9 : v7 ≤ 0 := c9
      show jGo E l 40 229 229 _ 41 [.inr (.inr (.inl 176)), .inl a1, .inl a2, .inl v1] [] 229 jr0 h
      refine jGo_blk qX12_handsAt_41 ?_
      refine st_gr jo_176 jr_176_1 ?_
      refine st_ai jo_177 (show 0 ≤ a1 by omega) (show a1 < ((4 : Nat) : Int) by omega) (fun v10 ev10 b11 => ?_)
      replace ev10 : v10 = h 177 a1 := ev10
      replace b11 := (jba_177 a1 _).1 b11
      show jGo E l 40 229 229 _ 47 [.inr (.inr (.inl 176)), .inl a1, .inl a2, .inl v1] [.inl v10] 229 jr0 h
      refine jGo_blk qX12_handsAt_47 ?_
      have hp12 : v10 = jHm h a1 a2 ∧ -1 ≤ h 178 a1 ∧ h 178 a1 ≤ 3 ∧ (h 178 a1 < 0 ∨ h 179 (h 178 a1) ≤ 30) := by
        unfold jHm; rw [← ev1]
        exact ⟨ev10.trans (if_pos (by omega)).symm, by omega, by omega, by omega⟩
      exact st_r0 (ls := []) ⟨rfl, rfl, rfl, v10, rfl, (by omega), (by exact hp12)⟩
    · replace c9 : 0 < v7 := by first | exact c9 | exact Int.not_le.mp c9 | exact Int.not_lt.mp c9 | exact Decidable.not_not.mp c9
      refine st_gr jo_176 jr_176_4 ?_
      have e13 : jw32 (30 * v1) = 30 * v1 := j32e (by omega) (by omega)
      refine st_gr jo_176 jr_176_3 ?_
      refine st_ai jo_179 (show 0 ≤ v1 by omega) (show v1 < ((4 : Nat) : Int) by omega) (fun v14 ev14 b15 => ?_)
      replace ev14 : v14 = h 179 v1 := ev14
      replace b15 := (jba_179 v1 _).1 b15
      refine And.intro (show v14 ≠ 0 by omega) ?_
      have e16 : True ∧ 0 ≤ a2.tmod v14 ∧ a2.tmod v14 < v14 := ⟨trivial, (jmd (by omega) (by omega)).2⟩
      have e17 : jw32 ((jw32 (30 * v1)) + (a2.tmod v14)) = (jw32 (30 * v1)) + (a2.tmod v14) := j32e (by omega) (by omega)
      refine st_ai jo_180 (show 0 ≤ jw32 ((jw32 (30 * v1)) + (a2.tmod v14)) by omega) (show jw32 ((jw32 (30 * v1)) + (a2.tmod v14)) < ((120 : Nat) : Int) by omega) (fun v18 ev18 b19 => ?_)
      replace ev18 : v18 = h 180 (jw32 ((jw32 (30 * v1)) + (a2.tmod v14))) := ev18
      replace b19 := (jba_180 (jw32 ((jw32 (30 * v1)) + (a2.tmod v14))) _).1 b19
      show jGo E l 40 229 229 _ 47 [.inr (.inr (.inl 176)), .inl a1, .inl a2, .inl v1] [.inl v18] 229 jr0 h
      refine jGo_blk qX12_handsAt_47 ?_
      have hp20 : v18 = jHm h a1 a2 ∧ -1 ≤ h 178 a1 ∧ h 178 a1 ≤ 3 ∧ (h 178 a1 < 0 ∨ h 179 (h 178 a1) ≤ 30) := by
        unfold jHm; rw [← ev1]
        exact ⟨by rw [if_neg (by omega), ev18, show jw32 ((jw32 (30 * v1)) + (a2.tmod v14)) = 30 * v1 + a2.tmod (h 179 v1) by rw [← ev14]; omega], by omega, by omega, by omega⟩
      exact st_r0 (ls := []) ⟨rfl, rfl, rfl, v18, rfl, (by omega), (by exact hp20)⟩
