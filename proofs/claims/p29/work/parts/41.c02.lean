def w_X12_copy (i k : Int) : Prop := (i = 180) ∨ (219 ≤ i ∧ i ≤ 220)
theorem ws_X12_refuse__X12_copy (i k : Int) (q : w_X12_refuse i k) : w_X12_copy i k := by
  unfold w_X12_refuse at q; unfold w_X12_copy
  exact (Or.inr (by omega))
def k_X12_copy (a1 : Int) (a2 : Int) (a3 : Int) (a4 : Int) (a5 : Int) (h : JH) (v : Option JV) (r' g : JH) : Prop := r' = jr0 ∧ jfr w_X12_copy h g ∧ ∃ x : Int, v = some (.inl x) ∧ (-7 ≤ x ∧ x ≤ 30) ∧ ((P_X12_copy a1 a2 a3 a4 a5 x h g) ∧ jRx (x < 0) h g)
set_option maxHeartbeats 4000000 in
theorem c_X12_copy {E : JE} {l : Launch} (a1 : Int) (a2 : Int) (a3 : Int) (a4 : Int) (a5 : Int) (h : JH) : jMt E l 33 [.inr (.inr (.inl 176)), .inl a1, .inl a2, .inl a3, .inl a4, .inl a5] 229 jr0 h (k_X12_copy a1 a2 a3 a4 a5 h) := by
  refine jMt0 (nL := 7) (ls := [.inr (.inr (.inl 176)), .inl a1, .inl a2, .inl a3, .inl a4, .inl a5, .inr (.inr (.inr ()))]) (by decide +kernel) (by decide +kernel) (by decide +kernel) rfl rfl ?_
  have f0 : jfr w_X12_copy h h := jfr_rf _ _
  have key : ∀ N : Nat, (∀ (x6 : Int) (g : JH), (0 ≤ a1 ∧ a1 ≤ 3 ∧ 0 ≤ a2 ∧ a2 ≤ 30 ∧ 0 ≤ a3 ∧ a3 ≤ 3 ∧ 0 ≤ a4 ∧ a4 ≤ 30 ∧ 0 ≤ a5 ∧ a5 ≤ 30 ∧ 0 ≤ x6 ∧ x6 ≤ 30) → (0 ≤ a2 ∧ 0 ≤ a4 ∧ 0 ≤ a5 ∧ a2 + a5 ≤ h 179 a1 ∧ a4 + a5 ≤ h 179 a3 ∧ h 179 a1 ≤ 30 ∧ h 179 a3 ≤ 30 ∧ x6 ≤ a5 ∧ 0 ≤ a1 ∧ a1 < 4 ∧ 0 ≤ a3 ∧ a3 < 4) → ((∀ k : Int, 0 ≤ k → k < x6 → g 220 k = h 180 (30 * a1 + a2 + k)) ∧ ∀ k : Int, g 180 k = h 180 k) → jfr w_X12_copy h g → (30 - x6) + 20000 < (N : Int) → jGo E l 33 229 229 (jRK (k_X12_copy a1 a2 a3 a4 a5 h)) 107 [.inr (.inr (.inl 176)), .inl a1, .inl a2, .inl a3, .inl a4, .inl a5, .inl x6] [] 229 jr0 g) ∧
      (∀ (x6 : Int) (g : JH), (0 ≤ a1 ∧ a1 ≤ 3 ∧ 0 ≤ a2 ∧ a2 ≤ 30 ∧ 0 ≤ a3 ∧ a3 ≤ 3 ∧ 0 ≤ a4 ∧ a4 ≤ 30 ∧ 0 ≤ a5 ∧ a5 ≤ 30 ∧ 0 ≤ x6 ∧ x6 ≤ 30) → (0 ≤ a2 ∧ 0 ≤ a4 ∧ 0 ≤ a5 ∧ a2 + a5 ≤ h 179 a1 ∧ a4 + a5 ≤ h 179 a3 ∧ h 179 a1 ≤ 30 ∧ h 179 a3 ≤ 30 ∧ x6 ≤ a5 ∧ 0 ≤ a1 ∧ a1 < 4 ∧ 0 ≤ a3 ∧ a3 < 4) → ((∀ k : Int, 0 ≤ k → k < a5 → g 220 k = h 180 (30 * a1 + a2 + k)) ∧ (∀ k : Int, 30 * a3 + a4 ≤ k → k < 30 * a3 + a4 + x6 → g 180 k = h 180 (30 * a1 + a2 + (k - (30 * a3 + a4)))) ∧ ∀ k : Int, ¬ (30 * a3 + a4 ≤ k ∧ k < 30 * a3 + a4 + x6) → g 180 k = h 180 k) → jfr w_X12_copy h g → (30 - x6) < (N : Int) → jGo E l 33 229 229 (jRK (k_X12_copy a1 a2 a3 a4 a5 h)) 144 [.inr (.inr (.inl 176)), .inl a1, .inl a2, .inl a3, .inl a4, .inl a5, .inl x6] [] 229 jr0 g) := by
    intro N
    induction N with
    | zero => exact ⟨fun _ _ hi hx0 hx1 _ hN => absurd hN (by omega), fun _ _ hi hx0 hx1 _ hN => absurd hN (by omega)⟩
    | succ N ih =>
      refine ⟨?_, ?_⟩
      · intro x6 g hi hx0 hx1 hf hN
        refine jGo_blk qX12_copy_107 ?_
        refine And.intro (fun c1 => ?_) (fun c1 => ?_)
        · replace c1 : a5 ≤ x6 := c1
          show jGo E l 33 229 229 _ 141 [.inr (.inr (.inl 176)), .inl a1, .inl a2, .inl a3, .inl a4, .inl a5, .inl x6] [] 229 jr0 g
          refine jGo_blk qX12_copy_141 ?_
          show jGo E l 33 229 229 _ 144 [.inr (.inr (.inl 176)), .inl a1, .inl a2, .inl a3, .inl a4, .inl a5, .inl 0] [] 229 jr0 g
          exact ih.2 0 g (by omega) (by omega) (by exact ⟨fun k p1 p2 => hx1.1 k p1 (by omega), fun k p1 p2 => absurd p2 (by omega), fun k _ => hx1.2 k⟩) hf (by omega)
        · replace c1 : x6 < a5 := by first | exact c1 | exact Int.not_le.mp c1 | exact Int.not_lt.mp c1 | exact Decidable.not_not.mp c1
          refine st_gr jo_176 jr_176_51 ?_
          refine st_gr jo_176 jr_176_4 ?_
          have e2 : jw32 (30 * a1) = 30 * a1 := jzj32 (by omega)
          have e3 : jw32 ((jw32 (30 * a1)) + a2) = (jw32 (30 * a1)) + a2 := jzj32 (by omega)
          have e4 : jw32 ((jw32 ((jw32 (30 * a1)) + a2)) + x6) = (jw32 ((jw32 (30 * a1)) + a2)) + x6 := jzj32 (by omega)
          refine st_ai jo_180 (show 0 ≤ jw32 ((jw32 ((jw32 (30 * a1)) + a2)) + x6) by omega) (show jw32 ((jw32 ((jw32 (30 * a1)) + a2)) + x6) < ((120 : Nat) : Int) by omega) (fun v5 ev5 b6 => ?_)
          replace ev5 : v5 = g 180 (jw32 ((jw32 ((jw32 (30 * a1)) + a2)) + x6)) := ev5
          replace b6 := (jba_180 (jw32 ((jw32 ((jw32 (30 * a1)) + a2)) + x6)) _).1 b6
          refine st_si jo_220 (show 0 ≤ x6 by omega) (show x6 < ((30 : Nat) : Int) by omega) (fun hx => (jba_220 _ _).2 (show 0 ≤ v5 ∧ v5 ≤ 400 by omega)) (fun g7 eg7 => ?_)
          replace eg7 : g7 = jup g 220 x6 v5 := eg7
          have fg7 : jfr w_X12_copy h g7 := jfr_up hf eg7 (by unfold w_X12_copy; omega)
          have e8 : g7 220 x6 = v5 := jup_s eg7
          have e9 : jw32 (x6 + 1) = x6 + 1 := jzj32 (by omega)
          show jGo E l 33 229 229 _ 107 [.inr (.inr (.inl 176)), .inl a1, .inl a2, .inl a3, .inl a4, .inl a5, .inl (jw32 (x6 + 1))] [] 229 jr0 g7
          have hc10 : (∀ k : Int, 0 ≤ k → k < jw32 (x6 + 1) → g7 220 k = h 180 (30 * a1 + a2 + k)) ∧ ∀ k : Int, g7 180 k = h 180 k := by
            refine ⟨fun k p1 p2 => ?_, fun k => (jup_o eg7 (by first | exact fun q => absurd q.1 (by decide) | exact fun q => absurd q.2 (by decide) | omega)).trans (hx1.2 k)⟩
            by_cases z : k = x6
            · rw [z]; exact (jup_s eg7).trans (ev5.trans ((hx1.2 _).trans (congrArg (h 180) (show jw32 ((jw32 ((jw32 (30 * a1)) + a2)) + x6) = 30 * a1 + a2 + x6 by omega))))
            · exact (jup_o eg7 (by first | exact fun q => absurd q.1 (by decide) | exact fun q => absurd q.2 (by decide) | omega)).trans (hx1.1 k p1 (by omega))
          exact ih.1 (jw32 (x6 + 1)) g7 (by omega) (by omega) (by exact hc10) fg7 (by omega)
      · intro x6 g hi hx0 hx1 hf hN
        refine jGo_blk qX12_copy_144 ?_
        refine And.intro (fun c11 => ?_) (fun c11 => ?_)
        · replace c11 : a5 ≤ x6 := c11
          show jGo E l 33 229 229 _ 179 [.inr (.inr (.inl 176)), .inl a1, .inl a2, .inl a3, .inl a4, .inl a5, .inl x6] [] 229 jr0 g
          refine jGo_blk qX12_copy_179 ?_
          exact st_r0 (ls := []) ⟨rfl, rfl, hf, a5, rfl, (by omega), (by refine ⟨by unfold P_X12_copy; exact Or.inr (Or.inr (Or.inr ⟨by omega, ⟨fun k p1 p2 => hx1.2.1 k p1 (by omega), fun k p3 => hx1.2.2 k (by omega)⟩⟩)), fun b9 => absurd b9 (by omega)⟩)⟩
        · replace c11 : x6 < a5 := by first | exact c11 | exact Int.not_le.mp c11 | exact Int.not_lt.mp c11 | exact Decidable.not_not.mp c11
          refine st_gr jo_176 jr_176_4 ?_
          have e12 : jw32 (30 * a3) = 30 * a3 := jzj32 (by omega)
          have e13 : jw32 ((jw32 (30 * a3)) + a4) = (jw32 (30 * a3)) + a4 := jzj32 (by omega)
          have e14 : jw32 ((jw32 ((jw32 (30 * a3)) + a4)) + x6) = (jw32 ((jw32 (30 * a3)) + a4)) + x6 := jzj32 (by omega)
          refine st_gr jo_176 jr_176_51 ?_
          refine st_ai jo_220 (show 0 ≤ x6 by omega) (show x6 < ((30 : Nat) : Int) by omega) (fun v15 ev15 b16 => ?_)
          replace ev15 : v15 = g 220 x6 := ev15
          replace b16 := (jba_220 x6 _).1 b16
          refine st_si jo_180 (show 0 ≤ jw32 ((jw32 ((jw32 (30 * a3)) + a4)) + x6) by omega) (show jw32 ((jw32 ((jw32 (30 * a3)) + a4)) + x6) < ((120 : Nat) : Int) by omega) (fun hx => (jba_180 _ _).2 (show 0 ≤ v15 ∧ v15 ≤ 400 by omega)) (fun g17 eg17 => ?_)
          replace eg17 : g17 = jup g 180 (jw32 ((jw32 ((jw32 (30 * a3)) + a4)) + x6)) v15 := eg17
          have fg17 : jfr w_X12_copy h g17 := jfr_up hf eg17 (by unfold w_X12_copy; omega)
          have e18 : g17 180 (jw32 ((jw32 ((jw32 (30 * a3)) + a4)) + x6)) = v15 := jup_s eg17
          have e19 : jw32 (x6 + 1) = x6 + 1 := jzj32 (by omega)
          show jGo E l 33 229 229 _ 144 [.inr (.inr (.inl 176)), .inl a1, .inl a2, .inl a3, .inl a4, .inl a5, .inl (jw32 (x6 + 1))] [] 229 jr0 g17
          have hc20 : (∀ k : Int, 0 ≤ k → k < a5 → g17 220 k = h 180 (30 * a1 + a2 + k)) ∧ (∀ k : Int, 30 * a3 + a4 ≤ k → k < 30 * a3 + a4 + jw32 (x6 + 1) → g17 180 k = h 180 (30 * a1 + a2 + (k - (30 * a3 + a4)))) ∧ ∀ k : Int, ¬ (30 * a3 + a4 ≤ k ∧ k < 30 * a3 + a4 + jw32 (x6 + 1)) → g17 180 k = h 180 k := by
            refine ⟨fun k p1 p2 => (jup_o eg17 (by first | exact fun q => absurd q.1 (by decide) | exact fun q => absurd q.2 (by decide) | omega)).trans (hx1.1 k p1 p2), fun k p1 p2 => ?_, fun k p => (jup_o eg17 (by first | exact fun q => absurd q.1 (by decide) | exact fun q => absurd q.2 (by decide) | omega)).trans (hx1.2.2 k (by omega))⟩
            by_cases z : k = jw32 ((jw32 ((jw32 (30 * a3)) + a4)) + x6)
            · rw [z]; exact (jup_s eg17).trans (ev15.trans ((hx1.1 x6 (by omega) (by omega)).trans (congrArg (h 180) (show 30 * a1 + a2 + x6 = 30 * a1 + a2 + (jw32 ((jw32 ((jw32 (30 * a3)) + a4)) + x6) - (30 * a3 + a4)) by omega))))
            · exact (jup_o eg17 (by first | exact fun q => absurd q.1 (by decide) | exact fun q => absurd q.2 (by decide) | omega)).trans (hx1.2.1 k p1 (by omega))
          exact ih.2 (jw32 (x6 + 1)) g17 (by omega) (by omega) (by exact hc20) fg17 (by omega)
  refine jGo_blk qX12_copy_0 ?_
  refine st_cs (na := 3) (st := [.inl 3, .inl 0, .inl a1]) rfl rfl rfl (c_X12_in a1 0 3 h) rfl ?_
  rintro _ _ _ ⟨rfl, rfl, t21, rfl, ht21, zt21⟩ kt21
  replace kt21 : -2147483648 ≤ t21 ∧ t21 ≤ 2147483647 := kt21
  replace ht21 : 0 ≤ t21 ∧ t21 ≤ 1 := ht21
  replace zt21 : (t21 = 1 ∧ (0 : Int) ≤ a1 ∧ a1 ≤ (3 : Int)) ∨ (t21 = 0 ∧ ¬ ((0 : Int) ≤ a1 ∧ a1 ≤ (3 : Int))) := zt21
  refine And.intro (fun c23 => ?_) (fun c23 => ?_)
  · replace c23 : t21 = 0 := c23
    show jGo E l 33 229 229 _ 18 [.inr (.inr (.inl 176)), .inl a1, .inl a2, .inl a3, .inl a4, .inl a5, .inr (.inr (.inr ()))] [] 229 jr0 h
    refine jGo_blk qX12_copy_18 ?_
    refine st_cv (na := 1) (st := [.inl (-1), .inr (.inr (.inl 176))]) jo_176 rfl rfl rfl (c_X12_refuse (-1) h (by omega)) rfl ?_
    rintro _ _ g25 ⟨rfl, ft24, t24, rfl, ht24, zt24⟩ kt24
    replace kt24 : -2147483648 ≤ t24 ∧ t24 ≤ 2147483647 := kt24
    replace ht24 : -7 ≤ t24 ∧ t24 ≤ -1 := ht24
    have fg25 : jfr w_X12_copy h g25 := jfr_tr f0 ft24 ws_X12_refuse__X12_copy
    replace zt24 : t24 = (-1 : Int) := zt24
    have hs26 : ∀ i k : Int, 180 ≤ i → i ≤ 180 → g25 i k = h i k := fun i k p1 p2 => (ft24 i k (by unfold w_X12_refuse; omega))
    exact st_r0 (ls := []) ⟨rfl, rfl, fg25, t24, rfl, (by omega), (by refine ⟨by unfold P_X12_copy; by_cases zz : t24 = -4 <;> first | exact Or.inl ⟨by omega, hs26⟩ | exact Or.inr (Or.inl ⟨by omega, hs26⟩) | exact Or.inr (Or.inr (Or.inl ⟨by omega, hs26⟩)), fun _ i k q9 => ?_⟩; exact (ft24 i k (jzma_w_X12_refuse q9)))⟩
  · replace c23 : ¬ t21 = 0 := by first | exact c23 | exact Int.not_le.mp c23 | exact Int.not_lt.mp c23 | exact Decidable.not_not.mp c23
    refine st_cs (na := 3) (st := [.inl 3, .inl 0, .inl a3]) rfl rfl rfl (c_X12_in a3 0 3 h) rfl ?_
    rintro _ _ _ ⟨rfl, rfl, t27, rfl, ht27, zt27⟩ kt27
    replace kt27 : -2147483648 ≤ t27 ∧ t27 ≤ 2147483647 := kt27
    replace ht27 : 0 ≤ t27 ∧ t27 ≤ 1 := ht27
    replace zt27 : (t27 = 1 ∧ (0 : Int) ≤ a3 ∧ a3 ≤ (3 : Int)) ∨ (t27 = 0 ∧ ¬ ((0 : Int) ≤ a3 ∧ a3 ≤ (3 : Int))) := zt27
    refine And.intro (fun c29 => ?_) (fun c29 => ?_)
    · replace c29 : ¬ t27 = 0 := c29
      show jGo E l 33 229 229 _ 24 [.inr (.inr (.inl 176)), .inl a1, .inl a2, .inl a3, .inl a4, .inl a5, .inr (.inr (.inr ()))] [] 229 jr0 h
      refine jGo_blk qX12_copy_24 ?_
      refine st_gr jo_176 jr_176_3 ?_
      refine st_ai jo_179 (show 0 ≤ a1 by omega) (show a1 < ((4 : Nat) : Int) by omega) (fun v30 ev30 b31 => ?_)
      replace ev30 : v30 = h 179 a1 := ev30
      replace b31 := (jba_179 a1 _).1 b31
      refine And.intro (fun c32 => ?_) (fun c32 => ?_)
      · replace c32 : v30 < 0 := c32
        show jGo E l 33 229 229 _ 42 [.inr (.inr (.inl 176)), .inl a1, .inl a2, .inl a3, .inl a4, .inl a5, .inr (.inr (.inr ()))] [] 229 jr0 h
        refine jGo_blk qX12_copy_42 ?_
        refine st_cv (na := 1) (st := [.inl (-5), .inr (.inr (.inl 176))]) jo_176 rfl rfl rfl (c_X12_refuse (-5) h (by omega)) rfl ?_
        rintro _ _ g34 ⟨rfl, ft33, t33, rfl, ht33, zt33⟩ kt33
        replace kt33 : -2147483648 ≤ t33 ∧ t33 ≤ 2147483647 := kt33
        replace ht33 : -7 ≤ t33 ∧ t33 ≤ -1 := ht33
        have fg34 : jfr w_X12_copy h g34 := jfr_tr f0 ft33 ws_X12_refuse__X12_copy
        replace zt33 : t33 = (-5 : Int) := zt33
        have hs35 : ∀ i k : Int, 180 ≤ i → i ≤ 180 → g34 i k = h i k := fun i k p1 p2 => (ft33 i k (by unfold w_X12_refuse; omega))
        exact st_r0 (ls := []) ⟨rfl, rfl, fg34, t33, rfl, (by omega), (by refine ⟨by unfold P_X12_copy; by_cases zz : t33 = -4 <;> first | exact Or.inl ⟨by omega, hs35⟩ | exact Or.inr (Or.inl ⟨by omega, hs35⟩) | exact Or.inr (Or.inr (Or.inl ⟨by omega, hs35⟩)), fun _ i k q9 => ?_⟩; exact (ft33 i k (jzma_w_X12_refuse q9)))⟩
      · replace c32 : 0 ≤ v30 := by first | exact c32 | exact Int.not_le.mp c32 | exact Int.not_lt.mp c32 | exact Decidable.not_not.mp c32
        refine st_gr jo_176 jr_176_3 ?_
        refine st_ai jo_179 (show 0 ≤ a3 by omega) (show a3 < ((4 : Nat) : Int) by omega) (fun v36 ev36 b37 => ?_)
        replace ev36 : v36 = h 179 a3 := ev36
        replace b37 := (jba_179 a3 _).1 b37
        refine And.intro (fun c38 => ?_) (fun c38 => ?_)
        · replace c38 : 0 ≤ v36 := c38
          show jGo E l 33 229 229 _ 49 [.inr (.inr (.inl 176)), .inl a1, .inl a2, .inl a3, .inl a4, .inl a5, .inr (.inr (.inr ()))] [] 229 jr0 h
          refine jGo_blk qX12_copy_49 ?_
          refine And.intro (fun c39 => ?_) (fun c39 => ?_)
          · replace c39 : a5 < 0 := c39
            show jGo E l 33 229 229 _ 97 [.inr (.inr (.inl 176)), .inl a1, .inl a2, .inl a3, .inl a4, .inl a5, .inr (.inr (.inr ()))] [] 229 jr0 h
            refine jGo_blk qX12_copy_97 ?_
            refine st_cv (na := 1) (st := [.inl (-7), .inr (.inr (.inl 176))]) jo_176 rfl rfl rfl (c_X12_refuse (-7) h (by omega)) rfl ?_
            rintro _ _ g41 ⟨rfl, ft40, t40, rfl, ht40, zt40⟩ kt40
            replace kt40 : -2147483648 ≤ t40 ∧ t40 ≤ 2147483647 := kt40
            replace ht40 : -7 ≤ t40 ∧ t40 ≤ -1 := ht40
            have fg41 : jfr w_X12_copy h g41 := jfr_tr f0 ft40 ws_X12_refuse__X12_copy
            replace zt40 : t40 = (-7 : Int) := zt40
            have hs42 : ∀ i k : Int, 180 ≤ i → i ≤ 180 → g41 i k = h i k := fun i k p1 p2 => (ft40 i k (by unfold w_X12_refuse; omega))
            exact st_r0 (ls := []) ⟨rfl, rfl, fg41, t40, rfl, (by omega), (by refine ⟨by unfold P_X12_copy; by_cases zz : t40 = -4 <;> first | exact Or.inl ⟨by omega, hs42⟩ | exact Or.inr (Or.inl ⟨by omega, hs42⟩) | exact Or.inr (Or.inr (Or.inl ⟨by omega, hs42⟩)), fun _ i k q9 => ?_⟩; exact (ft40 i k (jzma_w_X12_refuse q9)))⟩
          · replace c39 : 0 ≤ a5 := by first | exact c39 | exact Int.not_le.mp c39 | exact Int.not_lt.mp c39 | exact Decidable.not_not.mp c39
            refine And.intro (fun c43 => ?_) (fun c43 => ?_)
            · replace c43 : 30 < a5 := c43
              show jGo E l 33 229 229 _ 97 [.inr (.inr (.inl 176)), .inl a1, .inl a2, .inl a3, .inl a4, .inl a5, .inr (.inr (.inr ()))] [] 229 jr0 h
              refine jGo_blk qX12_copy_97 ?_
              refine st_cv (na := 1) (st := [.inl (-7), .inr (.inr (.inl 176))]) jo_176 rfl rfl rfl (c_X12_refuse (-7) h (by omega)) rfl ?_
              rintro _ _ g45 ⟨rfl, ft44, t44, rfl, ht44, zt44⟩ kt44
              replace kt44 : -2147483648 ≤ t44 ∧ t44 ≤ 2147483647 := kt44
              replace ht44 : -7 ≤ t44 ∧ t44 ≤ -1 := ht44
              have fg45 : jfr w_X12_copy h g45 := jfr_tr f0 ft44 ws_X12_refuse__X12_copy
              replace zt44 : t44 = (-7 : Int) := zt44
              have hs46 : ∀ i k : Int, 180 ≤ i → i ≤ 180 → g45 i k = h i k := fun i k p1 p2 => (ft44 i k (by unfold w_X12_refuse; omega))
              exact st_r0 (ls := []) ⟨rfl, rfl, fg45, t44, rfl, (by omega), (by refine ⟨by unfold P_X12_copy; by_cases zz : t44 = -4 <;> first | exact Or.inl ⟨by omega, hs46⟩ | exact Or.inr (Or.inl ⟨by omega, hs46⟩) | exact Or.inr (Or.inr (Or.inl ⟨by omega, hs46⟩)), fun _ i k q9 => ?_⟩; exact (ft44 i k (jzma_w_X12_refuse q9)))⟩
            · replace c43 : a5 ≤ 30 := by first | exact c43 | exact Int.not_le.mp c43 | exact Int.not_lt.mp c43 | exact Decidable.not_not.mp c43
              refine And.intro (fun c47 => ?_) (fun c47 => ?_)
              · replace c47 : a2 < 0 := c47
                show jGo E l 33 229 229 _ 97 [.inr (.inr (.inl 176)), .inl a1, .inl a2, .inl a3, .inl a4, .inl a5, .inr (.inr (.inr ()))] [] 229 jr0 h
                refine jGo_blk qX12_copy_97 ?_
                refine st_cv (na := 1) (st := [.inl (-7), .inr (.inr (.inl 176))]) jo_176 rfl rfl rfl (c_X12_refuse (-7) h (by omega)) rfl ?_
                rintro _ _ g49 ⟨rfl, ft48, t48, rfl, ht48, zt48⟩ kt48
                replace kt48 : -2147483648 ≤ t48 ∧ t48 ≤ 2147483647 := kt48
                replace ht48 : -7 ≤ t48 ∧ t48 ≤ -1 := ht48
                have fg49 : jfr w_X12_copy h g49 := jfr_tr f0 ft48 ws_X12_refuse__X12_copy
                replace zt48 : t48 = (-7 : Int) := zt48
                have hs50 : ∀ i k : Int, 180 ≤ i → i ≤ 180 → g49 i k = h i k := fun i k p1 p2 => (ft48 i k (by unfold w_X12_refuse; omega))
                exact st_r0 (ls := []) ⟨rfl, rfl, fg49, t48, rfl, (by omega), (by refine ⟨by unfold P_X12_copy; by_cases zz : t48 = -4 <;> first | exact Or.inl ⟨by omega, hs50⟩ | exact Or.inr (Or.inl ⟨by omega, hs50⟩) | exact Or.inr (Or.inr (Or.inl ⟨by omega, hs50⟩)), fun _ i k q9 => ?_⟩; exact (ft48 i k (jzma_w_X12_refuse q9)))⟩
              · replace c47 : 0 ≤ a2 := by first | exact c47 | exact Int.not_le.mp c47 | exact Int.not_lt.mp c47 | exact Decidable.not_not.mp c47
                refine And.intro (fun c51 => ?_) (fun c51 => ?_)
                · replace c51 : a4 < 0 := c51
                  show jGo E l 33 229 229 _ 97 [.inr (.inr (.inl 176)), .inl a1, .inl a2, .inl a3, .inl a4, .inl a5, .inr (.inr (.inr ()))] [] 229 jr0 h
                  refine jGo_blk qX12_copy_97 ?_
                  refine st_cv (na := 1) (st := [.inl (-7), .inr (.inr (.inl 176))]) jo_176 rfl rfl rfl (c_X12_refuse (-7) h (by omega)) rfl ?_
                  rintro _ _ g53 ⟨rfl, ft52, t52, rfl, ht52, zt52⟩ kt52
                  replace kt52 : -2147483648 ≤ t52 ∧ t52 ≤ 2147483647 := kt52
                  replace ht52 : -7 ≤ t52 ∧ t52 ≤ -1 := ht52
                  have fg53 : jfr w_X12_copy h g53 := jfr_tr f0 ft52 ws_X12_refuse__X12_copy
                  replace zt52 : t52 = (-7 : Int) := zt52
                  have hs54 : ∀ i k : Int, 180 ≤ i → i ≤ 180 → g53 i k = h i k := fun i k p1 p2 => (ft52 i k (by unfold w_X12_refuse; omega))
                  exact st_r0 (ls := []) ⟨rfl, rfl, fg53, t52, rfl, (by omega), (by refine ⟨by unfold P_X12_copy; by_cases zz : t52 = -4 <;> first | exact Or.inl ⟨by omega, hs54⟩ | exact Or.inr (Or.inl ⟨by omega, hs54⟩) | exact Or.inr (Or.inr (Or.inl ⟨by omega, hs54⟩)), fun _ i k q9 => ?_⟩; exact (ft52 i k (jzma_w_X12_refuse q9)))⟩
                · replace c51 : 0 ≤ a4 := by first | exact c51 | exact Int.not_le.mp c51 | exact Int.not_lt.mp c51 | exact Decidable.not_not.mp c51
                  refine st_gr jo_176 jr_176_3 ?_
                  refine st_ai jo_179 (show 0 ≤ a1 by omega) (show a1 < ((4 : Nat) : Int) by omega) (fun v55 ev55 b56 => ?_)
                  replace ev55 : v55 = h 179 a1 := ev55
                  replace b56 := (jba_179 a1 _).1 b56
                  have e57 : jw32 (v55 - a5) = v55 - a5 := jzj32 (by omega)
                  refine And.intro (fun c58 => ?_) (fun c58 => ?_)
                  · replace c58 : jw32 (v55 - a5) < a2 := c58
                    show jGo E l 33 229 229 _ 97 [.inr (.inr (.inl 176)), .inl a1, .inl a2, .inl a3, .inl a4, .inl a5, .inr (.inr (.inr ()))] [] 229 jr0 h
                    refine jGo_blk qX12_copy_97 ?_
                    refine st_cv (na := 1) (st := [.inl (-7), .inr (.inr (.inl 176))]) jo_176 rfl rfl rfl (c_X12_refuse (-7) h (by omega)) rfl ?_
                    rintro _ _ g60 ⟨rfl, ft59, t59, rfl, ht59, zt59⟩ kt59
                    replace kt59 : -2147483648 ≤ t59 ∧ t59 ≤ 2147483647 := kt59
                    replace ht59 : -7 ≤ t59 ∧ t59 ≤ -1 := ht59
                    have fg60 : jfr w_X12_copy h g60 := jfr_tr f0 ft59 ws_X12_refuse__X12_copy
                    replace zt59 : t59 = (-7 : Int) := zt59
                    have hs61 : ∀ i k : Int, 180 ≤ i → i ≤ 180 → g60 i k = h i k := fun i k p1 p2 => (ft59 i k (by unfold w_X12_refuse; omega))
                    exact st_r0 (ls := []) ⟨rfl, rfl, fg60, t59, rfl, (by omega), (by refine ⟨by unfold P_X12_copy; by_cases zz : t59 = -4 <;> first | exact Or.inl ⟨by omega, hs61⟩ | exact Or.inr (Or.inl ⟨by omega, hs61⟩) | exact Or.inr (Or.inr (Or.inl ⟨by omega, hs61⟩)), fun _ i k q9 => ?_⟩; exact (ft59 i k (jzma_w_X12_refuse q9)))⟩
                  · replace c58 : a2 ≤ jw32 (v55 - a5) := by first | exact c58 | exact Int.not_le.mp c58 | exact Int.not_lt.mp c58 | exact Decidable.not_not.mp c58
                    refine st_gr jo_176 jr_176_3 ?_
                    refine st_ai jo_179 (show 0 ≤ a3 by omega) (show a3 < ((4 : Nat) : Int) by omega) (fun v62 ev62 b63 => ?_)
                    replace ev62 : v62 = h 179 a3 := ev62
                    replace b63 := (jba_179 a3 _).1 b63
                    have e64 : jw32 (v62 - a5) = v62 - a5 := jzj32 (by omega)
                    refine And.intro (fun c65 => ?_) (fun c65 => ?_)
                    · replace c65 : a4 ≤ jw32 (v62 - a5) := c65
                      show jGo E l 33 229 229 _ 104 [.inr (.inr (.inl 176)), .inl a1, .inl a2, .inl a3, .inl a4, .inl a5, .inr (.inr (.inr ()))] [] 229 jr0 h
                      refine jGo_blk qX12_copy_104 ?_
                      show jGo E l 33 229 229 _ 107 [.inr (.inr (.inl 176)), .inl a1, .inl a2, .inl a3, .inl a4, .inl a5, .inl 0] [] 229 jr0 h
                      exact (key 1000000000000).1 0 h (by omega) (by omega) (by exact ⟨fun k p1 p2 => absurd p2 (by omega), fun k => rfl⟩) f0 (by omega)
                    · replace c65 : jw32 (v62 - a5) < a4 := by first | exact c65 | exact Int.not_le.mp c65 | exact Int.not_lt.mp c65 | exact Decidable.not_not.mp c65
                      show jGo E l 33 229 229 _ 97 [.inr (.inr (.inl 176)), .inl a1, .inl a2, .inl a3, .inl a4, .inl a5, .inr (.inr (.inr ()))] [] 229 jr0 h
                      refine jGo_blk qX12_copy_97 ?_
                      refine st_cv (na := 1) (st := [.inl (-7), .inr (.inr (.inl 176))]) jo_176 rfl rfl rfl (c_X12_refuse (-7) h (by omega)) rfl ?_
                      rintro _ _ g67 ⟨rfl, ft66, t66, rfl, ht66, zt66⟩ kt66
                      replace kt66 : -2147483648 ≤ t66 ∧ t66 ≤ 2147483647 := kt66
                      replace ht66 : -7 ≤ t66 ∧ t66 ≤ -1 := ht66
                      have fg67 : jfr w_X12_copy h g67 := jfr_tr f0 ft66 ws_X12_refuse__X12_copy
                      replace zt66 : t66 = (-7 : Int) := zt66
                      have hs68 : ∀ i k : Int, 180 ≤ i → i ≤ 180 → g67 i k = h i k := fun i k p1 p2 => (ft66 i k (by unfold w_X12_refuse; omega))
                      exact st_r0 (ls := []) ⟨rfl, rfl, fg67, t66, rfl, (by omega), (by refine ⟨by unfold P_X12_copy; by_cases zz : t66 = -4 <;> first | exact Or.inl ⟨by omega, hs68⟩ | exact Or.inr (Or.inl ⟨by omega, hs68⟩) | exact Or.inr (Or.inr (Or.inl ⟨by omega, hs68⟩)), fun _ i k q9 => ?_⟩; exact (ft66 i k (jzma_w_X12_refuse q9)))⟩
        · replace c38 : v36 < 0 := by first | exact c38 | exact Int.not_le.mp c38 | exact Int.not_lt.mp c38 | exact Decidable.not_not.mp c38
          show jGo E l 33 229 229 _ 42 [.inr (.inr (.inl 176)), .inl a1, .inl a2, .inl a3, .inl a4, .inl a5, .inr (.inr (.inr ()))] [] 229 jr0 h
          refine jGo_blk qX12_copy_42 ?_
          refine st_cv (na := 1) (st := [.inl (-5), .inr (.inr (.inl 176))]) jo_176 rfl rfl rfl (c_X12_refuse (-5) h (by omega)) rfl ?_
          rintro _ _ g70 ⟨rfl, ft69, t69, rfl, ht69, zt69⟩ kt69
          replace kt69 : -2147483648 ≤ t69 ∧ t69 ≤ 2147483647 := kt69
          replace ht69 : -7 ≤ t69 ∧ t69 ≤ -1 := ht69
          have fg70 : jfr w_X12_copy h g70 := jfr_tr f0 ft69 ws_X12_refuse__X12_copy
          replace zt69 : t69 = (-5 : Int) := zt69
          have hs71 : ∀ i k : Int, 180 ≤ i → i ≤ 180 → g70 i k = h i k := fun i k p1 p2 => (ft69 i k (by unfold w_X12_refuse; omega))
          exact st_r0 (ls := []) ⟨rfl, rfl, fg70, t69, rfl, (by omega), (by refine ⟨by unfold P_X12_copy; by_cases zz : t69 = -4 <;> first | exact Or.inl ⟨by omega, hs71⟩ | exact Or.inr (Or.inl ⟨by omega, hs71⟩) | exact Or.inr (Or.inr (Or.inl ⟨by omega, hs71⟩)), fun _ i k q9 => ?_⟩; exact (ft69 i k (jzma_w_X12_refuse q9)))⟩
    · replace c29 : t27 = 0 := by first | exact c29 | exact Int.not_le.mp c29 | exact Int.not_lt.mp c29 | exact Decidable.not_not.mp c29
      show jGo E l 33 229 229 _ 18 [.inr (.inr (.inl 176)), .inl a1, .inl a2, .inl a3, .inl a4, .inl a5, .inr (.inr (.inr ()))] [] 229 jr0 h
      refine jGo_blk qX12_copy_18 ?_
      refine st_cv (na := 1) (st := [.inl (-1), .inr (.inr (.inl 176))]) jo_176 rfl rfl rfl (c_X12_refuse (-1) h (by omega)) rfl ?_
      rintro _ _ g73 ⟨rfl, ft72, t72, rfl, ht72, zt72⟩ kt72
      replace kt72 : -2147483648 ≤ t72 ∧ t72 ≤ 2147483647 := kt72
      replace ht72 : -7 ≤ t72 ∧ t72 ≤ -1 := ht72
      have fg73 : jfr w_X12_copy h g73 := jfr_tr f0 ft72 ws_X12_refuse__X12_copy
      replace zt72 : t72 = (-1 : Int) := zt72
      have hs74 : ∀ i k : Int, 180 ≤ i → i ≤ 180 → g73 i k = h i k := fun i k p1 p2 => (ft72 i k (by unfold w_X12_refuse; omega))
      exact st_r0 (ls := []) ⟨rfl, rfl, fg73, t72, rfl, (by omega), (by refine ⟨by unfold P_X12_copy; by_cases zz : t72 = -4 <;> first | exact Or.inl ⟨by omega, hs74⟩ | exact Or.inr (Or.inl ⟨by omega, hs74⟩) | exact Or.inr (Or.inr (Or.inl ⟨by omega, hs74⟩)), fun _ i k q9 => ?_⟩; exact (ft72 i k (jzma_w_X12_refuse q9)))⟩
