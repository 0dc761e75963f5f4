def w_X3_grow (i k : Int) : Prop := (i = 87)
def k_X3_grow (h : JH) (v : Option JV) (r' g : JH) : Prop := r' = jr0 ∧ jfr w_X3_grow h g ∧ v = none ∧ ((∀ t : Int, 0 ≤ t → t < 40 → h 87 t ≤ g 87 t ∧ g 87 t ≤ h 87 t + 9) ∧ g = jit jGw (h 84 0).toNat h)
set_option maxHeartbeats 4000000 in
theorem c_X3_grow {E : JE} {l : Launch} (h : JH) (q0 : jGok h) : jMt E l 85 [.inr (.inr (.inl 84))] 229 jr0 h (k_X3_grow h) := by
  refine jMt0 (nL := 2) (ls := [.inr (.inr (.inl 84)), .inr (.inr (.inr ()))]) (by decide +kernel) (by decide +kernel) (by decide +kernel) rfl rfl ?_
  have f0 : jfr w_X3_grow h h := jfr_rf _ _
  refine jGo_bd (fun hbd => ?_)
  have hb0 := (jbf_3_0 jo_84 _).1 (hbd 84 0)
  have key : ∀ N : Nat, (∀ (x1 : Int) (g : JH), (0 ≤ x1 ∧ x1 ≤ 40) → (∀ t : Int, 0 ≤ t → t < 40 → h 87 t ≤ g 87 t ∧ g 87 t ≤ h 87 t + 9 ∧ (x1 ≤ t → g 87 t = h 87 t)) → (g = jit jGw (x1).toNat h) → (g 84 0 = h 84 0 ∧ x1 ≤ h 84 0) → jfr w_X3_grow h g → (40 - x1) < (N : Int) → jGo E l 85 229 229 (jRK (k_X3_grow h)) 2 [.inr (.inr (.inl 84)), .inl x1] [] 229 jr0 g) := by
    intro N
    induction N with
    | zero => exact fun _ _ hi hx0 hx1 hx2 _ hN => absurd hN (by omega)
    | succ N ih =>
      intro x1 g hi hx0 hx1 hx2 hf hN
      refine jGo_blk qX3_grow_2 ?_
      refine st_gi jo_84 (fun v1 ev1 b2 => ?_)
      replace ev1 : v1 = g 84 0 := ev1
      replace b2 := (jbf_3_0 jo_84 _).1 b2
      refine And.intro (fun c3 => ?_) (fun c3 => ?_)
      · replace c3 : v1 ≤ x1 := c3
        show jGo E l 85 229 229 _ 44 [.inr (.inr (.inl 84)), .inl x1] [] 229 jr0 g
        refine jGo_blk qX3_grow_44 ?_
        exact ⟨rfl, rfl, hf, rfl, (by exact ⟨by exact fun t a b => ⟨(hx0 t a b).1, (hx0 t a b).2.1⟩, by rw [show h 84 0 = x1 by omega]; exact hx1⟩)⟩
      · replace c3 : x1 < v1 := by first | exact c3 | exact Int.not_le.mp c3 | exact Int.not_lt.mp c3 | exact Decidable.not_not.mp c3
        refine st_cv (na := 1) (st := [.inl x1, .inr (.inr (.inl 84))]) jo_84 rfl rfl rfl (c_X3_stands x1 g (by omega)) rfl ?_
        rintro _ _ _ ⟨rfl, rfl, t4, rfl, ht4, zt4⟩ kt4
        replace kt4 : -2147483648 ≤ t4 ∧ t4 ≤ 2147483647 := kt4
        replace ht4 : 0 ≤ t4 ∧ t4 ≤ 1 := ht4
        replace zt4 : (t4 = 1 ∧ g 88 x1 = -9) ∨ (t4 = 0 ∧ ¬ g 88 x1 = -9) := zt4
        refine And.intro (fun c6 => ?_) (fun c6 => ?_)
        · replace c6 : t4 = 0 := c6
          show jGo E l 85 229 229 _ 38 [.inr (.inr (.inl 84)), .inl x1] [] 229 jr0 g
          refine jGo_blk qX3_grow_38 ?_
          have e7 : jw32 (x1 + 1) = x1 + 1 := j32e (by omega) (by omega)
          show jGo E l 85 229 229 _ 2 [.inr (.inr (.inl 84)), .inl (jw32 (x1 + 1))] [] 229 jr0 g
          exact ih (jw32 (x1 + 1)) g (by omega) (by exact fun t a b => ⟨(hx0 t a b).1, (hx0 t a b).2.1, fun c => (hx0 t a b).2.2 (by omega)⟩) (by rw [show jw32 (x1 + 1) = x1 + 1 by omega, jit_s (by omega), ← hx1]; subst ev1; unfold jGw; (repeat (first | rw [if_pos (by omega)] | rw [if_neg (by omega)])); all_goals ((try rw [e7]); (try rfl))) (by omega) hf (by omega)
        · replace c6 : ¬ t4 = 0 := by first | exact c6 | exact Int.not_le.mp c6 | exact Int.not_lt.mp c6 | exact Decidable.not_not.mp c6
          refine st_gr jo_84 jr_84_3 ?_
          refine st_ai jo_87 (show 0 ≤ x1 by omega) (show x1 < ((40 : Nat) : Int) by omega) (fun v8 ev8 b9 => ?_)
          replace ev8 : v8 = g 87 x1 := ev8
          replace b9 := (jba_87 x1 _).1 b9
          have hq1 := (hx0 x1 (by omega) (by omega)).2.2 (by omega); have hq2 := q0 x1 (by omega) (by omega)
          refine st_gr jo_84 jr_84_6 ?_
          refine st_gr jo_84 jr_84_1 ?_
          refine st_ai jo_85 (show 0 ≤ x1 by omega) (show x1 < ((40 : Nat) : Int) by omega) (fun v10 ev10 b11 => ?_)
          replace ev10 : v10 = g 85 x1 := ev10
          replace b11 := (jba_85 x1 _).1 b11
          refine st_ai jo_90 (show 0 ≤ v10 by omega) (show v10 < ((3 : Nat) : Int) by omega) (fun v12 ev12 b13 => ?_)
          replace ev12 : v12 = g 90 v10 := ev12
          replace b13 := (jba_90 v10 _).1 b13
          have e14 : jw32 (v8 + v12) = v8 + v12 := j32e (by omega) (by omega)
          refine st_si jo_87 (show 0 ≤ x1 by omega) (show x1 < ((40 : Nat) : Int) by omega) (fun hx => (jba_87 _ _).2 hx) (fun g15 eg15 => ?_)
          replace eg15 : g15 = jup g 87 x1 (jw32 (v8 + v12)) := eg15
          have fg15 : jfr w_X3_grow h g15 := jfr_up hf eg15 (by unfold w_X3_grow; omega)
          have e16 : g15 87 x1 = jw32 (v8 + v12) := jup_s eg15
          show jGo E l 85 229 229 _ 38 [.inr (.inr (.inl 84)), .inl x1] [] 229 jr0 g15
          refine jGo_blk qX3_grow_38 ?_
          have e17 : jw32 (x1 + 1) = x1 + 1 := j32e (by omega) (by omega)
          show jGo E l 85 229 229 _ 2 [.inr (.inr (.inl 84)), .inl (jw32 (x1 + 1))] [] 229 jr0 g15
          have hc18 : ∀ t : Int, 0 ≤ t → t < 40 → h 87 t ≤ g15 87 t ∧ g15 87 t ≤ h 87 t + 9 ∧ (jw32 (x1 + 1) ≤ t → g15 87 t = h 87 t) := by
            intro t a b
            by_cases q : t = x1
            · subst q; rw [jup_s eg15]; exact ⟨by omega, by omega, fun c => absurd c (by omega)⟩
            · have q2 := hx0 t a b; rw [jup_o eg15 (by omega)]; exact ⟨q2.1, q2.2.1, fun c => q2.2.2 (by omega)⟩
          have e19 : g15 84 0 = g 84 0 := jup_o eg15 (by omega)
          exact ih (jw32 (x1 + 1)) g15 (by omega) (by exact hc18) (by rw [show jw32 (x1 + 1) = x1 + 1 by omega, jit_s (by omega), ← hx1]; subst eg15 ev12 ev10 ev8 ev1; unfold jGw; (repeat (first | rw [if_pos (by omega)] | rw [if_neg (by omega)])); all_goals ((try rw [e17]); (try rw [e14]); (try rfl))) (by omega) fg15 (by omega)
  refine jGo_blk qX3_grow_0 ?_
  show jGo E l 85 229 229 _ 2 [.inr (.inr (.inl 84)), .inl 0] [] 229 jr0 h
  exact (key 1000000000000) 0 h (by omega) (by exact fun t _ _ => ⟨Int.le_refl _, by omega, fun _ => rfl⟩) (by rfl) (by omega) f0 (by omega)
