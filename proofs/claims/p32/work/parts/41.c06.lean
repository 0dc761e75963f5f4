def w_X2_rewind (i k : Int) : Prop := (i = 15) ∨ (i = 11 ∧ k = 5)
def k_X2_rewind (h : JH) (v : Option JV) (r' g : JH) : Prop := r' = jr0 ∧ jfr w_X2_rewind h g ∧ v = none ∧ ((∀ t : Int, 0 ≤ t → t ≤ 9 → g 15 t = if t = 9 then 60 else 0) ∧ g 11 5 = 0)
set_option maxHeartbeats 4000000 in
theorem c_X2_rewind {E : JE} {l : Launch} (h : JH) : jMt E l 46 [.inr (.inr (.inl 11))] 229 jr0 h (k_X2_rewind h) := by
  refine jMt0 (nL := 2) (ls := [.inr (.inr (.inl 11)), .inr (.inr (.inr ()))]) (by decide +kernel) (by decide +kernel) (by decide +kernel) rfl rfl ?_
  have f0 : jfr w_X2_rewind h h := jfr_rf _ _
  have key : ∀ N : Nat, (∀ (x1 : Int) (g : JH), (0 ≤ x1 ∧ x1 ≤ 4) → ((∀ t : Int, 0 ≤ t → t < x1 → g 15 t = 0 ∧ g 15 (4 + t) = 0) ∧ g 11 5 = 0) → jfr w_X2_rewind h g → (4 - x1) < (N : Int) → jGo E l 46 229 229 (jRK (k_X2_rewind h)) 7 [.inr (.inr (.inl 11)), .inl x1] [] 229 jr0 g) := by
    intro N
    induction N with
    | zero => exact fun _ _ hi hx0 _ hN => absurd hN (by omega)
    | succ N ih =>
      intro x1 g hi hx0 hf hN
      refine jGo_blk qX2_rewind_7 ?_
      refine And.intro (fun c1 => ?_) (fun c1 => ?_)
      · replace c1 : 4 ≤ x1 := c1
        show jGo E l 46 229 229 _ 48 [.inr (.inr (.inl 11)), .inl x1] [] 229 jr0 g
        refine jGo_blk qX2_rewind_48 ?_
        refine st_gr jo_11 jr_11_4 ?_
        refine st_cs (na := 2) (st := [.inl 0, .inl 2, .inr (.inr (.inl 15))]) rfl rfl rfl (c_X2_slotOf 2 0 g (by omega)) rfl ?_
        rintro _ _ _ ⟨rfl, rfl, t2, rfl, ht2, zt2⟩ kt2
        replace kt2 : -2147483648 ≤ t2 ∧ t2 ≤ 2147483647 := kt2
        replace ht2 : 0 ≤ t2 ∧ t2 ≤ 9 := ht2
        replace zt2 : t2 = jsl (2 : Int) (0 : Int) := zt2
        refine st_xi (by decide) jx_k5 (jx_l5 E) (show 0 ≤ 2 by omega) (show 2 < ((4 : Nat) : Int) by omega) (fun v4 ev4 => ?_)
        have bv4 : 0 ≤ v4 ∧ v4 ≤ 60 := by rw [ev4]; exact jx_w5 E 2 (by omega) (by omega)
        replace ev4 : v4 = jxv E (-5) 2 := ev4
        have dv4 : v4 = 0 := ev4.trans ((jx_e5 E 2).trans rfl)
        refine st_si jo_15 (show 0 ≤ t2 by omega) (show t2 < ((10 : Nat) : Int) by omega) (fun hx => (jba_15 _ _).2 (show 0 ≤ v4 ∧ v4 ≤ 200 by omega)) (fun g5 eg5 => ?_)
        replace eg5 : g5 = jup g 15 t2 v4 := eg5
        have fg5 : jfr w_X2_rewind h g5 := jfr_up hf eg5 (by unfold w_X2_rewind; omega)
        have e6 : g5 15 t2 = v4 := jup_s eg5
        refine st_gr jo_11 jr_11_4 ?_
        refine st_cs (na := 2) (st := [.inl 0, .inl 3, .inr (.inr (.inl 15))]) rfl rfl rfl (c_X2_slotOf 3 0 g5 (by omega)) rfl ?_
        rintro _ _ _ ⟨rfl, rfl, t7, rfl, ht7, zt7⟩ kt7
        replace kt7 : -2147483648 ≤ t7 ∧ t7 ≤ 2147483647 := kt7
        replace ht7 : 0 ≤ t7 ∧ t7 ≤ 9 := ht7
        replace zt7 : t7 = jsl (3 : Int) (0 : Int) := zt7
        refine st_xi (by decide) jx_k5 (jx_l5 E) (show 0 ≤ 3 by omega) (show 3 < ((4 : Nat) : Int) by omega) (fun v9 ev9 => ?_)
        have bv9 : 0 ≤ v9 ∧ v9 ≤ 60 := by rw [ev9]; exact jx_w5 E 3 (by omega) (by omega)
        replace ev9 : v9 = jxv E (-5) 3 := ev9
        have dv9 : v9 = 60 := ev9.trans ((jx_e5 E 3).trans rfl)
        refine st_si jo_15 (show 0 ≤ t7 by omega) (show t7 < ((10 : Nat) : Int) by omega) (fun hx => (jba_15 _ _).2 (show 0 ≤ v9 ∧ v9 ≤ 200 by omega)) (fun g10 eg10 => ?_)
        replace eg10 : g10 = jup g5 15 t7 v9 := eg10
        have fg10 : jfr w_X2_rewind h g10 := jfr_up fg5 eg10 (by unfold w_X2_rewind; omega)
        have e11 : g10 15 t7 = v9 := jup_s eg10
        have hc12 : (∀ t : Int, 0 ≤ t → t ≤ 9 → g10 15 t = if t = 9 then 60 else 0) ∧ g10 11 5 = 0 := by
          have u1 : t2 = 8 := by rw [zt2]; unfold jsl; omega
          have u2 : t7 = 9 := by rw [zt7]; unfold jsl; omega
          refine ⟨fun t p1 p2 => ?_, ?_⟩
          · have E1 := jup_i eg10 15 t; have E2 := jup_i eg5 15 t
            rcases (show t < 4 ∨ (4 ≤ t ∧ t < 8) ∨ t = 8 ∨ t = 9 by omega) with q | q | q | q
            · have E5 := (hx0.1 t p1 (by omega)).1; omega
            · have E5 := (hx0.1 (t - 4) (by omega) (by omega)).2; rw [show 4 + (t - 4) = t by omega] at E5; omega
            · omega
            · omega
          · exact (jup_o eg10 (by omega)).trans ((jup_o eg5 (by omega)).trans hx0.2)
        exact ⟨rfl, rfl, fg10, rfl, (by exact hc12)⟩
      · replace c1 : x1 < 4 := by first | exact c1 | exact Int.not_le.mp c1 | exact Int.not_lt.mp c1 | exact Decidable.not_not.mp c1
        refine st_gr jo_11 jr_11_4 ?_
        refine st_cs (na := 2) (st := [.inl x1, .inl 0, .inr (.inr (.inl 15))]) rfl rfl rfl (c_X2_slotOf 0 x1 g (by omega)) rfl ?_
        rintro _ _ _ ⟨rfl, rfl, t13, rfl, ht13, zt13⟩ kt13
        replace kt13 : -2147483648 ≤ t13 ∧ t13 ≤ 2147483647 := kt13
        replace ht13 : 0 ≤ t13 ∧ t13 ≤ 9 := ht13
        replace zt13 : t13 = jsl (0 : Int) x1 := zt13
        refine st_xi (by decide) jx_k5 (jx_l5 E) (show 0 ≤ 0 by omega) (show 0 < ((4 : Nat) : Int) by omega) (fun v15 ev15 => ?_)
        have bv15 : 0 ≤ v15 ∧ v15 ≤ 60 := by rw [ev15]; exact jx_w5 E 0 (by omega) (by omega)
        replace ev15 : v15 = jxv E (-5) 0 := ev15
        have dv15 : v15 = 0 := ev15.trans ((jx_e5 E 0).trans rfl)
        refine st_si jo_15 (show 0 ≤ t13 by omega) (show t13 < ((10 : Nat) : Int) by omega) (fun hx => (jba_15 _ _).2 (show 0 ≤ v15 ∧ v15 ≤ 200 by omega)) (fun g16 eg16 => ?_)
        replace eg16 : g16 = jup g 15 t13 v15 := eg16
        have fg16 : jfr w_X2_rewind h g16 := jfr_up hf eg16 (by unfold w_X2_rewind; omega)
        have e17 : g16 15 t13 = v15 := jup_s eg16
        refine st_gr jo_11 jr_11_4 ?_
        refine st_cs (na := 2) (st := [.inl x1, .inl 1, .inr (.inr (.inl 15))]) rfl rfl rfl (c_X2_slotOf 1 x1 g16 (by omega)) rfl ?_
        rintro _ _ _ ⟨rfl, rfl, t18, rfl, ht18, zt18⟩ kt18
        replace kt18 : -2147483648 ≤ t18 ∧ t18 ≤ 2147483647 := kt18
        replace ht18 : 0 ≤ t18 ∧ t18 ≤ 9 := ht18
        replace zt18 : t18 = jsl (1 : Int) x1 := zt18
        refine st_xi (by decide) jx_k5 (jx_l5 E) (show 0 ≤ 1 by omega) (show 1 < ((4 : Nat) : Int) by omega) (fun v20 ev20 => ?_)
        have bv20 : 0 ≤ v20 ∧ v20 ≤ 60 := by rw [ev20]; exact jx_w5 E 1 (by omega) (by omega)
        replace ev20 : v20 = jxv E (-5) 1 := ev20
        have dv20 : v20 = 0 := ev20.trans ((jx_e5 E 1).trans rfl)
        refine st_si jo_15 (show 0 ≤ t18 by omega) (show t18 < ((10 : Nat) : Int) by omega) (fun hx => (jba_15 _ _).2 (show 0 ≤ v20 ∧ v20 ≤ 200 by omega)) (fun g21 eg21 => ?_)
        replace eg21 : g21 = jup g16 15 t18 v20 := eg21
        have fg21 : jfr w_X2_rewind h g21 := jfr_up fg16 eg21 (by unfold w_X2_rewind; omega)
        have e22 : g21 15 t18 = v20 := jup_s eg21
        have e23 : jw32 (x1 + 1) = x1 + 1 := j32e (by omega) (by omega)
        show jGo E l 46 229 229 _ 7 [.inr (.inr (.inl 11)), .inl (jw32 (x1 + 1))] [] 229 jr0 g21
        have e24 : g21 11 5 = g16 11 5 := jup_o eg21 (by omega)
        have e25 : g16 11 5 = g 11 5 := jup_o eg16 (by omega)
        have hc26 : (∀ t : Int, 0 ≤ t → t < jw32 (x1 + 1) → g21 15 t = 0 ∧ g21 15 (4 + t) = 0) ∧ g21 11 5 = 0 := by
          have u1 : t13 = x1 := by rw [zt13]; unfold jsl; omega
          have u2 : t18 = 4 + x1 := by rw [zt18]; unfold jsl; omega
          refine ⟨fun t p1 p2 => ?_, ?_⟩
          · have E1 := jup_i eg21 15 t; have E2 := jup_i eg16 15 t; have E3 := jup_i eg21 15 (4 + t); have E4 := jup_i eg16 15 (4 + t)
            by_cases z : t = x1
            · constructor <;> omega
            · have E5 := hx0.1 t p1 (by omega); constructor <;> omega
          · exact (jup_o eg21 (by omega)).trans ((jup_o eg16 (by omega)).trans hx0.2)
        exact ih (jw32 (x1 + 1)) g21 (by omega) (by exact hc26) fg21 (by omega)
  refine jGo_blk qX2_rewind_0 ?_
  refine st_pi jo_11 (fun hx => (jbf_2_5 jo_11 _).2 (show 0 ≤ 0 ∧ 0 ≤ 40 by omega)) (fun g27 eg27 => ?_)
  replace eg27 : g27 = jup h 11 5 0 := eg27
  have fg27 : jfr w_X2_rewind h g27 := jfr_up f0 eg27 (by unfold w_X2_rewind; omega)
  have e28 : g27 11 5 = 0 := jup_s eg27
  show jGo E l 46 229 229 _ 7 [.inr (.inr (.inl 11)), .inl 0] [] 229 jr0 g27
  exact (key 1000000000000) 0 g27 (by omega) (by exact ⟨fun t p1 p2 => absurd p2 (by omega), jup_s eg27⟩) fg27 (by omega)
