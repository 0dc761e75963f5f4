def w_X2_rewind (i k : Int) : Prop := (i = 15) ∨ (i = 11 ∧ k = 5)
def k_X2_rewind (h : JH) (v : Option JV) (r' g : JH) : Prop := r' = jr0 ∧ jfr w_X2_rewind h g ∧ v = none ∧ ((∀ t : Int, 0 ≤ t → t ≤ 9 → g 15 t = if t = 9 then 60 else 0) ∧ g 11 5 = 0)
set_option maxHeartbeats 4000000 in
theorem c_X2_rewind {E : JE} {l : Launch} (h : JH) : jMt E l 46 [.inr (.inr (.inl 11))] 229 jr0 h (k_X2_rewind h) := by
  refine jMt0 (nL := 2) (ls := [.inr (.inr (.inl 11)), .inr (.inr (.inr ()))]) (by decide +kernel) (by decide +kernel) (by decide +kernel) rfl rfl ?_
  have f0 : jfr w_X2_rewind h h := jfr_rf _ _
  have key : ∀ N : Nat, (∀ (x1 : Int) (g : JH), (0 ≤ x1 ∧ x1 ≤ 4) → ((∀ t : Int, 0 ≤ t → t < x1 → g 15 t = 0 ∧ g 15 (4 + t) = 0) ∧ g 11 5 = 0) → jfr w_X2_rewind h g → (4 - x1) < (N : Int) → jGo E l 46 229 229 (jRK (k_X2_rewind h)) 7 [.inr (.inr (.inl 11)), .inl x1] [] 229 jr0 g) := by
    intro N
    induction N with
    | zero => exact fun _ _ hi hx0 _ hN => absurd hN (by omega)
    | succ N ih =>
      intro x1 g hi hx0 hf hN
      refine jGo_blk qX2_rewind_7 ?_
      refine And.intro (fun c1 => ?_) (fun c1 => ?_)
      · replace c1 : 4 ≤ x1 := c1
        show jGo E l 46 229 229 _ 48 [.inr (.inr (.inl 11)), .inl x1] [] 229 jr0 g
        refine jGo_blk qX2_rewind_48 ?_
        refine st_gr jo_11 jr_11_4 ?_
        refine st_cs (na := 2) (st := [.inl 0, .inl 2, .inr (.inr (.inl 15))]) rfl rfl rfl (c_X2_slotOf 2 0 g (by omega)) rfl ?_
        rintro _ _ _ ⟨rfl, rfl, t2, rfl, ht2, zt2⟩ kt2
        replace kt2 : -2147483648 ≤ t2 ∧ t2 ≤ 2147483647 := kt2
        replace ht2 : 0 ≤ t2 ∧ t2 ≤ 9 := ht2
        replace zt2 : t2 = jsl (2 : Int) (0 : Int) := zt2
        refine st_xi (by decide) jx_k5 (jx_l5 E) (show 0 ≤ 2 by omega) (show 2 < ((4 : Nat) : Int) by omega) (fun v4 ev4 => ?_)
        have bv4 : 0 ≤ v4 ∧ v4 ≤ 60 := by rw [ev4]; exact jx_w5 E 2 (by omega) (by omega)
        replace ev4 : v4 = jxv E (-5) 2 := ev4
        have dv4 : v4 = 0 := ev4.trans ((jx_e5 E 2).trans rfl)
        refine st_si jo_15 (show 0 ≤ t2 by omega) (show t2 < ((10 : Nat) : Int) by omega) (fun hx => (jba_15 _ _).2 (show 0 ≤ v4 ∧ v4 ≤ 200 by omega)) (fun g5 eg5 => ?_)
        replace eg5 : g5 = jup g 15 t2 v4 := eg5
        have fg5 : jfr w_X2_rewind h g5 := jfr_up hf eg5 (by unfold w_X2_rewind; omega)
        have e6 : g5 15 t2 = v4 := jup_s eg5
        refine st_gr jo_11 jr_11_4 ?_
        refine st_cs (na := 2) (st := [.inl 0, .inl 3, .inr (.inr (.inl 15))]) rfl rfl rfl (c_X2_slotOf 3 0 g5 (by omega)) rfl ?_
        rintro _ _ _ ⟨rfl, rfl, t7, rfl, ht7, zt7⟩ kt7
        replace kt7 : -2147483648 ≤ t7 ∧ t7 ≤ 2147483647 := kt7
        replace ht7 : 0 ≤ t7 ∧ t7 ≤ 9 := ht7
        replace zt7 : t7 = jsl (3 : Int) (0 : Int) := zt7
        refine st_xi (by decide) jx_k5 (jx_l5 E) (show 0 ≤ 3 by omega) (show 3 < ((4 : Nat) : Int) by omega) (fun v9 ev9 => ?_)
        have bv9 : 0 ≤ v9 ∧ v9 ≤ 60 := by rw [ev9]; exact jx_w5 E 3 (by omega) (by omega)
        replace ev9 : v9 = jxv E (-5) 3 := ev9
        have dv9 : v9 = 60 := ev9.trans ((jx_e5 E 3).trans rfl)
        refine st_si jo_15 (show 0 ≤ t7 by omega) (show t7 < ((10 : Nat) : Int) by omega) (fun hx => (jba_15 _ _).2 (show 0 ≤ v9 ∧ v9 ≤ 200 by omega)) (fun g10 eg10 => ?_)
        replace eg10 : g10 = jup g5 15 t7 v9 := eg10
        have fg10 : jfr w_X2_rewind h g10 := jfr_up fg5 eg10 (by unfold w_X2_rewind; omega)
        have e11 : g10 15 t7 = v9 := jup_s eg10
        have hc12 : (∀ t : Int, 0 ≤ t → t ≤ 9 → g10 15 t = if t = 9 then 60 else 0) ∧ g10 11 5 = 0 := by
          have u1 : t2 = 8 := by rw [zt2]; unfold jsl; omega
          have u2 : t7 = 9 := by rw [zt7]; unfold jsl; omega
          refine ⟨fun t p1 p2 => ?_, ?_⟩
          · have E1 := jup_i eg10 15 t; have E2 := jup_i eg5 15 t
            rcases (show t < 4 ∨ (4 ≤ t ∧ t < 8) ∨ t = 8 ∨ t = 9 by omega) with q | q | q | q
            · have E5 := (hx0.1 t p1 (by omega)).1; omega
            · have E5 := (hx0.1 (t - 4) (by omega) (by omega)).2; rw [show 4 + (t - 4) = t by omega] at E5; omega
            · omega
            · omega
          · exact (jup_o eg10 (by first | exact fun q => absurd q.1 (by decide) | exact fun q => absurd q.2 (by decide) | omega)).trans ((jup_o eg5 (by first | exact fun q => absurd q.1 (by decide) | exact fun q => absurd q.2 (by decide) | omega)).trans hx0.2)
        exact ⟨rfl, rfl, fg10, rfl, (by exact hc12)⟩
      · replace c1 : x1 < 4 := by first | exact c1 | exact Int.not_le.mp c1 | exact Int.not_lt.mp c1 | exact Decidable.not_not.mp c1
        refine st_gr jo_11 jr_11_4 ?_
        refine st_cs (na := 2) (st := [.inl x1, .inl 0, .inr (.inr (.inl 15))]) rfl rfl rfl (c_X2_slotOf 0 x1 g (by omega)) rfl ?_
        rintro _ _ _ ⟨rfl, rfl, t13, rfl, ht13, zt13⟩ kt13
        replace kt13 : -2147483648 ≤ t13 ∧ t13 ≤ 2147483647 := kt13
        replace ht13 : 0 ≤ t13 ∧ t13 ≤ 9 := ht13
        replace zt13 : t13 = jsl (0 : Int) x1 := zt13
        refine st_xi (by decide) jx_k5 (jx_l5 E) (show 0 ≤ 0 by omega) (show 0 < ((4 : Nat) : Int) by omega) (fun v15 ev15 => ?_)
        have bv15 : 0 ≤ v15 ∧ v15 ≤ 60 := by rw [ev15]; exact jx_w5 E 0 (by omega) (by omega)
        replace ev15 : v15 = jxv E (-5) 0 := ev15
        have dv15 : v15 = 0 := ev15.trans ((jx_e5 E 0).trans rfl)
        refine st_si jo_15 (show 0 ≤ t13 by omega) (show t13 < ((10 : Nat) : Int) by omega) (fun hx => (jba_15 _ _).2 (show 0 ≤ v15 ∧ v15 ≤ 200 by omega)) (fun g16 eg16 => ?_)
        replace eg16 : g16 = jup g 15 t13 v15 := eg16
        have fg16 : jfr w_X2_rewind h g16 := jfr_up hf eg16 (by unfold w_X2_rewind; omega)
        have e17 : g16 15 t13 = v15 := jup_s eg16
        refine st_gr jo_11 jr_11_4 ?_
        refine st_cs (na := 2) (st := [.inl x1, .inl 1, .inr (.inr (.inl 15))]) rfl rfl rfl (c_X2_slotOf 1 x1 g16 (by omega)) rfl ?_
        rintro _ _ _ ⟨rfl, rfl, t18, rfl, ht18, zt18⟩ kt18
        replace kt18 : -2147483648 ≤ t18 ∧ t18 ≤ 2147483647 := kt18
        replace ht18 : 0 ≤ t18 ∧ t18 ≤ 9 := ht18
        replace zt18 : t18 = jsl (1 : Int) x1 := zt18
        refine st_xi (by decide) jx_k5 (jx_l5 E) (show 0 ≤ 1 by omega) (show 1 < ((4 : Nat) : Int) by omega) (fun v20 ev20 => ?_)
        have bv20 : 0 ≤ v20 ∧ v20 ≤ 60 := by rw [ev20]; exact jx_w5 E 1 (by omega) (by omega)
        replace ev20 : v20 = jxv E (-5) 1 := ev20
        have dv20 : v20 = 0 := ev20.trans ((jx_e5 E 1).trans rfl)
        refine st_si jo_15 (show 0 ≤ t18 by omega) (show t18 < ((10 : Nat) : Int) by omega) (fun hx => (jba_15 _ _).2 (show 0 ≤ v20 ∧ v20 ≤ 200 by omega)) (fun g21 eg21 => ?_)
        replace eg21 : g21 = jup g16 15 t18 v20 := eg21
        have fg21 : jfr w_X2_rewind h g21 := jfr_up fg16 eg21 (by unfold w_X2_rewind; omega)
        have e22 : g21 15 t18 = v20 := jup_s eg21
        have e23 : jw32 (x1 + 1) = x1 + 1 := jzj32 (by omega)
        show jGo E l 46 229 229 _ 7 [.inr (.inr (.inl 11)), .inl (jw32 (x1 + 1))] [] 229 jr0 g21
        have e24 : g21 11 5 = g16 11 5 := jup_o eg21 (by first | exact fun q => absurd q.1 (by decide) | exact fun q => absurd q.2 (by decide) | omega)
        have e25 : g16 11 5 = g 11 5 := jup_o eg16 (by first | exact fun q => absurd q.1 (by decide) | exact fun q => absurd q.2 (by decide) | omega)
        have hc26 : (∀ t : Int, 0 ≤ t → t < jw32 (x1 + 1) → g21 15 t = 0 ∧ g21 15 (4 + t) = 0) ∧ g21 11 5 = 0 := by
          have u1 : t13 = x1 := by rw [zt13]; unfold jsl; omega
          have u2 : t18 = 4 + x1 := by rw [zt18]; unfold jsl; omega
          refine ⟨fun t p1 p2 => ?_, ?_⟩
          · have E1 := jup_i eg21 15 t; have E2 := jup_i eg16 15 t; have E3 := jup_i eg21 15 (4 + t); have E4 := jup_i eg16 15 (4 + t)
            by_cases z : t = x1
            · constructor <;> omega
            · have E5 := hx0.1 t p1 (by omega); constructor <;> omega
          · exact (jup_o eg21 (by first | exact fun q => absurd q.1 (by decide) | exact fun q => absurd q.2 (by decide) | omega)).trans ((jup_o eg16 (by first | exact fun q => absurd q.1 (by decide) | exact fun q => absurd q.2 (by decide) | omega)).trans hx0.2)
        exact ih (jw32 (x1 + 1)) g21 (by omega) (by exact hc26) fg21 (by omega)
  refine jGo_blk qX2_rewind_0 ?_
  refine st_pi jo_11 (fun hx => (jbf_2_5 jo_11 _).2 (show 0 ≤ 0 ∧ 0 ≤ 40 by omega)) (fun g27 eg27 => ?_)
  replace eg27 : g27 = jup h 11 5 0 := eg27
  have fg27 : jfr w_X2_rewind h g27 := jfr_up f0 eg27 (by unfold w_X2_rewind; omega)
  have e28 : g27 11 5 = 0 := jup_s eg27
  show jGo E l 46 229 229 _ 7 [.inr (.inr (.inl 11)), .inl 0] [] 229 jr0 g27
  exact (key 1000000000000) 0 g27 (by omega) (by exact ⟨fun t p1 p2 => absurd p2 (by omega), jup_s eg27⟩) fg27 (by omega)

def w_X2_goOnTo (i k : Int) : Prop := (i = 15) ∨ (i = 11 ∧ k = 5)
def k_X2_goOnTo (a1 : Int) (h : JH) (v : Option JV) (r' g : JH) : Prop := r' = jr0 ∧ jfr w_X2_goOnTo h g ∧ v = none ∧ (jGOP a1 h g)
set_option maxHeartbeats 4000000 in
theorem c_X2_goOnTo {E : JE} {l : Launch} (a1 : Int) (h : JH) : jMt E l 47 [.inr (.inr (.inl 11)), .inl a1] 229 jr0 h (k_X2_goOnTo a1 h) := by
  refine jMt0 (nL := 2) (ls := [.inr (.inr (.inl 11)), .inl a1]) (by decide +kernel) (by decide +kernel) (by decide +kernel) rfl rfl ?_
  have f0 : jfr w_X2_goOnTo h h := jfr_rf _ _
  refine jGo_bd (fun hbd => ?_)
  have hb0 := (jbf_2_5 jo_11 _).1 (hbd 11 5)
  have key : ∀ N : Nat, (∀ (g : JH), (True) → (0 ≤ g 11 5 ∧ g 11 5 ≤ 40) → ((jCo h → jCo g) ∧ h 11 5 ≤ g 11 5 ∧ (∀ i : Int, h 11 5 ≤ i → i < g 11 5 → h 14 i ≤ a1) ∧ (h 11 5 ≤ h 11 0 → g 11 5 ≤ h 11 0)) → jfr w_X2_goOnTo h g → 40 - g 11 5 < (N : Int) → jGo E l 47 229 229 (jRK (k_X2_goOnTo a1 h)) 0 [.inr (.inr (.inl 11)), .inl a1] [] 229 jr0 g) := by
    intro N
    induction N with
    | zero => exact fun _ hi hx0 hx1 _ hN => absurd hN (by omega)
    | succ N ih =>
      intro g hi hx0 hx1 hf hN
      refine jGo_blk qX2_goOnTo_0 ?_
      refine st_gi jo_11 (fun v1 ev1 b2 => ?_)
      replace ev1 : v1 = g 11 5 := ev1
      replace b2 := (jbf_2_5 jo_11 _).1 b2
      refine st_gi jo_11 (fun v3 ev3 b4 => ?_)
      replace ev3 : v3 = g 11 0 := ev3
      replace b4 := (jbf_2_0 jo_11 _).1 b4
      refine And.intro (fun c5 => ?_) (fun c5 => ?_)
      · replace c5 : v3 ≤ v1 := c5
        show jGo E l 47 229 229 _ 60 [.inr (.inr (.inl 11)), .inl a1] [] 229 jr0 g
        refine jGo_blk qX2_goOnTo_60 ?_
        have hc6 : h 11 0 ≤ g 11 5 ∨ a1 < h 14 (g 11 5) := by
          have k0 : g 11 0 = h 11 0 := hf 11 0 (by unfold w_X2_goOnTo; omega)
          exact Or.inl (by omega)
        exact ⟨rfl, rfl, hf, rfl, (by unfold jGOP; exact ⟨hx1.1, hx1.2.1, hx1.2.2.1, hx1.2.2.2, hc6⟩)⟩
      · replace c5 : v1 < v3 := by first | exact c5 | exact Int.not_le.mp c5 | exact Int.not_lt.mp c5 | exact Decidable.not_not.mp c5
        refine st_gr jo_11 jr_11_3 ?_
        refine st_gi jo_11 (fun v7 ev7 b8 => ?_)
        replace ev7 : v7 = g 11 5 := ev7
        replace b8 := (jbf_2_5 jo_11 _).1 b8
        refine st_ai jo_14 (show 0 ≤ v7 by omega) (show v7 < ((40 : Nat) : Int) by omega) (fun v9 ev9 b10 => ?_)
        replace ev9 : v9 = g 14 v7 := ev9
        replace b10 := (jba_14 v7 _).1 b10
        refine And.intro (fun c11 => ?_) (fun c11 => ?_)
        · replace c11 : a1 < v9 := c11
          show jGo E l 47 229 229 _ 60 [.inr (.inr (.inl 11)), .inl a1] [] 229 jr0 g
          refine jGo_blk qX2_goOnTo_60 ?_
          have hc12 : h 11 0 ≤ g 11 5 ∨ a1 < h 14 (g 11 5) := by
            have k0 : g 11 0 = h 11 0 := hf 11 0 (by unfold w_X2_goOnTo; omega)
            have q1 := hf 14 (g 11 5) (by unfold w_X2_goOnTo; omega); rw [show v7 = g 11 5 by omega] at ev9; exact Or.inr (by omega)
          exact ⟨rfl, rfl, hf, rfl, (by unfold jGOP; exact ⟨hx1.1, hx1.2.1, hx1.2.2.1, hx1.2.2.2, hc12⟩)⟩
        · replace c11 : v9 ≤ a1 := by first | exact c11 | exact Int.not_le.mp c11 | exact Int.not_lt.mp c11 | exact Decidable.not_not.mp c11
          refine st_gr jo_11 jr_11_4 ?_
          refine st_gr jo_11 jr_11_1 ?_
          refine st_gi jo_11 (fun v13 ev13 b14 => ?_)
          replace ev13 : v13 = g 11 5 := ev13
          replace b14 := (jbf_2_5 jo_11 _).1 b14
          refine st_ai jo_12 (show 0 ≤ v13 by omega) (show v13 < ((40 : Nat) : Int) by omega) (fun v15 ev15 b16 => ?_)
          replace ev15 : v15 = g 12 v13 := ev15
          replace b16 := (jba_12 v13 _).1 b16
          refine st_gr jo_11 jr_11_2 ?_
          refine st_gi jo_11 (fun v17 ev17 b18 => ?_)
          replace ev17 : v17 = g 11 5 := ev17
          replace b18 := (jbf_2_5 jo_11 _).1 b18
          refine st_ai jo_13 (show 0 ≤ v17 by omega) (show v17 < ((40 : Nat) : Int) by omega) (fun v19 ev19 b20 => ?_)
          replace ev19 : v19 = g 13 v17 := ev19
          replace b20 := (jba_13 v17 _).1 b20
          refine st_si jo_15 (show 0 ≤ v15 by omega) (show v15 < ((10 : Nat) : Int) by omega) (fun hx => (jba_15 _ _).2 (show 0 ≤ v19 ∧ v19 ≤ 200 by omega)) (fun g21 eg21 => ?_)
          replace eg21 : g21 = jup g 15 v15 v19 := eg21
          have fg21 : jfr w_X2_goOnTo h g21 := jfr_up hf eg21 (by unfold w_X2_goOnTo; omega)
          have e22 : g21 15 v15 = v19 := jup_s eg21
          refine st_gi jo_11 (fun v23 ev23 b24 => ?_)
          replace ev23 : v23 = g21 11 5 := ev23
          replace b24 := (jbf_2_5 jo_11 _).1 b24
          have e25 : g21 11 5 = g 11 5 := jup_o eg21 (by first | exact fun q => absurd q.1 (by decide) | exact fun q => absurd q.2 (by decide) | omega)
          have e26 : jw32 (v23 + 1) = v23 + 1 := jzj32 (by omega)
          refine st_pi jo_11 (fun hx => (jbf_2_5 jo_11 _).2 (show 0 ≤ jw32 (v23 + 1) ∧ jw32 (v23 + 1) ≤ 40 by omega)) (fun g27 eg27 => ?_)
          replace eg27 : g27 = jup g21 11 5 (jw32 (v23 + 1)) := eg27
          have fg27 : jfr w_X2_goOnTo h g27 := jfr_up fg21 eg27 (by unfold w_X2_goOnTo; omega)
          have e28 : g27 11 5 = jw32 (v23 + 1) := jup_s eg27
          show jGo E l 47 229 229 _ 0 [.inr (.inr (.inl 11)), .inl a1] [] 229 jr0 g27
          have hc29 : (jCo h → jCo g27) ∧ h 11 5 ≤ g27 11 5 ∧ (∀ i : Int, h 11 5 ≤ i → i < g27 11 5 → h 14 i ≤ a1) ∧ (h 11 5 ≤ h 11 0 → g27 11 5 ≤ h 11 0) := by
            have k5 : g27 11 5 = g 11 5 + 1 := by have E1 := jup_i eg27 11 5; have E2 := jup_i eg21 11 5; omega
            have k14 : h 14 (g 11 5) ≤ a1 := by have q1 := hf 14 (g 11 5) (by unfold w_X2_goOnTo; omega); rw [show v7 = g 11 5 by omega] at ev9; omega
            have k0 : g 11 0 = h 11 0 := hf 11 0 (by unfold w_X2_goOnTo; omega)
            refine ⟨fun q => jCo_st (hx1.1 q) (by omega) (fun k => (jup_o eg27 (by first | exact fun q => absurd q.1 (by decide) | exact fun q => absurd q.2 (by decide) | omega)).trans (jup_o eg21 (by first | exact fun q => absurd q.1 (by decide) | exact fun q => absurd q.2 (by decide) | omega))) (fun k => (jup_o eg27 (by first | exact fun q => absurd q.1 (by decide) | exact fun q => absurd q.2 (by decide) | omega)).trans (jup_o eg21 (by first | exact fun q => absurd q.1 (by decide) | exact fun q => absurd q.2 (by decide) | omega))) k5 (fun t => ?_), by omega, fun i a b => ?_, fun q => by omega⟩
            · have E1 := jup_i eg27 15 t; have E2 := jup_i eg21 15 t; rw [show v13 = g 11 5 by omega] at ev15; rw [show v17 = g 11 5 by omega] at ev19; omega
            · by_cases z : i = g 11 5
              · rw [z]; exact k14
              · exact hx1.2.2.1 i a (by omega)
          exact ih g27 trivial (by omega) (by exact hc29) fg27 (by omega)
  show jGo E l 47 229 229 _ 0 [.inr (.inr (.inl 11)), .inl a1] [] 229 jr0 h
  exact (key 1000000000000) h trivial (by omega) (by exact ⟨fun q => q, Int.le_refl _, fun i a b => absurd a (by omega), fun q => q⟩) f0 (by omega)

def k_X2_inForce (a1 : Int) (a2 : Int) (h : JH) (v : Option JV) (r' g : JH) : Prop := r' = jr0 ∧ h = g ∧ ∃ x : Int, v = some (.inl x) ∧ (0 ≤ x ∧ x ≤ 200) ∧ (x = h 15 (jsl a1 a2))
set_option maxHeartbeats 4000000 in
theorem c_X2_inForce {E : JE} {l : Launch} (a1 : Int) (a2 : Int) (h : JH) (p2 : 0 ≤ a2 ∧ a2 ≤ 3) : jMt E l 48 [.inr (.inr (.inl 11)), .inl a1, .inl a2] 229 jr0 h (k_X2_inForce a1 a2 h) := by
  refine jMt0 (nL := 3) (ls := [.inr (.inr (.inl 11)), .inl a1, .inl a2]) (by decide +kernel) (by decide +kernel) (by decide +kernel) rfl rfl ?_
  refine jGo_blk qX2_inForce_0 ?_
  refine st_gr jo_11 jr_11_4 ?_
  refine st_cs (na := 2) (st := [.inl a2, .inl a1, .inr (.inr (.inl 15))]) rfl rfl rfl (c_X2_slotOf a1 a2 h (by omega)) rfl ?_
  rintro _ _ _ ⟨rfl, rfl, t1, rfl, ht1, zt1⟩ kt1
  replace kt1 : -2147483648 ≤ t1 ∧ t1 ≤ 2147483647 := kt1
  replace ht1 : 0 ≤ t1 ∧ t1 ≤ 9 := ht1
  replace zt1 : t1 = jsl a1 a2 := zt1
  refine st_ai jo_15 (show 0 ≤ t1 by omega) (show t1 < ((10 : Nat) : Int) by omega) (fun v3 ev3 b4 => ?_)
  replace ev3 : v3 = h 15 t1 := ev3
  replace b4 := (jba_15 t1 _).1 b4
  exact st_r0 (ls := []) ⟨rfl, rfl, rfl, v3, rfl, (by omega), (by rw [← zt1]; exact ev3)⟩

def w_X11_force (i k : Int) : Prop := (i = 1) ∨ (i = 15) ∨ (i = 11 ∧ k = 5)
theorem ws_X11_refused__X11_force (i k : Int) (q : w_X11_refused i k) : w_X11_force i k := by
  unfold w_X11_refused at q; unfold w_X11_force
  exact (Or.inl (by omega))
theorem ws_X2_rewind__X11_force (i k : Int) (q : w_X2_rewind i k) : w_X11_force i k := by
  unfold w_X2_rewind at q; unfold w_X11_force
  rcases q with q | q
  · exact (Or.inr (Or.inl (by omega)))
  · exact (Or.inr (Or.inr (by omega)))
theorem ws_X2_goOnTo__X11_force (i k : Int) (q : w_X2_goOnTo i k) : w_X11_force i k := by
  unfold w_X2_goOnTo at q; unfold w_X11_force
  rcases q with q | q
  · exact (Or.inr (Or.inl (by omega)))
  · exact (Or.inr (Or.inr (by omega)))
def k_X11_force (a1 : Int) (a2 : Int) (a3 : Int) (h : JH) (v : Option JV) (r' g : JH) : Prop := r' = jr0 ∧ jfr w_X11_force h g ∧ ∃ x : Int, v = some (.inl x) ∧ (-7 ≤ x ∧ x ≤ 200) ∧ (P_X11_force a1 a2 a3 x h)
set_option maxHeartbeats 4000000 in
theorem c_X11_force {E : JE} {l : Launch} (a1 : Int) (a2 : Int) (a3 : Int) (h : JH) : jMt E l 49 [.inr (.inr (.inl 0)), .inl a1, .inl a2, .inl a3] 229 jr0 h (k_X11_force a1 a2 a3 h) := by
  refine jMt0 (nL := 5) (ls := [.inr (.inr (.inl 0)), .inl a1, .inl a2, .inl a3, .inr (.inr (.inr ()))]) (by decide +kernel) (by decide +kernel) (by decide +kernel) rfl rfl ?_
  have f0 : jfr w_X11_force h h := jfr_rf _ _
  refine jGo_bd (fun hbd => ?_)
  have hb0 := (jbf_2_0 jo_11 _).1 (hbd 11 0)
  refine jGo_blk qX11_force_0 ?_
  refine st_cs (na := 2) (st := [.inl 4, .inl a1]) rfl rfl rfl (c_X11_within a1 4 h) rfl ?_
  rintro _ _ _ ⟨rfl, rfl, t1, rfl, ht1, zt1⟩ kt1
  replace kt1 : -2147483648 ≤ t1 ∧ t1 ≤ 2147483647 := kt1
  replace ht1 : 0 ≤ t1 ∧ t1 ≤ 1 := ht1
  replace zt1 : (t1 = 1 ∧ 0 ≤ a1 ∧ a1 < (4 : Int)) ∨ (t1 = 0 ∧ ¬ (0 ≤ a1 ∧ a1 < (4 : Int))) := zt1
  refine And.intro (fun c3 => ?_) (fun c3 => ?_)
  · replace c3 : t1 = 0 := c3
    show jGo E l 49 229 229 _ 16 [.inr (.inr (.inl 0)), .inl a1, .inl a2, .inl a3, .inr (.inr (.inr ()))] [] 229 jr0 h
    refine jGo_blk qX11_force_16 ?_
    show jGo E l 49 229 229 _ 28 [.inr (.inr (.inl 0)), .inl a1, .inl a2, .inl a3, .inr (.inr (.inr ()))] [.inl (-1)] 229 jr0 h
    refine jGo_blk qX11_force_28 ?_
    refine And.intro (fun c4 => ?_) (fun c4 => ?_)
    · replace c4 : (-1 : Int) = 0 := c4
      exfalso; omega
    · replace c4 : ¬ (-1 : Int) = 0 := by first | exact c4 | exact Int.not_le.mp c4 | exact Int.not_lt.mp c4 | exact Decidable.not_not.mp c4
      refine st_cv (na := 1) (st := [.inl (-1), .inr (.inr (.inl 0))]) jo_0 rfl rfl rfl (c_X11_refused (-1) h (by omega)) rfl ?_
      rintro _ _ g6 ⟨rfl, ft5, t5, rfl, ht5, zt5⟩ kt5
      replace kt5 : -2147483648 ≤ t5 ∧ t5 ≤ 2147483647 := kt5
      replace ht5 : -7 ≤ t5 ∧ t5 ≤ -1 := ht5
      have fg6 : jfr w_X11_force h g6 := jfr_tr f0 ft5 ws_X11_refused__X11_force
      replace zt5 : t5 = (-1 : Int) := zt5
      exact st_r0 (ls := []) ⟨rfl, rfl, fg6, t5, rfl, (by omega), (by unfold P_X11_force; by_cases zz : t5 = -4 <;> first | exact Or.inl (by omega) | exact Or.inr (Or.inl (by omega)) | exact Or.inr (Or.inr (Or.inl (by omega))))⟩
  · replace c3 : ¬ t1 = 0 := by first | exact c3 | exact Int.not_le.mp c3 | exact Int.not_lt.mp c3 | exact Decidable.not_not.mp c3
    refine st_cs (na := 2) (st := [.inl 4, .inl a2]) rfl rfl rfl (c_X11_within a2 4 h) rfl ?_
    rintro _ _ _ ⟨rfl, rfl, t7, rfl, ht7, zt7⟩ kt7
    replace kt7 : -2147483648 ≤ t7 ∧ t7 ≤ 2147483647 := kt7
    replace ht7 : 0 ≤ t7 ∧ t7 ≤ 1 := ht7
    replace zt7 : (t7 = 1 ∧ 0 ≤ a2 ∧ a2 < (4 : Int)) ∨ (t7 = 0 ∧ ¬ (0 ≤ a2 ∧ a2 < (4 : Int))) := zt7
    refine And.intro (fun c9 => ?_) (fun c9 => ?_)
    · replace c9 : ¬ t7 = 0 := c9
      show jGo E l 49 229 229 _ 20 [.inr (.inr (.inl 0)), .inl a1, .inl a2, .inl a3, .inr (.inr (.inr ()))] [] 229 jr0 h
      refine jGo_blk qX11_force_20 ?_
      refine st_cs (na := 3) (st := [.inl 2000, .inl 0, .inl a3]) rfl rfl rfl (c_X11_outside a3 0 2000 h) rfl ?_
      rintro _ _ _ ⟨rfl, rfl, t10, rfl, ht10, zt10⟩ kt10
      replace kt10 : -2147483648 ≤ t10 ∧ t10 ≤ 2147483647 := kt10
      replace ht10 : -6 ≤ t10 ∧ t10 ≤ 0 := ht10
      replace zt10 : (t10 = -4 ∧ a3 < (0 : Int)) ∨ (t10 = -6 ∧ (0 : Int) ≤ a3 ∧ (2000 : Int) < a3) ∨ (t10 = 0 ∧ (0 : Int) ≤ a3 ∧ a3 ≤ (2000 : Int)) := zt10
      show jGo E l 49 229 229 _ 28 [.inr (.inr (.inl 0)), .inl a1, .inl a2, .inl a3, .inr (.inr (.inr ()))] [.inl t10] 229 jr0 h
      refine jGo_blk qX11_force_28 ?_
      refine And.intro (fun c12 => ?_) (fun c12 => ?_)
      · replace c12 : t10 = 0 := c12
        show jGo E l 49 229 229 _ 42 [.inr (.inr (.inl 0)), .inl a1, .inl a2, .inl a3, .inl t10] [] 229 jr0 h
        refine jGo_blk qX11_force_42 ?_
        refine st_gr jo_0 jr_0_3 ?_
        refine st_cv (na := 0) (st := [.inr (.inr (.inl 11))]) jo_11 rfl rfl rfl (c_X2_rewind h) rfl ?_
        rintro _ _ g14 ⟨rfl, ft13, rfl, zt13⟩ kt13
        have fg14 : jfr w_X11_force h g14 := jfr_tr f0 ft13 ws_X2_rewind__X11_force
        replace zt13 : (∀ t : Int, 0 ≤ t → t ≤ 9 → g14 15 t = if t = 9 then 60 else 0) ∧ g14 11 5 = 0 := zt13
        refine st_gr jo_0 jr_0_3 ?_
        refine st_cv (na := 1) (st := [.inl a3, .inr (.inr (.inl 11))]) jo_11 rfl rfl rfl (c_X2_goOnTo a3 g14) rfl ?_
        rintro _ _ g16 ⟨rfl, ft15, rfl, zt15⟩ kt15
        have fg16 : jfr w_X11_force h g16 := jfr_tr fg14 ft15 ws_X2_goOnTo__X11_force
        replace zt15 : jGOP a3 g14 g16 := zt15
        refine st_gr jo_0 jr_0_3 ?_
        refine st_cv (na := 2) (st := [.inl a2, .inl a1, .inr (.inr (.inl 11))]) jo_11 rfl rfl rfl (c_X2_inForce a1 a2 g16 (by omega)) rfl ?_
        rintro _ _ _ ⟨rfl, rfl, t17, rfl, ht17, zt17⟩ kt17
        replace kt17 : -2147483648 ≤ t17 ∧ t17 ≤ 2147483647 := kt17
        replace ht17 : 0 ≤ t17 ∧ t17 ≤ 200 := ht17
        replace zt17 : t17 = g16 15 (jsl a1 a2) := zt17
        have hc19 : ∃ p : Int, 0 ≤ p ∧ p ≤ h 11 0 ∧ (∀ i : Int, 0 ≤ i → i < p → h 14 i ≤ a3) ∧ (h 11 0 ≤ p ∨ a3 < h 14 p) ∧ t17 = jov (h 12) (h 13) p.toNat (jsl a1 a2) := by
          have o1 : jCo g14 := fun t a b => (zt13.1 t a b).trans (by rw [zt13.2]; rfl)
          have o2 := zt15.1 o1
          have w14 : ∀ k : Int, g14 14 k = h 14 k := fun k => ft13 14 k (by unfold w_X2_rewind; omega)
          have w11 : g14 11 0 = h 11 0 := ft13 11 0 (by unfold w_X2_rewind; omega)
          have y0 := zt13.2
          have y1 := zt15.2.1; have y2 := zt15.2.2.2.1 (by omega)
          have y3 : jsl a1 a2 = jsl a1 a2 := rfl
          have y4 : 0 ≤ jsl a1 a2 ∧ jsl a1 a2 ≤ 9 := by unfold jsl; omega
          refine ⟨g16 11 5, by omega, by omega, fun i a b => by rw [← w14]; exact zt15.2.2.1 i (by omega) b, ?_, ?_⟩
          · have y5 := zt15.2.2.2.2; rw [w14, w11] at y5; exact y5
          · rw [← jfn (g := g14) (A := 12) (fun k => ft13 12 k (by unfold w_X2_rewind; omega)), ← jfn (g := g14) (A := 13) (fun k => ft13 13 k (by unfold w_X2_rewind; omega)), ← jfn (g := g16) (h := g14) (A := 12) (fun k => ft15 12 k (by unfold w_X2_goOnTo; omega)), ← jfn (g := g16) (h := g14) (A := 13) (fun k => ft15 13 k (by unfold w_X2_goOnTo; omega)), ← o2 _ y4.1 y4.2]; exact zt17
        exact st_r0 (ls := []) ⟨rfl, rfl, fg16, t17, rfl, (by omega), (by unfold P_X11_force; exact Or.inr (Or.inr (Or.inr ⟨by omega, hc19⟩)))⟩
      · replace c12 : ¬ t10 = 0 := by first | exact c12 | exact Int.not_le.mp c12 | exact Int.not_lt.mp c12 | exact Decidable.not_not.mp c12
        refine st_cv (na := 1) (st := [.inl t10, .inr (.inr (.inl 0))]) jo_0 rfl rfl rfl (c_X11_refused t10 h (by omega)) rfl ?_
        rintro _ _ g21 ⟨rfl, ft20, t20, rfl, ht20, zt20⟩ kt20
        replace kt20 : -2147483648 ≤ t20 ∧ t20 ≤ 2147483647 := kt20
        replace ht20 : -7 ≤ t20 ∧ t20 ≤ -1 := ht20
        have fg21 : jfr w_X11_force h g21 := jfr_tr f0 ft20 ws_X11_refused__X11_force
        replace zt20 : t20 = t10 := zt20
        exact st_r0 (ls := []) ⟨rfl, rfl, fg21, t20, rfl, (by omega), (by unfold P_X11_force; by_cases zz : t20 = -4 <;> first | exact Or.inl (by omega) | exact Or.inr (Or.inl (by omega)) | exact Or.inr (Or.inr (Or.inl (by omega))))⟩
    · replace c9 : t7 = 0 := by first | exact c9 | exact Int.not_le.mp c9 | exact Int.not_lt.mp c9 | exact Decidable.not_not.mp c9
      show jGo E l 49 229 229 _ 16 [.inr (.inr (.inl 0)), .inl a1, .inl a2, .inl a3, .inr (.inr (.inr ()))] [] 229 jr0 h
      refine jGo_blk qX11_force_16 ?_
      show jGo E l 49 229 229 _ 28 [.inr (.inr (.inl 0)), .inl a1, .inl a2, .inl a3, .inr (.inr (.inr ()))] [.inl (-1)] 229 jr0 h
      refine jGo_blk qX11_force_28 ?_
      refine And.intro (fun c22 => ?_) (fun c22 => ?_)
      · replace c22 : (-1 : Int) = 0 := c22
        exfalso; omega
      · replace c22 : ¬ (-1 : Int) = 0 := by first | exact c22 | exact Int.not_le.mp c22 | exact Int.not_lt.mp c22 | exact Decidable.not_not.mp c22
        refine st_cv (na := 1) (st := [.inl (-1), .inr (.inr (.inl 0))]) jo_0 rfl rfl rfl (c_X11_refused (-1) h (by omega)) rfl ?_
        rintro _ _ g24 ⟨rfl, ft23, t23, rfl, ht23, zt23⟩ kt23
        replace kt23 : -2147483648 ≤ t23 ∧ t23 ≤ 2147483647 := kt23
        replace ht23 : -7 ≤ t23 ∧ t23 ≤ -1 := ht23
        have fg24 : jfr w_X11_force h g24 := jfr_tr f0 ft23 ws_X11_refused__X11_force
        replace zt23 : t23 = (-1 : Int) := zt23
        exact st_r0 (ls := []) ⟨rfl, rfl, fg24, t23, rfl, (by omega), (by unfold P_X11_force; by_cases zz : t23 = -4 <;> first | exact Or.inl (by omega) | exact Or.inr (Or.inl (by omega)) | exact Or.inr (Or.inr (Or.inl (by omega))))⟩

def k_X12_forceAt (a1 : Int) (a2 : Int) (a3 : Int) (h : JH) (v : Option JV) (r' g : JH) : Prop := r' = jr0 ∧ h = g ∧ ∃ x : Int, v = some (.inl x) ∧ (0 ≤ x ∧ x ≤ 200) ∧ (x = (jmv (h 182) (h 183) (h 184) (h 185) a1 a2 a3 (h 176 6).toNat).1)
set_option maxHeartbeats 4000000 in
theorem c_X12_forceAt {E : JE} {l : Launch} (a1 : Int) (a2 : Int) (a3 : Int) (h : JH) : jMt E l 50 [.inr (.inr (.inl 176)), .inl a1, .inl a2, .inl a3] 229 jr0 h (k_X12_forceAt a1 a2 a3 h) := by
  refine jMt0 (nL := 8) (ls := [.inr (.inr (.inl 176)), .inl a1, .inl a2, .inl a3, .inr (.inr (.inr ())), .inr (.inr (.inr ())), .inr (.inr (.inr ())), .inr (.inr (.inr ()))]) (by decide +kernel) (by decide +kernel) (by decide +kernel) rfl rfl ?_
  refine jGo_bd (fun hbd => ?_)
  have hb0 := (jbf_12_6 jo_176 _).1 (hbd 176 6)
  have key : ∀ N : Nat, (∀ (x4 : Int) (x5 : Int) (x6 : Int) (x7 : JV), (0 ≤ x4 ∧ x4 ≤ 200 ∧ (-1) ≤ x5 ∧ x5 ≤ 2000 ∧ 0 ≤ x6 ∧ x6 ≤ 40) → ((x4, x5) = jmv (h 182) (h 183) (h 184) (h 185) a1 a2 a3 (x6).toNat) → (0 ≤ x6 ∧ x6 ≤ h 176 6) → (40 - x6) < (N : Int) → jGo E l 50 229 229 (jRK (k_X12_forceAt a1 a2 a3 h)) 19 [.inr (.inr (.inl 176)), .inl a1, .inl a2, .inl a3, .inl x4, .inl x5, .inl x6, x7] [] 229 jr0 h) := by
    intro N
    induction N with
    | zero => exact fun _ _ _ _ hi hx0 hx1 hN => absurd hN (by omega)
    | succ N ih =>
      intro x4 x5 x6 x7 hi hx0 hx1 hN
      refine jGo_blk qX12_forceAt_19 ?_
      refine st_gi jo_176 (fun v1 ev1 b2 => ?_)
      replace ev1 : v1 = h 176 6 := ev1
      replace b2 := (jbf_12_6 jo_176 _).1 b2
      refine And.intro (fun c3 => ?_) (fun c3 => ?_)
      · replace c3 : v1 ≤ x6 := c3
        show jGo E l 50 229 229 _ 114 [.inr (.inr (.inl 176)), .inl a1, .inl a2, .inl a3, .inl x4, .inl x5, .inl x6, x7] [] 229 jr0 h
        refine jGo_blk qX12_forceAt_114 ?_
        exact st_r0 (ls := []) ⟨rfl, rfl, rfl, x4, rfl, (by omega), (by rw [show h 176 6 = x6 by omega, ← hx0] <;> rfl)⟩
      · replace c3 : x6 < v1 := by first | exact c3 | exact Int.not_le.mp c3 | exact Int.not_lt.mp c3 | exact Decidable.not_not.mp c3
        refine st_gr jo_176 jr_176_7 ?_
        refine st_ai jo_182 (show 0 ≤ x6 by omega) (show x6 < ((40 : Nat) : Int) by omega) (fun v4 ev4 b5 => ?_)
        replace ev4 : v4 = h 182 x6 := ev4
        replace b5 := (jba_182 x6 _).1 b5
        refine And.intro (fun c6 => ?_) (fun c6 => ?_)
        · replace c6 : ¬ v4 = a1 := c6
          show jGo E l 50 229 229 _ 70 [.inr (.inr (.inl 176)), .inl a1, .inl a2, .inl a3, .inl x4, .inl x5, .inl x6, x7] [] 229 jr0 h
          refine jGo_blk qX12_forceAt_70 ?_
          show jGo E l 50 229 229 _ 71 [.inr (.inr (.inl 176)), .inl a1, .inl a2, .inl a3, .inl x4, .inl x5, .inl x6, x7] [.inl 0] 229 jr0 h
          refine jGo_blk qX12_forceAt_71 ?_
          refine And.intro (fun c7 => ?_) (fun c7 => ?_)
          · replace c7 : (0 : Int) = 0 := c7
            show jGo E l 50 229 229 _ 108 [.inr (.inr (.inl 176)), .inl a1, .inl a2, .inl a3, .inl x4, .inl x5, .inl x6, .inl 0] [] 229 jr0 h
            refine jGo_blk qX12_forceAt_108 ?_
            have e8 : jw32 (x6 + 1) = x6 + 1 := jzj32 (by omega)
            show jGo E l 50 229 229 _ 19 [.inr (.inr (.inl 176)), .inl a1, .inl a2, .inl a3, .inl x4, .inl x5, .inl (jw32 (x6 + 1)), .inl 0] [] 229 jr0 h
            exact ih x4 x5 (jw32 (x6 + 1)) (.inl 0) (by omega) (by rw [show jw32 (x6 + 1) = x6 + 1 by omega, jmv_s (by omega), ← hx0]; exact (if_neg (fun q => by have q1 := q.1.1; have q2 := q.1.2.1; have q3 := q.1.2.2; have q4 : x5 ≤ h 185 x6 := q.2; omega)).symm) (by omega) (by omega)
          · replace c7 : ¬ (0 : Int) = 0 := by first | exact c7 | exact Int.not_le.mp c7 | exact Int.not_lt.mp c7 | exact Decidable.not_not.mp c7
            exfalso; omega
        · replace c6 : v4 = a1 := by first | exact c6 | exact Int.not_le.mp c6 | exact Int.not_lt.mp c6 | exact Decidable.not_not.mp c6
          refine And.intro (fun c9 => ?_) (fun c9 => ?_)
          · replace c9 : 1 < a1 := c9
            show jGo E l 50 229 229 _ 55 [.inr (.inr (.inl 176)), .inl a1, .inl a2, .inl a3, .inl x4, .inl x5, .inl x6, x7] [] 229 jr0 h
            refine jGo_blk qX12_forceAt_55 ?_
            refine st_gr jo_176 jr_176_10 ?_
            refine st_ai jo_185 (show 0 ≤ x6 by omega) (show x6 < ((40 : Nat) : Int) by omega) (fun v10 ev10 b11 => ?_)
            replace ev10 : v10 = h 185 x6 := ev10
            replace b11 := (jba_185 x6 _).1 b11
            refine And.intro (fun c12 => ?_) (fun c12 => ?_)
            · replace c12 : a3 < v10 := c12
              show jGo E l 50 229 229 _ 70 [.inr (.inr (.inl 176)), .inl a1, .inl a2, .inl a3, .inl x4, .inl x5, .inl x6, x7] [] 229 jr0 h
              refine jGo_blk qX12_forceAt_70 ?_
              show jGo E l 50 229 229 _ 71 [.inr (.inr (.inl 176)), .inl a1, .inl a2, .inl a3, .inl x4, .inl x5, .inl x6, x7] [.inl 0] 229 jr0 h
              refine jGo_blk qX12_forceAt_71 ?_
              refine And.intro (fun c13 => ?_) (fun c13 => ?_)
              · replace c13 : (0 : Int) = 0 := c13
                show jGo E l 50 229 229 _ 108 [.inr (.inr (.inl 176)), .inl a1, .inl a2, .inl a3, .inl x4, .inl x5, .inl x6, .inl 0] [] 229 jr0 h
                refine jGo_blk qX12_forceAt_108 ?_
                have e14 : jw32 (x6 + 1) = x6 + 1 := jzj32 (by omega)
                show jGo E l 50 229 229 _ 19 [.inr (.inr (.inl 176)), .inl a1, .inl a2, .inl a3, .inl x4, .inl x5, .inl (jw32 (x6 + 1)), .inl 0] [] 229 jr0 h
                exact ih x4 x5 (jw32 (x6 + 1)) (.inl 0) (by omega) (by rw [show jw32 (x6 + 1) = x6 + 1 by omega, jmv_s (by omega), ← hx0]; exact (if_neg (fun q => by have q1 := q.1.1; have q2 := q.1.2.1; have q3 := q.1.2.2; have q4 : x5 ≤ h 185 x6 := q.2; omega)).symm) (by omega) (by omega)
              · replace c13 : ¬ (0 : Int) = 0 := by first | exact c13 | exact Int.not_le.mp c13 | exact Int.not_lt.mp c13 | exact Decidable.not_not.mp c13
                exfalso; omega
            · replace c12 : v10 ≤ a3 := by first | exact c12 | exact Int.not_le.mp c12 | exact Int.not_lt.mp c12 | exact Decidable.not_not.mp c12
              show jGo E l 50 229 229 _ 71 [.inr (.inr (.inl 176)), .inl a1, .inl a2, .inl a3, .inl x4, .inl x5, .inl x6, x7] [.inl 1] 229 jr0 h
              refine jGo_blk qX12_forceAt_71 ?_
              refine And.intro (fun c15 => ?_) (fun c15 => ?_)
              · replace c15 : (1 : Int) = 0 := c15
                exfalso; omega
              · replace c15 : ¬ (1 : Int) = 0 := by first | exact c15 | exact Int.not_le.mp c15 | exact Int.not_lt.mp c15 | exact Decidable.not_not.mp c15
                refine st_gr jo_176 jr_176_10 ?_
                refine st_ai jo_185 (show 0 ≤ x6 by omega) (show x6 < ((40 : Nat) : Int) by omega) (fun v16 ev16 b17 => ?_)
                replace ev16 : v16 = h 185 x6 := ev16
                replace b17 := (jba_185 x6 _).1 b17
                refine And.intro (fun c18 => ?_) (fun c18 => ?_)
                · replace c18 : v16 < x5 := c18
                  show jGo E l 50 229 229 _ 108 [.inr (.inr (.inl 176)), .inl a1, .inl a2, .inl a3, .inl x4, .inl x5, .inl x6, .inl 1] [] 229 jr0 h
                  refine jGo_blk qX12_forceAt_108 ?_
                  have e19 : jw32 (x6 + 1) = x6 + 1 := jzj32 (by omega)
                  show jGo E l 50 229 229 _ 19 [.inr (.inr (.inl 176)), .inl a1, .inl a2, .inl a3, .inl x4, .inl x5, .inl (jw32 (x6 + 1)), .inl 1] [] 229 jr0 h
                  exact ih x4 x5 (jw32 (x6 + 1)) (.inl 1) (by omega) (by rw [show jw32 (x6 + 1) = x6 + 1 by omega, jmv_s (by omega), ← hx0]; exact (if_neg (fun q => by have q1 := q.1.1; have q2 := q.1.2.1; have q3 := q.1.2.2; have q4 : x5 ≤ h 185 x6 := q.2; omega)).symm) (by omega) (by omega)
                · replace c18 : x5 ≤ v16 := by first | exact c18 | exact Int.not_le.mp c18 | exact Int.not_lt.mp c18 | exact Decidable.not_not.mp c18
                  refine st_gr jo_176 jr_176_9 ?_
                  refine st_ai jo_184 (show 0 ≤ x6 by omega) (show x6 < ((40 : Nat) : Int) by omega) (fun v20 ev20 b21 => ?_)
                  replace ev20 : v20 = h 184 x6 := ev20
                  replace b21 := (jba_184 x6 _).1 b21
                  refine st_gr jo_176 jr_176_10 ?_
                  refine st_ai jo_185 (show 0 ≤ x6 by omega) (show x6 < ((40 : Nat) : Int) by omega) (fun v22 ev22 b23 => ?_)
                  replace ev22 : v22 = h 185 x6 := ev22
                  replace b23 := (jba_185 x6 _).1 b23
                  show jGo E l 50 229 229 _ 108 [.inr (.inr (.inl 176)), .inl a1, .inl a2, .inl a3, .inl v20, .inl v22, .inl x6, .inl 1] [] 229 jr0 h
                  refine jGo_blk qX12_forceAt_108 ?_
                  have e24 : jw32 (x6 + 1) = x6 + 1 := jzj32 (by omega)
                  show jGo E l 50 229 229 _ 19 [.inr (.inr (.inl 176)), .inl a1, .inl a2, .inl a3, .inl v20, .inl v22, .inl (jw32 (x6 + 1)), .inl 1] [] 229 jr0 h
                  exact ih v20 v22 (jw32 (x6 + 1)) (.inl 1) (by omega) (by rw [show jw32 (x6 + 1) = x6 + 1 by omega, jmv_s (by omega), ← hx0]; rw [ev20, ev22]; exact (if_pos ⟨⟨by omega, by omega, by omega⟩, (show x5 ≤ h 185 x6 by omega)⟩).symm) (by omega) (by omega)
          · replace c9 : a1 ≤ 1 := by first | exact c9 | exact Int.not_le.mp c9 | exact Int.not_lt.mp c9 | exact Decidable.not_not.mp c9
            refine st_gr jo_176 jr_176_8 ?_
            refine st_ai jo_183 (show 0 ≤ x6 by omega) (show x6 < ((40 : Nat) : Int) by omega) (fun v25 ev25 b26 => ?_)
            replace ev25 : v25 = h 183 x6 := ev25
            replace b26 := (jba_183 x6 _).1 b26
            refine And.intro (fun c27 => ?_) (fun c27 => ?_)
            · replace c27 : ¬ v25 = a2 := c27
              show jGo E l 50 229 229 _ 70 [.inr (.inr (.inl 176)), .inl a1, .inl a2, .inl a3, .inl x4, .inl x5, .inl x6, x7] [] 229 jr0 h
              refine jGo_blk qX12_forceAt_70 ?_
              show jGo E l 50 229 229 _ 71 [.inr (.inr (.inl 176)), .inl a1, .inl a2, .inl a3, .inl x4, .inl x5, .inl x6, x7] [.inl 0] 229 jr0 h
              refine jGo_blk qX12_forceAt_71 ?_
              refine And.intro (fun c28 => ?_) (fun c28 => ?_)
              · replace c28 : (0 : Int) = 0 := c28
                show jGo E l 50 229 229 _ 108 [.inr (.inr (.inl 176)), .inl a1, .inl a2, .inl a3, .inl x4, .inl x5, .inl x6, .inl 0] [] 229 jr0 h
                refine jGo_blk qX12_forceAt_108 ?_
                have e29 : jw32 (x6 + 1) = x6 + 1 := jzj32 (by omega)
                show jGo E l 50 229 229 _ 19 [.inr (.inr (.inl 176)), .inl a1, .inl a2, .inl a3, .inl x4, .inl x5, .inl (jw32 (x6 + 1)), .inl 0] [] 229 jr0 h
                exact ih x4 x5 (jw32 (x6 + 1)) (.inl 0) (by omega) (by rw [show jw32 (x6 + 1) = x6 + 1 by omega, jmv_s (by omega), ← hx0]; exact (if_neg (fun q => by have q1 := q.1.1; have q2 := q.1.2.1; have q3 := q.1.2.2; have q4 : x5 ≤ h 185 x6 := q.2; omega)).symm) (by omega) (by omega)
              · replace c28 : ¬ (0 : Int) = 0 := by first | exact c28 | exact Int.not_le.mp c28 | exact Int.not_lt.mp c28 | exact Decidable.not_not.mp c28
                exfalso; omega
            · replace c27 : v25 = a2 := by first | exact c27 | exact Int.not_le.mp c27 | exact Int.not_lt.mp c27 | exact Decidable.not_not.mp c27
              show jGo E l 50 229 229 _ 55 [.inr (.inr (.inl 176)), .inl a1, .inl a2, .inl a3, .inl x4, .inl x5, .inl x6, x7] [] 229 jr0 h
              refine jGo_blk qX12_forceAt_55 ?_
              refine st_gr jo_176 jr_176_10 ?_
              refine st_ai jo_185 (show 0 ≤ x6 by omega) (show x6 < ((40 : Nat) : Int) by omega) (fun v30 ev30 b31 => ?_)
              replace ev30 : v30 = h 185 x6 := ev30
              replace b31 := (jba_185 x6 _).1 b31
              refine And.intro (fun c32 => ?_) (fun c32 => ?_)
              · replace c32 : a3 < v30 := c32
                show jGo E l 50 229 229 _ 70 [.inr (.inr (.inl 176)), .inl a1, .inl a2, .inl a3, .inl x4, .inl x5, .inl x6, x7] [] 229 jr0 h
                refine jGo_blk qX12_forceAt_70 ?_
                show jGo E l 50 229 229 _ 71 [.inr (.inr (.inl 176)), .inl a1, .inl a2, .inl a3, .inl x4, .inl x5, .inl x6, x7] [.inl 0] 229 jr0 h
                refine jGo_blk qX12_forceAt_71 ?_
                refine And.intro (fun c33 => ?_) (fun c33 => ?_)
                · replace c33 : (0 : Int) = 0 := c33
                  show jGo E l 50 229 229 _ 108 [.inr (.inr (.inl 176)), .inl a1, .inl a2, .inl a3, .inl x4, .inl x5, .inl x6, .inl 0] [] 229 jr0 h
                  refine jGo_blk qX12_forceAt_108 ?_
                  have e34 : jw32 (x6 + 1) = x6 + 1 := jzj32 (by omega)
                  show jGo E l 50 229 229 _ 19 [.inr (.inr (.inl 176)), .inl a1, .inl a2, .inl a3, .inl x4, .inl x5, .inl (jw32 (x6 + 1)), .inl 0] [] 229 jr0 h
                  exact ih x4 x5 (jw32 (x6 + 1)) (.inl 0) (by omega) (by rw [show jw32 (x6 + 1) = x6 + 1 by omega, jmv_s (by omega), ← hx0]; exact (if_neg (fun q => by have q1 := q.1.1; have q2 := q.1.2.1; have q3 := q.1.2.2; have q4 : x5 ≤ h 185 x6 := q.2; omega)).symm) (by omega) (by omega)
                · replace c33 : ¬ (0 : Int) = 0 := by first | exact c33 | exact Int.not_le.mp c33 | exact Int.not_lt.mp c33 | exact Decidable.not_not.mp c33
                  exfalso; omega
              · replace c32 : v30 ≤ a3 := by first | exact c32 | exact Int.not_le.mp c32 | exact Int.not_lt.mp c32 | exact Decidable.not_not.mp c32
                show jGo E l 50 229 229 _ 71 [.inr (.inr (.inl 176)), .inl a1, .inl a2, .inl a3, .inl x4, .inl x5, .inl x6, x7] [.inl 1] 229 jr0 h
                refine jGo_blk qX12_forceAt_71 ?_
                refine And.intro (fun c35 => ?_) (fun c35 => ?_)
                · replace c35 : (1 : Int) = 0 := c35
                  exfalso; omega
                · replace c35 : ¬ (1 : Int) = 0 := by first | exact c35 | exact Int.not_le.mp c35 | exact Int.not_lt.mp c35 | exact Decidable.not_not.mp c35
                  refine st_gr jo_176 jr_176_10 ?_
                  refine st_ai jo_185 (show 0 ≤ x6 by omega) (show x6 < ((40 : Nat) : Int) by omega) (fun v36 ev36 b37 => ?_)
                  replace ev36 : v36 = h 185 x6 := ev36
                  replace b37 := (jba_185 x6 _).1 b37
                  refine And.intro (fun c38 => ?_) (fun c38 => ?_)
                  · replace c38 : v36 < x5 := c38
                    show jGo E l 50 229 229 _ 108 [.inr (.inr (.inl 176)), .inl a1, .inl a2, .inl a3, .inl x4, .inl x5, .inl x6, .inl 1] [] 229 jr0 h
                    refine jGo_blk qX12_forceAt_108 ?_
                    have e39 : jw32 (x6 + 1) = x6 + 1 := jzj32 (by omega)
                    show jGo E l 50 229 229 _ 19 [.inr (.inr (.inl 176)), .inl a1, .inl a2, .inl a3, .inl x4, .inl x5, .inl (jw32 (x6 + 1)), .inl 1] [] 229 jr0 h
                    exact ih x4 x5 (jw32 (x6 + 1)) (.inl 1) (by omega) (by rw [show jw32 (x6 + 1) = x6 + 1 by omega, jmv_s (by omega), ← hx0]; exact (if_neg (fun q => by have q1 := q.1.1; have q2 := q.1.2.1; have q3 := q.1.2.2; have q4 : x5 ≤ h 185 x6 := q.2; omega)).symm) (by omega) (by omega)
                  · replace c38 : x5 ≤ v36 := by first | exact c38 | exact Int.not_le.mp c38 | exact Int.not_lt.mp c38 | exact Decidable.not_not.mp c38
                    refine st_gr jo_176 jr_176_9 ?_
                    refine st_ai jo_184 (show 0 ≤ x6 by omega) (show x6 < ((40 : Nat) : Int) by omega) (fun v40 ev40 b41 => ?_)
                    replace ev40 : v40 = h 184 x6 := ev40
                    replace b41 := (jba_184 x6 _).1 b41
                    refine st_gr jo_176 jr_176_10 ?_
                    refine st_ai jo_185 (show 0 ≤ x6 by omega) (show x6 < ((40 : Nat) : Int) by omega) (fun v42 ev42 b43 => ?_)
                    replace ev42 : v42 = h 185 x6 := ev42
                    replace b43 := (jba_185 x6 _).1 b43
                    show jGo E l 50 229 229 _ 108 [.inr (.inr (.inl 176)), .inl a1, .inl a2, .inl a3, .inl v40, .inl v42, .inl x6, .inl 1] [] 229 jr0 h
                    refine jGo_blk qX12_forceAt_108 ?_
                    have e44 : jw32 (x6 + 1) = x6 + 1 := jzj32 (by omega)
                    show jGo E l 50 229 229 _ 19 [.inr (.inr (.inl 176)), .inl a1, .inl a2, .inl a3, .inl v40, .inl v42, .inl (jw32 (x6 + 1)), .inl 1] [] 229 jr0 h
                    exact ih v40 v42 (jw32 (x6 + 1)) (.inl 1) (by omega) (by rw [show jw32 (x6 + 1) = x6 + 1 by omega, jmv_s (by omega), ← hx0]; rw [ev40, ev42]; exact (if_pos ⟨⟨by omega, by omega, by omega⟩, (show x5 ≤ h 185 x6 by omega)⟩).symm) (by omega) (by omega)
  refine jGo_blk qX12_forceAt_0 ?_
  refine And.intro (fun c45 => ?_) (fun c45 => ?_)
  · replace c45 : ¬ a1 = 3 := c45
    show jGo E l 50 229 229 _ 10 [.inr (.inr (.inl 176)), .inl a1, .inl a2, .inl a3, .inr (.inr (.inr ())), .inr (.inr (.inr ())), .inr (.inr (.inr ())), .inr (.inr (.inr ()))] [] 229 jr0 h
    refine jGo_blk qX12_forceAt_10 ?_
    show jGo E l 50 229 229 _ 11 [.inr (.inr (.inl 176)), .inl a1, .inl a2, .inl a3, .inr (.inr (.inr ())), .inr (.inr (.inr ())), .inr (.inr (.inr ())), .inr (.inr (.inr ()))] [.inl 0] 229 jr0 h
    refine jGo_blk qX12_forceAt_11 ?_
    show jGo E l 50 229 229 _ 19 [.inr (.inr (.inl 176)), .inl a1, .inl a2, .inl a3, .inl 0, .inl (-1), .inl 0, .inr (.inr (.inr ()))] [] 229 jr0 h
    exact (key 1000000000000) 0 (-1) 0 (.inr (.inr (.inr ()))) (by omega) (by first | rfl | (show (_, _) = ((if a1 = 3 then (60 : Int) else 0), (-1 : Int)); rw [if_pos (by omega)]) | (show (_, _) = ((if a1 = 3 then (60 : Int) else 0), (-1 : Int)); rw [if_neg (by omega)])) (by omega) (by omega)
  · replace c45 : a1 = 3 := by first | exact c45 | exact Int.not_le.mp c45 | exact Int.not_lt.mp c45 | exact Decidable.not_not.mp c45
    show jGo E l 50 229 229 _ 11 [.inr (.inr (.inl 176)), .inl a1, .inl a2, .inl a3, .inr (.inr (.inr ())), .inr (.inr (.inr ())), .inr (.inr (.inr ())), .inr (.inr (.inr ()))] [.inl 60] 229 jr0 h
    refine jGo_blk qX12_forceAt_11 ?_
    show jGo E l 50 229 229 _ 19 [.inr (.inr (.inl 176)), .inl a1, .inl a2, .inl a3, .inl 60, .inl (-1), .inl 0, .inr (.inr (.inr ()))] [] 229 jr0 h
    exact (key 1000000000000) 60 (-1) 0 (.inr (.inr (.inr ()))) (by omega) (by first | rfl | (show (_, _) = ((if a1 = 3 then (60 : Int) else 0), (-1 : Int)); rw [if_pos (by omega)]) | (show (_, _) = ((if a1 = 3 then (60 : Int) else 0), (-1 : Int)); rw [if_neg (by omega)])) (by omega) (by omega)

def w_X12_force (i k : Int) : Prop := (i = 219)
theorem ws_X12_refuse__X12_force (i k : Int) (q : w_X12_refuse i k) : w_X12_force i k := by
  unfold w_X12_refuse at q; unfold w_X12_force
  exact (by omega)
def k_X12_force (a1 : Int) (a2 : Int) (a3 : Int) (h : JH) (v : Option JV) (r' g : JH) : Prop := r' = jr0 ∧ jfr w_X12_force h g ∧ ∃ x : Int, v = some (.inl x) ∧ (-7 ≤ x ∧ x ≤ 200) ∧ (P_X12_force a1 a2 a3 x h)
set_option maxHeartbeats 4000000 in
theorem c_X12_force {E : JE} {l : Launch} (a1 : Int) (a2 : Int) (a3 : Int) (h : JH) : jMt E l 51 [.inr (.inr (.inl 176)), .inl a1, .inl a2, .inl a3] 229 jr0 h (k_X12_force a1 a2 a3 h) := by
  refine jMt0 (nL := 4) (ls := [.inr (.inr (.inl 176)), .inl a1, .inl a2, .inl a3]) (by decide +kernel) (by decide +kernel) (by decide +kernel) rfl rfl ?_
  have f0 : jfr w_X12_force h h := jfr_rf _ _
  refine jGo_blk qX12_force_0 ?_
  refine st_cs (na := 3) (st := [.inl 3, .inl 0, .inl a1]) rfl rfl rfl (c_X12_in a1 0 3 h) rfl ?_
  rintro _ _ _ ⟨rfl, rfl, t1, rfl, ht1, zt1⟩ kt1
  replace kt1 : -2147483648 ≤ t1 ∧ t1 ≤ 2147483647 := kt1
  replace ht1 : 0 ≤ t1 ∧ t1 ≤ 1 := ht1
  replace zt1 : (t1 = 1 ∧ (0 : Int) ≤ a1 ∧ a1 ≤ (3 : Int)) ∨ (t1 = 0 ∧ ¬ ((0 : Int) ≤ a1 ∧ a1 ≤ (3 : Int))) := zt1
  refine And.intro (fun c3 => ?_) (fun c3 => ?_)
  · replace c3 : t1 = 0 := c3
    show jGo E l 51 229 229 _ 18 [.inr (.inr (.inl 176)), .inl a1, .inl a2, .inl a3] [] 229 jr0 h
    refine jGo_blk qX12_force_18 ?_
    refine st_cv (na := 1) (st := [.inl (-1), .inr (.inr (.inl 176))]) jo_176 rfl rfl rfl (c_X12_refuse (-1) h (by omega)) rfl ?_
    rintro _ _ g5 ⟨rfl, ft4, t4, rfl, ht4, zt4⟩ kt4
    replace kt4 : -2147483648 ≤ t4 ∧ t4 ≤ 2147483647 := kt4
    replace ht4 : -7 ≤ t4 ∧ t4 ≤ -1 := ht4
    have fg5 : jfr w_X12_force h g5 := jfr_tr f0 ft4 ws_X12_refuse__X12_force
    replace zt4 : t4 = (-1 : Int) := zt4
    exact st_r0 (ls := []) ⟨rfl, rfl, fg5, t4, rfl, (by omega), (by unfold P_X12_force; by_cases zz : t4 = -4 <;> first | exact Or.inl (by omega) | exact Or.inr (Or.inl (by omega)) | exact Or.inr (Or.inr (Or.inl (by omega))) | exact Or.inr (Or.inr (Or.inr (by omega))))⟩
  · replace c3 : ¬ t1 = 0 := by first | exact c3 | exact Int.not_le.mp c3 | exact Int.not_lt.mp c3 | exact Decidable.not_not.mp c3
    refine st_cs (na := 3) (st := [.inl 3, .inl 0, .inl a2]) rfl rfl rfl (c_X12_in a2 0 3 h) rfl ?_
    rintro _ _ _ ⟨rfl, rfl, t6, rfl, ht6, zt6⟩ kt6
    replace kt6 : -2147483648 ≤ t6 ∧ t6 ≤ 2147483647 := kt6
    replace ht6 : 0 ≤ t6 ∧ t6 ≤ 1 := ht6
    replace zt6 : (t6 = 1 ∧ (0 : Int) ≤ a2 ∧ a2 ≤ (3 : Int)) ∨ (t6 = 0 ∧ ¬ ((0 : Int) ≤ a2 ∧ a2 ≤ (3 : Int))) := zt6
    refine And.intro (fun c8 => ?_) (fun c8 => ?_)
    · replace c8 : ¬ t6 = 0 := c8
      show jGo E l 51 229 229 _ 24 [.inr (.inr (.inl 176)), .inl a1, .inl a2, .inl a3] [] 229 jr0 h
      refine jGo_blk qX12_force_24 ?_
      refine And.intro (fun c9 => ?_) (fun c9 => ?_)
      · replace c9 : 0 ≤ a3 := c9
        show jGo E l 51 229 229 _ 35 [.inr (.inr (.inl 176)), .inl a1, .inl a2, .inl a3] [] 229 jr0 h
        refine jGo_blk qX12_force_35 ?_
        refine And.intro (fun c10 => ?_) (fun c10 => ?_)
        · replace c10 : a3 ≤ 2000 := c10
          show jGo E l 51 229 229 _ 51 [.inr (.inr (.inl 176)), .inl a1, .inl a2, .inl a3] [] 229 jr0 h
          refine jGo_blk qX12_force_51 ?_
          refine st_cv (na := 3) (st := [.inl a3, .inl a2, .inl a1, .inr (.inr (.inl 176))]) jo_176 rfl rfl rfl (c_X12_forceAt a1 a2 a3 h) rfl ?_
          rintro _ _ _ ⟨rfl, rfl, t11, rfl, ht11, zt11⟩ kt11
          replace kt11 : -2147483648 ≤ t11 ∧ t11 ≤ 2147483647 := kt11
          replace ht11 : 0 ≤ t11 ∧ t11 ≤ 200 := ht11
          replace zt11 : t11 = (jmv (h 182) (h 183) (h 184) (h 185) a1 a2 a3 (h 176 6).toNat).1 := zt11
          show jGo E l 51 229 229 _ 58 [.inr (.inr (.inl 176)), .inl a1, .inl a2, .inl a3] [.inl t11] 229 jr0 h
          refine jGo_blk qX12_force_58 ?_
          exact st_r0 (ls := []) ⟨rfl, rfl, f0, t11, rfl, (by omega), (by unfold P_X12_force; by_cases zz : t11 = -4 <;> first | exact Or.inl (by omega) | exact Or.inr (Or.inl (by omega)) | exact Or.inr (Or.inr (Or.inl (by omega))) | exact Or.inr (Or.inr (Or.inr (by omega))))⟩
        · replace c10 : 2000 < a3 := by first | exact c10 | exact Int.not_le.mp c10 | exact Int.not_lt.mp c10 | exact Decidable.not_not.mp c10
          refine st_cv (na := 1) (st := [.inl (-6), .inr (.inr (.inl 176))]) jo_176 rfl rfl rfl (c_X12_refuse (-6) h (by omega)) rfl ?_
          rintro _ _ g14 ⟨rfl, ft13, t13, rfl, ht13, zt13⟩ kt13
          replace kt13 : -2147483648 ≤ t13 ∧ t13 ≤ 2147483647 := kt13
          replace ht13 : -7 ≤ t13 ∧ t13 ≤ -1 := ht13
          have fg14 : jfr w_X12_force h g14 := jfr_tr f0 ft13 ws_X12_refuse__X12_force
          replace zt13 : t13 = (-6 : Int) := zt13
          show jGo E l 51 229 229 _ 58 [.inr (.inr (.inl 176)), .inl a1, .inl a2, .inl a3] [.inl t13] 229 jr0 g14
          refine jGo_blk qX12_force_58 ?_
          exact st_r0 (ls := []) ⟨rfl, rfl, fg14, t13, rfl, (by omega), (by unfold P_X12_force; by_cases zz : t13 = -4 <;> first | exact Or.inl (by omega) | exact Or.inr (Or.inl (by omega)) | exact Or.inr (Or.inr (Or.inl (by omega))) | exact Or.inr (Or.inr (Or.inr (by omega))))⟩
      · replace c9 : a3 < 0 := by first | exact c9 | exact Int.not_le.mp c9 | exact Int.not_lt.mp c9 | exact Decidable.not_not.mp c9
        refine st_cv (na := 1) (st := [.inl (-4), .inr (.inr (.inl 176))]) jo_176 rfl rfl rfl (c_X12_refuse (-4) h (by omega)) rfl ?_
        rintro _ _ g16 ⟨rfl, ft15, t15, rfl, ht15, zt15⟩ kt15
        replace kt15 : -2147483648 ≤ t15 ∧ t15 ≤ 2147483647 := kt15
        replace ht15 : -7 ≤ t15 ∧ t15 ≤ -1 := ht15
        have fg16 : jfr w_X12_force h g16 := jfr_tr f0 ft15 ws_X12_refuse__X12_force
        replace zt15 : t15 = (-4 : Int) := zt15
        exact st_r0 (ls := []) ⟨rfl, rfl, fg16, t15, rfl, (by omega), (by unfold P_X12_force; by_cases zz : t15 = -4 <;> first | exact Or.inl (by omega) | exact Or.inr (Or.inl (by omega)) | exact Or.inr (Or.inr (Or.inl (by omega))) | exact Or.inr (Or.inr (Or.inr (by omega))))⟩
    · replace c8 : t6 = 0 := by first | exact c8 | exact Int.not_le.mp c8 | exact Int.not_lt.mp c8 | exact Decidable.not_not.mp c8
      show jGo E l 51 229 229 _ 18 [.inr (.inr (.inl 176)), .inl a1, .inl a2, .inl a3] [] 229 jr0 h
      refine jGo_blk qX12_force_18 ?_
      refine st_cv (na := 1) (st := [.inl (-1), .inr (.inr (.inl 176))]) jo_176 rfl rfl rfl (c_X12_refuse (-1) h (by omega)) rfl ?_
      rintro _ _ g18 ⟨rfl, ft17, t17, rfl, ht17, zt17⟩ kt17
      replace kt17 : -2147483648 ≤ t17 ∧ t17 ≤ 2147483647 := kt17
      replace ht17 : -7 ≤ t17 ∧ t17 ≤ -1 := ht17
      have fg18 : jfr w_X12_force h g18 := jfr_tr f0 ft17 ws_X12_refuse__X12_force
      replace zt17 : t17 = (-1 : Int) := zt17
      exact st_r0 (ls := []) ⟨rfl, rfl, fg18, t17, rfl, (by omega), (by unfold P_X12_force; by_cases zz : t17 = -4 <;> first | exact Or.inl (by omega) | exact Or.inr (Or.inl (by omega)) | exact Or.inr (Or.inr (Or.inl (by omega))) | exact Or.inr (Or.inr (Or.inr (by omega))))⟩
