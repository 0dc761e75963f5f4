def w_X0_write_106 (i k : Int) : Prop := (i = 15) ∨ (107 ≤ i ∧ i ≤ 110) ∨ (i = 11 ∧ k = 5)
def k_X0_write_106 (a1 : Int) (a2 : Int) (h : JH) (v : Option JV) (r' g : JH) : Prop := r' = jr0 ∧ jfr w_X0_write_106 h g ∧ v = none ∧ (jWri 107 a1 a2 h g)
set_option maxHeartbeats 4000000 in
theorem c_X0_write_106 {E : JE} {l : Launch} (a1 : Int) (a2 : Int) (h : JH) (p1 : 0 ≤ a1 ∧ a1 ≤ 0) (p2 : 0 ≤ a2 ∧ a2 ≤ 2400) : jMt E l 72 [.inr (.inr (.inl 106)), .inl a1, .inl a2, .inr (.inr (.inl 2)), .inr (.inr (.inl 11))] 229 jr0 h (k_X0_write_106 a1 a2 h) := by
  refine jMt0 (nL := 8) (ls := [.inr (.inr (.inl 106)), .inl a1, .inl a2, .inr (.inr (.inl 2)), .inr (.inr (.inl 11)), .inr (.inr (.inr ())), .inr (.inr (.inr ())), .inr (.inr (.inr ()))]) (by decide +kernel) (by decide +kernel) (by decide +kernel) rfl rfl ?_
  have f0 : jfr w_X0_write_106 h h := jfr_rf _ _
  have key : ∀ N : Nat, (∀ (x5 : Int) (x6 : Int) (x7 : JV) (g : JH), (0 ≤ x5 ∧ x5 ≤ 200 ∧ 0 ≤ x6 ∧ x6 ≤ 4) → (jGOP a2 h g) → (g 108 a1 = (if ¬ g 15 8 = 0 ∧ a2.tmod (g 15 8) = 0 then 0 else g 15 9) ∧ 0 ≤ g 108 a1) → (∀ c : Int, 0 ≤ c → c < x6 → g 107 (a1 * 4 + c) = jHd h c a2 ∧ 0 ≤ g 107 (a1 * 4 + c) ∧ g 107 (a1 * 4 + c) ≤ 400) → (∀ c : Int, 0 ≤ c → c < x6 → 0 ≤ jHd h c a2 * g 15 (4 + c) ∧ jHd h c a2 * g 15 (4 + c) ≤ 80000) → (g 110 a1 = jsm (fun c => jHd h c a2 * g 15 (4 + c)) (x6).toNat ∧ 0 ≤ g 110 a1 ∧ g 110 a1 ≤ 80000 * x6) → ((∀ k : Int, ¬ (a1 * 4 ≤ k ∧ k < a1 * 4 + 4) → g 107 k = h 107 k) ∧ (∀ i k : Int, 108 ≤ i → i ≤ 110 → ¬ k = a1 → g i k = h i k)) → (0 ≤ x6 ∧ x6 ≤ 4) → jfr w_X0_write_106 h g → (4 - x6) < (N : Int) → jGo E l 72 229 229 (jRK (k_X0_write_106 a1 a2 h)) 61 [.inr (.inr (.inl 106)), .inl a1, .inl a2, .inr (.inr (.inl 2)), .inr (.inr (.inl 11)), .inl x5, .inl x6, x7] [] 229 jr0 g) := by
    intro N
    induction N with
    | zero => exact fun _ _ _ _ hi hx0 hx1 hx2 hx3 hx4 hx5 hx6 _ hN => absurd hN (by omega)
    | succ N ih =>
      intro x5 x6 x7 g hi hx0 hx1 hx2 hx3 hx4 hx5 hx6 hf hN
      refine jGo_blk qX0_write_61 ?_
      refine And.intro (fun c1 => ?_) (fun c1 => ?_)
      · replace c1 : 4 ≤ x6 := c1
        show jGo E l 72 229 229 _ 135 [.inr (.inr (.inl 106)), .inl a1, .inl a2, .inr (.inr (.inl 2)), .inr (.inr (.inl 11)), .inl x5, .inl x6, x7] [] 229 jr0 g
        refine jGo_blk qX0_write_135 ?_
        have hc2 : jWri 107 a1 a2 h g := by
          have x64 : x6 = 4 := by omega
          rw [x64] at hx2 hx3 hx4
          refine ⟨hx0, hx1.1, hx2, hx3, ?_, hx1.2, hx5.1, hx5.2⟩
          rw [show g (107 + 3) a1 = g 110 a1 from rfl, hx4.1]
          show 0 + jHd h (0 : Nat) a2 * g 15 (4 + (0 : Nat)) + jHd h (1 : Nat) a2 * g 15 (4 + (1 : Nat)) + jHd h (2 : Nat) a2 * g 15 (4 + (2 : Nat)) + jHd h (3 : Nat) a2 * g 15 (4 + (3 : Nat)) = _
          rw [Int.zero_add]; rfl
        exact ⟨rfl, rfl, hf, rfl, (by exact hc2)⟩
      · replace c1 : x6 < 4 := by first | exact c1 | exact Int.not_le.mp c1 | exact Int.not_lt.mp c1 | exact Decidable.not_not.mp c1
        refine st_cv (na := 2) (st := [.inl a2, .inl x6, .inr (.inr (.inl 2))]) jo_2 rfl rfl rfl (c_X1_handsOfDay x6 a2 g (by omega) (by omega)) rfl ?_
        rintro _ _ _ ⟨rfl, rfl, t3, rfl, ht3, zt3⟩ kt3
        replace kt3 : -2147483648 ≤ t3 ∧ t3 ≤ 2147483647 := kt3
        replace ht3 : 0 ≤ t3 ∧ t3 ≤ 400 := ht3
        replace zt3 : t3 = jHd g x6 a2 ∧ -1 ≤ g 4 x6 ∧ g 4 x6 ≤ 3 ∧ (g 4 x6 < 0 ∨ g 10 (g 4 x6) ≤ 30) := zt3
        refine st_gr jo_106 jr_106_0 ?_
        have e5 : jw32 (a1 * 4) = a1 * 4 := j32e (by omega) (by omega)
        have e6 : jw32 ((jw32 (a1 * 4)) + x6) = (jw32 (a1 * 4)) + x6 := j32e (by omega) (by omega)
        refine st_si jo_107 (show 0 ≤ jw32 ((jw32 (a1 * 4)) + x6) by omega) (show jw32 ((jw32 (a1 * 4)) + x6) < ((4 : Nat) : Int) by omega) (fun hx => (jba_107 _ _).2 (show 0 ≤ t3 ∧ t3 ≤ 400 by omega)) (fun g7 eg7 => ?_)
        replace eg7 : g7 = jup g 107 (jw32 ((jw32 (a1 * 4)) + x6)) t3 := eg7
        have fg7 : jfr w_X0_write_106 h g7 := jfr_up hf eg7 (by unfold w_X0_write_106; omega)
        have e8 : g7 107 (jw32 ((jw32 (a1 * 4)) + x6)) = t3 := jup_s eg7
        refine st_gr jo_106 jr_106_2 ?_
        refine st_ai jo_109 (show 0 ≤ a1 by omega) (show a1 < ((1 : Nat) : Int) by omega) (fun v9 ev9 b10 => ?_)
        replace ev9 : v9 = g7 109 a1 := ev9
        replace b10 := (jba_109 a1 _).1 b10
        refine st_cv (na := 2) (st := [.inl x6, .inl 0, .inr (.inr (.inl 11)), .inl t3, .inl v9, .inl a1, .inr (.inr (.inl 109))]) jo_11 rfl rfl rfl (c_X2_inForce 0 x6 g7 (by omega)) rfl ?_
        rintro _ _ _ ⟨rfl, rfl, t11, rfl, ht11, zt11⟩ kt11
        replace kt11 : -2147483648 ≤ t11 ∧ t11 ≤ 2147483647 := kt11
        replace ht11 : 0 ≤ t11 ∧ t11 ≤ 200 := ht11
        replace zt11 : t11 = g7 15 (jsl (0 : Int) x6) := zt11
        refine st_si jo_109 (show 0 ≤ a1 by omega) (show a1 < ((1 : Nat) : Int) by omega) (fun hx => (jba_109 _ _).2 hx) (fun g13 eg13 => ?_)
        replace eg13 : g13 = jup g7 109 a1 (jw32 (v9 + (jw32 (t3 * t11)))) := eg13
        have fg13 : jfr w_X0_write_106 h g13 := jfr_up fg7 eg13 (by unfold w_X0_write_106; omega)
        have e14 : g13 109 a1 = jw32 (v9 + (jw32 (t3 * t11))) := jup_s eg13
        refine st_gr jo_106 jr_106_3 ?_
        refine st_ai jo_110 (show 0 ≤ a1 by omega) (show a1 < ((1 : Nat) : Int) by omega) (fun v15 ev15 b16 => ?_)
        replace ev15 : v15 = g13 110 a1 := ev15
        replace b16 := (jba_110 a1 _).1 b16
        have y17 : v15 = g 110 a1 := ev15.trans ((jup_o eg13 (by omega)).trans (jup_o eg7 (by omega)))
        refine st_cv (na := 2) (st := [.inl x6, .inl 1, .inr (.inr (.inl 11)), .inl t3, .inl v15, .inl a1, .inr (.inr (.inl 110))]) jo_11 rfl rfl rfl (c_X2_inForce 1 x6 g13 (by omega)) rfl ?_
        rintro _ _ _ ⟨rfl, rfl, t18, rfl, ht18, zt18⟩ kt18
        replace kt18 : -2147483648 ≤ t18 ∧ t18 ≤ 2147483647 := kt18
        replace ht18 : 0 ≤ t18 ∧ t18 ≤ 200 := ht18
        replace zt18 : t18 = g13 15 (jsl (1 : Int) x6) := zt18
        have y20 : t18 = g 15 (4 + x6) := by
          have q9 : jsl 1 x6 = 4 + x6 := by unfold jsl; omega
          rw [zt18, q9]; exact ((jup_o eg13 (by omega)).trans (jup_o eg7 (by omega)))
        have e21 := jmul_b (a := t3) (b := t18) (A := 400) (B := 200) (by omega) (by omega) (by omega) (by omega)
        have e22 : jw32 (t3 * t18) = t3 * t18 := j32e (by omega) (by omega)
        have e23 : jw32 (v15 + (jw32 (t3 * t18))) = v15 + (jw32 (t3 * t18)) := j32e (by omega) (by omega)
        refine st_si jo_110 (show 0 ≤ a1 by omega) (show a1 < ((1 : Nat) : Int) by omega) (fun hx => (jba_110 _ _).2 hx) (fun g24 eg24 => ?_)
        replace eg24 : g24 = jup g13 110 a1 (jw32 (v15 + (jw32 (t3 * t18)))) := eg24
        have fg24 : jfr w_X0_write_106 h g24 := jfr_up fg13 eg24 (by unfold w_X0_write_106; omega)
        have e25 : g24 110 a1 = jw32 (v15 + (jw32 (t3 * t18))) := jup_s eg24
        have e26 : jw32 (x6 + 1) = x6 + 1 := j32e (by omega) (by omega)
        show jGo E l 72 229 229 _ 61 [.inr (.inr (.inl 106)), .inl a1, .inl a2, .inr (.inr (.inl 2)), .inr (.inr (.inl 11)), .inl x5, .inl (jw32 (x6 + 1)), .inl t3] [] 229 jr0 g24
        have ef27 : ∀ i k : Int, 11 ≤ i → i ≤ 15 → g24 i k = g i k := fun i k p1 p2 => ((jup_o eg24 (by omega)).trans ((jup_o eg13 (by omega)).trans (jup_o eg7 (by omega))))
        have e28 : g24 15 8 = g13 15 8 := jup_o eg24 (by omega)
        have e29 : g13 15 8 = g7 15 8 := jup_o eg13 (by omega)
        have e30 : g7 15 8 = g 15 8 := jup_o eg7 (by omega)
        have e31 : g24 15 8 = g13 15 8 := jup_o eg24 (by omega)
        have e32 : g13 15 8 = g7 15 8 := jup_o eg13 (by omega)
        have e33 : g7 15 8 = g 15 8 := jup_o eg7 (by omega)
        have e34 : g24 15 9 = g13 15 9 := jup_o eg24 (by omega)
        have e35 : g13 15 9 = g7 15 9 := jup_o eg13 (by omega)
        have e36 : g7 15 9 = g 15 9 := jup_o eg7 (by omega)
        have hc37 : g24 108 a1 = (if ¬ g24 15 8 = 0 ∧ a2.tmod (g24 15 8) = 0 then 0 else g24 15 9) ∧ 0 ≤ g24 108 a1 := by
          rw [ef27 15 8 (by decide) (by decide), ef27 15 9 (by decide) (by decide), show g24 108 a1 = g 108 a1 from ((jup_o eg24 (by omega)).trans ((jup_o eg13 (by omega)).trans (jup_o eg7 (by omega))))]; exact hx1
        have y39 : t3 = jHd h x6 a2 := zt3.1.trans (jHd_c (h := h) (fun i k p1 p2 => hf i k (by unfold w_X0_write_106; omega)) (by have q9 := hf 4 x6 (by unfold w_X0_write_106; omega); omega))
        have hc38 : ∀ c : Int, 0 ≤ c → c < (jw32 (x6 + 1)) → g24 107 (a1 * 4 + c) = jHd h c a2 ∧ 0 ≤ g24 107 (a1 * 4 + c) ∧ g24 107 (a1 * 4 + c) ≤ 400 := by
          intro c p1 p2
          by_cases z : c = x6
          · have y1 : g24 107 (a1 * 4 + x6) = t3 := by
              rw [show a1 * 4 + x6 = jw32 ((jw32 (a1 * 4)) + x6) by omega]
              exact ((jup_o eg24 (by omega)).trans (jup_o eg13 (by omega))).trans (jup_s eg7)
            rw [z, y1]; exact ⟨y39, by omega, by omega⟩
          · rw [show g24 107 (a1 * 4 + c) = g 107 (a1 * 4 + c) from ((jup_o eg24 (by omega)).trans ((jup_o eg13 (by omega)).trans (jup_o eg7 (by omega))))]; exact hx2 c p1 (by omega)
        have hc40 : ∀ c : Int, 0 ≤ c → c < (jw32 (x6 + 1)) → 0 ≤ jHd h c a2 * g24 15 (4 + c) ∧ jHd h c a2 * g24 15 (4 + c) ≤ 80000 := by
          intro c p1 p2
          rw [ef27 15 (4 + c) (by decide) (by decide)]
          by_cases z : c = x6
          · rw [z, ← y20, ← y39]; exact ⟨by omega, by omega⟩
          · exact hx3 c p1 (by omega)
        have hc41 : g24 110 a1 = jsm (fun c => jHd h c a2 * g24 15 (4 + c)) ((jw32 (x6 + 1))).toNat ∧ 0 ≤ g24 110 a1 ∧ g24 110 a1 ≤ 80000 * (jw32 (x6 + 1)) := by
          have y5 : g24 110 a1 = g 110 a1 + jHd h x6 a2 * g 15 (4 + x6) := by
            rw [jup_s eg24, ← y20, ← y39]; omega
          have y6 : 0 ≤ jHd h x6 a2 * g 15 (4 + x6) ∧ jHd h x6 a2 * g 15 (4 + x6) ≤ 80000 := by rw [← y20, ← y39]; exact ⟨by omega, by omega⟩
          rw [show (fun c => jHd h c a2 * g24 15 (4 + c)) = (fun c => jHd h c a2 * g 15 (4 + c)) from funext (fun c => by rw [ef27 15 (4 + c) (by decide) (by decide)])]
          obtain ⟨n9, hn9⟩ := Int.eq_ofNat_of_zero_le (show 0 ≤ x6 by omega)
          rw [y5, show (jw32 (x6 + 1)).toNat = n9 + 1 by omega]
          have y7 := hx4; rw [show x6.toNat = n9 by omega] at y7
          refine ⟨?_, by omega, by omega⟩
          show _ = jsm (fun c => jHd h c a2 * g 15 (4 + c)) n9 + jHd h n9 a2 * g 15 (4 + n9)
          rw [← y7.1, ← hn9]
        have hc42 : (∀ k : Int, ¬ (a1 * 4 ≤ k ∧ k < a1 * 4 + 4) → g24 107 k = h 107 k) ∧ (∀ i k : Int, 108 ≤ i → i ≤ 110 → ¬ k = a1 → g24 i k = h i k) := by
          exact ⟨fun k p => (show g24 107 k = g 107 k from ((jup_o eg24 (by omega)).trans ((jup_o eg13 (by omega)).trans (jup_o eg7 (by omega))))).trans (hx5.1 k p), fun i k p1 p2 p3 => (show g24 i k = g i k from ((jup_o eg24 (by omega)).trans ((jup_o eg13 (by omega)).trans (jup_o eg7 (by omega))))).trans (hx5.2 i k p1 p2 p3)⟩
        exact ih x5 (jw32 (x6 + 1)) (.inl t3) g24 (by omega) (by exact jGOP_fr ef27 hx0) (by exact hc37) (by exact hc38) (by exact hc40) (by exact hc41) (by exact hc42) (by omega) fg24 (by omega)
  refine jGo_blk qX0_write_0 ?_
  refine st_cv (na := 1) (st := [.inl a2, .inr (.inr (.inl 11))]) jo_11 rfl rfl rfl (c_X2_goOnTo a2 h) rfl ?_
  rintro _ _ g44 ⟨rfl, ft43, rfl, zt43⟩ kt43
  have fg44 : jfr w_X0_write_106 h g44 := jfr_tr f0 ft43 (fun i k q => by unfold w_X2_goOnTo at q; unfold w_X0_write_106; omega)
  replace zt43 : jGOP a2 h g44 := zt43
  refine st_cv (na := 2) (st := [.inl 0, .inl 2, .inr (.inr (.inl 11))]) jo_11 rfl rfl rfl (c_X2_inForce 2 0 g44 (by omega)) rfl ?_
  rintro _ _ _ ⟨rfl, rfl, t45, rfl, ht45, zt45⟩ kt45
  replace kt45 : -2147483648 ≤ t45 ∧ t45 ≤ 2147483647 := kt45
  replace ht45 : 0 ≤ t45 ∧ t45 ≤ 200 := ht45
  replace zt45 : t45 = g44 15 (jsl (2 : Int) (0 : Int)) := zt45
  refine st_gr jo_106 jr_106_1 ?_
  refine And.intro (fun c47 => ?_) (fun c47 => ?_)
  · replace c47 : t45 = 0 := c47
    show jGo E l 72 229 229 _ 36 [.inr (.inr (.inl 106)), .inl a1, .inl a2, .inr (.inr (.inl 2)), .inr (.inr (.inl 11)), .inl t45, .inr (.inr (.inr ())), .inr (.inr (.inr ()))] [.inl a1, .inr (.inr (.inl 108))] 229 jr0 g44
    refine jGo_blk qX0_write_36 ?_
    refine st_cv (na := 2) (st := [.inl 0, .inl 3, .inr (.inr (.inl 11)), .inl a1, .inr (.inr (.inl 108))]) jo_11 rfl rfl rfl (c_X2_inForce 3 0 g44 (by omega)) rfl ?_
    rintro _ _ _ ⟨rfl, rfl, t48, rfl, ht48, zt48⟩ kt48
    replace kt48 : -2147483648 ≤ t48 ∧ t48 ≤ 2147483647 := kt48
    replace ht48 : 0 ≤ t48 ∧ t48 ≤ 200 := ht48
    replace zt48 : t48 = g44 15 (jsl (3 : Int) (0 : Int)) := zt48
    show jGo E l 72 229 229 _ 43 [.inr (.inr (.inl 106)), .inl a1, .inl a2, .inr (.inr (.inl 2)), .inr (.inr (.inl 11)), .inl t45, .inr (.inr (.inr ())), .inr (.inr (.inr ()))] [.inl t48, .inl a1, .inr (.inr (.inl 108))] 229 jr0 g44
    refine jGo_blk qX0_write_43 ?_
    refine st_si jo_108 (show 0 ≤ a1 by omega) (show a1 < ((1 : Nat) : Int) by omega) (fun hx => (jba_108 _ _).2 (show 0 ≤ t48 ∧ t48 ≤ 200 by omega)) (fun g50 eg50 => ?_)
    replace eg50 : g50 = jup g44 108 a1 t48 := eg50
    have fg50 : jfr w_X0_write_106 h g50 := jfr_up fg44 eg50 (by unfold w_X0_write_106; omega)
    have e51 : g50 108 a1 = t48 := jup_s eg50
    refine st_gr jo_106 jr_106_2 ?_
    refine st_si jo_109 (show 0 ≤ a1 by omega) (show a1 < ((1 : Nat) : Int) by omega) (fun hx => (jba_109 _ _).2 hx) (fun g52 eg52 => ?_)
    replace eg52 : g52 = jup g50 109 a1 0 := eg52
    have fg52 : jfr w_X0_write_106 h g52 := jfr_up fg50 eg52 (by unfold w_X0_write_106; omega)
    have e53 : g52 109 a1 = 0 := jup_s eg52
    refine st_gr jo_106 jr_106_3 ?_
    refine st_si jo_110 (show 0 ≤ a1 by omega) (show a1 < ((1 : Nat) : Int) by omega) (fun hx => (jba_110 _ _).2 hx) (fun g54 eg54 => ?_)
    replace eg54 : g54 = jup g52 110 a1 0 := eg54
    have fg54 : jfr w_X0_write_106 h g54 := jfr_up fg52 eg54 (by unfold w_X0_write_106; omega)
    have e55 : g54 110 a1 = 0 := jup_s eg54
    show jGo E l 72 229 229 _ 61 [.inr (.inr (.inl 106)), .inl a1, .inl a2, .inr (.inr (.inl 2)), .inr (.inr (.inl 11)), .inl t45, .inl 0, .inr (.inr (.inr ()))] [] 229 jr0 g54
    have ef56 : ∀ i k : Int, 11 ≤ i → i ≤ 15 → g54 i k = g44 i k := fun i k p1 p2 => ((jup_o eg54 (by omega)).trans ((jup_o eg52 (by omega)).trans (jup_o eg50 (by omega))))
    have e57 : g54 15 8 = g52 15 8 := jup_o eg54 (by omega)
    have e58 : g52 15 8 = g50 15 8 := jup_o eg52 (by omega)
    have e59 : g50 15 8 = g44 15 8 := jup_o eg50 (by omega)
    have e60 : g54 15 8 = g52 15 8 := jup_o eg54 (by omega)
    have e61 : g52 15 8 = g50 15 8 := jup_o eg52 (by omega)
    have e62 : g50 15 8 = g44 15 8 := jup_o eg50 (by omega)
    have e63 : g54 15 9 = g52 15 9 := jup_o eg54 (by omega)
    have e64 : g52 15 9 = g50 15 9 := jup_o eg52 (by omega)
    have e65 : g50 15 9 = g44 15 9 := jup_o eg50 (by omega)
    have hc66 : g54 108 a1 = (if ¬ g54 15 8 = 0 ∧ a2.tmod (g54 15 8) = 0 then 0 else g54 15 9) ∧ 0 ≤ g54 108 a1 := by
      have y1 : g54 108 a1 = t48 := ((jup_o eg54 (by omega)).trans (jup_o eg52 (by omega))).trans (jup_s eg50)
      have y2 : g54 15 8 = t45 := (ef56 15 8 (by decide) (by decide)).trans zt45.symm
      rw [y1, y2]
      have y3 : g54 15 9 = t48 := (ef56 15 9 (by decide) (by decide)).trans zt48.symm
      rw [y3]; exact ⟨(if_neg (fun q => by omega)).symm, by omega⟩
    have hc69 : g54 110 a1 = jsm (fun c => jHd h c a2 * g54 15 (4 + c)) ((0 : Int)).toNat ∧ 0 ≤ g54 110 a1 ∧ g54 110 a1 ≤ 80000 * (0 : Int) := by
      rw [jup_s eg54]; exact ⟨rfl, by omega, by omega⟩
    have hc70 : (∀ k : Int, ¬ (a1 * 4 ≤ k ∧ k < a1 * 4 + 4) → g54 107 k = h 107 k) ∧ (∀ i k : Int, 108 ≤ i → i ≤ 110 → ¬ k = a1 → g54 i k = h i k) := by
      exact ⟨fun k p => ((jup_o eg54 (by omega)).trans ((jup_o eg52 (by omega)).trans ((jup_o eg50 (by omega)).trans (ft43 107 k (by unfold w_X2_goOnTo; omega))))), fun i k p1 p2 p3 => ((jup_o eg54 (by omega)).trans ((jup_o eg52 (by omega)).trans ((jup_o eg50 (by omega)).trans (ft43 i k (by unfold w_X2_goOnTo; omega)))))⟩
    exact (key 1000000000000) t45 0 (.inr (.inr (.inr ()))) g54 (by omega) (by exact jGOP_fr ef56 zt43) (by exact hc66) (by exact fun c p1 p2 => absurd p2 (by omega)) (by exact fun c p1 p2 => absurd p2 (by omega)) (by exact hc69) (by exact hc70) (by omega) fg54 (by omega)
  · replace c47 : ¬ t45 = 0 := by first | exact c47 | exact Int.not_le.mp c47 | exact Int.not_lt.mp c47 | exact Decidable.not_not.mp c47
    refine And.intro (show t45 ≠ 0 by omega) ?_
    have e71 : True ∧ 0 ≤ a2.tmod t45 ∧ a2.tmod t45 < t45 := ⟨trivial, (jmd (by omega) (by omega)).2⟩
    refine And.intro (fun c72 => ?_) (fun c72 => ?_)
    · replace c72 : ¬ a2.tmod t45 = 0 := c72
      show jGo E l 72 229 229 _ 36 [.inr (.inr (.inl 106)), .inl a1, .inl a2, .inr (.inr (.inl 2)), .inr (.inr (.inl 11)), .inl t45, .inr (.inr (.inr ())), .inr (.inr (.inr ()))] [.inl a1, .inr (.inr (.inl 108))] 229 jr0 g44
      refine jGo_blk qX0_write_36 ?_
      refine st_cv (na := 2) (st := [.inl 0, .inl 3, .inr (.inr (.inl 11)), .inl a1, .inr (.inr (.inl 108))]) jo_11 rfl rfl rfl (c_X2_inForce 3 0 g44 (by omega)) rfl ?_
      rintro _ _ _ ⟨rfl, rfl, t73, rfl, ht73, zt73⟩ kt73
      replace kt73 : -2147483648 ≤ t73 ∧ t73 ≤ 2147483647 := kt73
      replace ht73 : 0 ≤ t73 ∧ t73 ≤ 200 := ht73
      replace zt73 : t73 = g44 15 (jsl (3 : Int) (0 : Int)) := zt73
      show jGo E l 72 229 229 _ 43 [.inr (.inr (.inl 106)), .inl a1, .inl a2, .inr (.inr (.inl 2)), .inr (.inr (.inl 11)), .inl t45, .inr (.inr (.inr ())), .inr (.inr (.inr ()))] [.inl t73, .inl a1, .inr (.inr (.inl 108))] 229 jr0 g44
      refine jGo_blk qX0_write_43 ?_
      refine st_si jo_108 (show 0 ≤ a1 by omega) (show a1 < ((1 : Nat) : Int) by omega) (fun hx => (jba_108 _ _).2 (show 0 ≤ t73 ∧ t73 ≤ 200 by omega)) (fun g75 eg75 => ?_)
      replace eg75 : g75 = jup g44 108 a1 t73 := eg75
      have fg75 : jfr w_X0_write_106 h g75 := jfr_up fg44 eg75 (by unfold w_X0_write_106; omega)
      have e76 : g75 108 a1 = t73 := jup_s eg75
      refine st_gr jo_106 jr_106_2 ?_
      refine st_si jo_109 (show 0 ≤ a1 by omega) (show a1 < ((1 : Nat) : Int) by omega) (fun hx => (jba_109 _ _).2 hx) (fun g77 eg77 => ?_)
      replace eg77 : g77 = jup g75 109 a1 0 := eg77
      have fg77 : jfr w_X0_write_106 h g77 := jfr_up fg75 eg77 (by unfold w_X0_write_106; omega)
      have e78 : g77 109 a1 = 0 := jup_s eg77
      refine st_gr jo_106 jr_106_3 ?_
      refine st_si jo_110 (show 0 ≤ a1 by omega) (show a1 < ((1 : Nat) : Int) by omega) (fun hx => (jba_110 _ _).2 hx) (fun g79 eg79 => ?_)
      replace eg79 : g79 = jup g77 110 a1 0 := eg79
      have fg79 : jfr w_X0_write_106 h g79 := jfr_up fg77 eg79 (by unfold w_X0_write_106; omega)
      have e80 : g79 110 a1 = 0 := jup_s eg79
      show jGo E l 72 229 229 _ 61 [.inr (.inr (.inl 106)), .inl a1, .inl a2, .inr (.inr (.inl 2)), .inr (.inr (.inl 11)), .inl t45, .inl 0, .inr (.inr (.inr ()))] [] 229 jr0 g79
      have ef81 : ∀ i k : Int, 11 ≤ i → i ≤ 15 → g79 i k = g44 i k := fun i k p1 p2 => ((jup_o eg79 (by omega)).trans ((jup_o eg77 (by omega)).trans (jup_o eg75 (by omega))))
      have e82 : g79 15 8 = g77 15 8 := jup_o eg79 (by omega)
      have e83 : g77 15 8 = g75 15 8 := jup_o eg77 (by omega)
      have e84 : g75 15 8 = g44 15 8 := jup_o eg75 (by omega)
      have e85 : g79 15 8 = g77 15 8 := jup_o eg79 (by omega)
      have e86 : g77 15 8 = g75 15 8 := jup_o eg77 (by omega)
      have e87 : g75 15 8 = g44 15 8 := jup_o eg75 (by omega)
      have e88 : g79 15 9 = g77 15 9 := jup_o eg79 (by omega)
      have e89 : g77 15 9 = g75 15 9 := jup_o eg77 (by omega)
      have e90 : g75 15 9 = g44 15 9 := jup_o eg75 (by omega)
      have hc91 : g79 108 a1 = (if ¬ g79 15 8 = 0 ∧ a2.tmod (g79 15 8) = 0 then 0 else g79 15 9) ∧ 0 ≤ g79 108 a1 := by
        have y1 : g79 108 a1 = t73 := ((jup_o eg79 (by omega)).trans (jup_o eg77 (by omega))).trans (jup_s eg75)
        have y2 : g79 15 8 = t45 := (ef81 15 8 (by decide) (by decide)).trans zt45.symm
        rw [y1, y2]
        have y3 : g79 15 9 = t73 := (ef81 15 9 (by decide) (by decide)).trans zt73.symm
        rw [y3]; exact ⟨(if_neg (fun q => by omega)).symm, by omega⟩
      have hc94 : g79 110 a1 = jsm (fun c => jHd h c a2 * g79 15 (4 + c)) ((0 : Int)).toNat ∧ 0 ≤ g79 110 a1 ∧ g79 110 a1 ≤ 80000 * (0 : Int) := by
        rw [jup_s eg79]; exact ⟨rfl, by omega, by omega⟩
      have hc95 : (∀ k : Int, ¬ (a1 * 4 ≤ k ∧ k < a1 * 4 + 4) → g79 107 k = h 107 k) ∧ (∀ i k : Int, 108 ≤ i → i ≤ 110 → ¬ k = a1 → g79 i k = h i k) := by
        exact ⟨fun k p => ((jup_o eg79 (by omega)).trans ((jup_o eg77 (by omega)).trans ((jup_o eg75 (by omega)).trans (ft43 107 k (by unfold w_X2_goOnTo; omega))))), fun i k p1 p2 p3 => ((jup_o eg79 (by omega)).trans ((jup_o eg77 (by omega)).trans ((jup_o eg75 (by omega)).trans (ft43 i k (by unfold w_X2_goOnTo; omega)))))⟩
      exact (key 1000000000000) t45 0 (.inr (.inr (.inr ()))) g79 (by omega) (by exact jGOP_fr ef81 zt43) (by exact hc91) (by exact fun c p1 p2 => absurd p2 (by omega)) (by exact fun c p1 p2 => absurd p2 (by omega)) (by exact hc94) (by exact hc95) (by omega) fg79 (by omega)
    · replace c72 : a2.tmod t45 = 0 := by first | exact c72 | exact Int.not_le.mp c72 | exact Int.not_lt.mp c72 | exact Decidable.not_not.mp c72
      show jGo E l 72 229 229 _ 43 [.inr (.inr (.inl 106)), .inl a1, .inl a2, .inr (.inr (.inl 2)), .inr (.inr (.inl 11)), .inl t45, .inr (.inr (.inr ())), .inr (.inr (.inr ()))] [.inl 0, .inl a1, .inr (.inr (.inl 108))] 229 jr0 g44
      refine jGo_blk qX0_write_43 ?_
      refine st_si jo_108 (show 0 ≤ a1 by omega) (show a1 < ((1 : Nat) : Int) by omega) (fun hx => (jba_108 _ _).2 (show 0 ≤ 0 ∧ 0 ≤ 200 by omega)) (fun g96 eg96 => ?_)
      replace eg96 : g96 = jup g44 108 a1 0 := eg96
      have fg96 : jfr w_X0_write_106 h g96 := jfr_up fg44 eg96 (by unfold w_X0_write_106; omega)
      have e97 : g96 108 a1 = 0 := jup_s eg96
      refine st_gr jo_106 jr_106_2 ?_
      refine st_si jo_109 (show 0 ≤ a1 by omega) (show a1 < ((1 : Nat) : Int) by omega) (fun hx => (jba_109 _ _).2 hx) (fun g98 eg98 => ?_)
      replace eg98 : g98 = jup g96 109 a1 0 := eg98
      have fg98 : jfr w_X0_write_106 h g98 := jfr_up fg96 eg98 (by unfold w_X0_write_106; omega)
      have e99 : g98 109 a1 = 0 := jup_s eg98
      refine st_gr jo_106 jr_106_3 ?_
      refine st_si jo_110 (show 0 ≤ a1 by omega) (show a1 < ((1 : Nat) : Int) by omega) (fun hx => (jba_110 _ _).2 hx) (fun g100 eg100 => ?_)
      replace eg100 : g100 = jup g98 110 a1 0 := eg100
      have fg100 : jfr w_X0_write_106 h g100 := jfr_up fg98 eg100 (by unfold w_X0_write_106; omega)
      have e101 : g100 110 a1 = 0 := jup_s eg100
      show jGo E l 72 229 229 _ 61 [.inr (.inr (.inl 106)), .inl a1, .inl a2, .inr (.inr (.inl 2)), .inr (.inr (.inl 11)), .inl t45, .inl 0, .inr (.inr (.inr ()))] [] 229 jr0 g100
      have ef102 : ∀ i k : Int, 11 ≤ i → i ≤ 15 → g100 i k = g44 i k := fun i k p1 p2 => ((jup_o eg100 (by omega)).trans ((jup_o eg98 (by omega)).trans (jup_o eg96 (by omega))))
      have e103 : g100 15 8 = g98 15 8 := jup_o eg100 (by omega)
      have e104 : g98 15 8 = g96 15 8 := jup_o eg98 (by omega)
      have e105 : g96 15 8 = g44 15 8 := jup_o eg96 (by omega)
      have e106 : g100 15 8 = g98 15 8 := jup_o eg100 (by omega)
      have e107 : g98 15 8 = g96 15 8 := jup_o eg98 (by omega)
      have e108 : g96 15 8 = g44 15 8 := jup_o eg96 (by omega)
      have e109 : g100 15 9 = g98 15 9 := jup_o eg100 (by omega)
      have e110 : g98 15 9 = g96 15 9 := jup_o eg98 (by omega)
      have e111 : g96 15 9 = g44 15 9 := jup_o eg96 (by omega)
      have hc112 : g100 108 a1 = (if ¬ g100 15 8 = 0 ∧ a2.tmod (g100 15 8) = 0 then 0 else g100 15 9) ∧ 0 ≤ g100 108 a1 := by
        have y1 : g100 108 a1 = 0 := ((jup_o eg100 (by omega)).trans (jup_o eg98 (by omega))).trans (jup_s eg96)
        have y2 : g100 15 8 = t45 := (ef102 15 8 (by decide) (by decide)).trans zt45.symm
        rw [y1, y2]
        exact ⟨(if_pos ⟨by omega, by omega⟩).symm, Int.le_refl _⟩
      have hc115 : g100 110 a1 = jsm (fun c => jHd h c a2 * g100 15 (4 + c)) ((0 : Int)).toNat ∧ 0 ≤ g100 110 a1 ∧ g100 110 a1 ≤ 80000 * (0 : Int) := by
        rw [jup_s eg100]; exact ⟨rfl, by omega, by omega⟩
      have hc116 : (∀ k : Int, ¬ (a1 * 4 ≤ k ∧ k < a1 * 4 + 4) → g100 107 k = h 107 k) ∧ (∀ i k : Int, 108 ≤ i → i ≤ 110 → ¬ k = a1 → g100 i k = h i k) := by
        exact ⟨fun k p => ((jup_o eg100 (by omega)).trans ((jup_o eg98 (by omega)).trans ((jup_o eg96 (by omega)).trans (ft43 107 k (by unfold w_X2_goOnTo; omega))))), fun i k p1 p2 p3 => ((jup_o eg100 (by omega)).trans ((jup_o eg98 (by omega)).trans ((jup_o eg96 (by omega)).trans (ft43 i k (by unfold w_X2_goOnTo; omega)))))⟩
      exact (key 1000000000000) t45 0 (.inr (.inr (.inr ()))) g100 (by omega) (by exact jGOP_fr ef102 zt43) (by exact hc112) (by exact fun c p1 p2 => absurd p2 (by omega)) (by exact fun c p1 p2 => absurd p2 (by omega)) (by exact hc115) (by exact hc116) (by omega) fg100 (by omega)

def k_X4_mayMoveOn (a0 : Int) (h : JH) (v : Option JV) (r' g : JH) : Prop := r' = jr0 ∧ h = g ∧ ∃ x : Int, v = some (.inl x) ∧ (0 ≤ x ∧ x ≤ 1) ∧ ((x = 1 ∧ ¬ h a0 7 = 0 ∧ h a0 6 = 0) ∨ (x = 0 ∧ (h a0 7 = 0 ∨ ¬ h a0 6 = 0)))
set_option maxHeartbeats 4000000 in
theorem c_X4_mayMoveOn {E : JE} {l : Launch} (a0 : Int) (h : JH) (ha0 : jHl a0) : jMt E l 73 [.inr (.inr (.inl a0))] 229 jr0 h (k_X4_mayMoveOn a0 h) := by
  refine jMt0 (nL := 1) (ls := [.inr (.inr (.inl a0))]) (by decide +kernel) (by decide +kernel) (by decide +kernel) rfl rfl ?_
  refine jGo_blk qX4_mayMoveOn_0 ?_
  refine st_gi ha0.1 (fun v1 ev1 b2 => ?_)
  replace ev1 : v1 = h a0 7 := ev1
  replace b2 := (jbf_4_7 ha0.1 _).1 b2
  refine And.intro (fun c3 => ?_) (fun c3 => ?_)
  · replace c3 : v1 = 0 := c3
    show jGo E l 73 229 229 _ 18 [.inr (.inr (.inl a0))] [] 229 jr0 h
    refine jGo_blk qX4_mayMoveOn_18 ?_
    show jGo E l 73 229 229 _ 19 [.inr (.inr (.inl a0))] [.inl 0] 229 jr0 h
    refine jGo_blk qX4_mayMoveOn_19 ?_
    exact st_r1 (ls := []) (show (0 : Int) = 0 ∨ (0 : Int) = 1 by omega) ⟨rfl, rfl, rfl, 0, rfl, (by omega), (by omega)⟩
  · replace c3 : ¬ v1 = 0 := by first | exact c3 | exact Int.not_le.mp c3 | exact Int.not_lt.mp c3 | exact Decidable.not_not.mp c3
    refine st_gi ha0.1 (fun v4 ev4 b5 => ?_)
    replace ev4 : v4 = h a0 6 := ev4
    replace b5 := (jbf_4_6 ha0.1 _).1 b5
    refine And.intro (fun c6 => ?_) (fun c6 => ?_)
    · replace c6 : ¬ v4 = 0 := c6
      show jGo E l 73 229 229 _ 18 [.inr (.inr (.inl a0))] [] 229 jr0 h
      refine jGo_blk qX4_mayMoveOn_18 ?_
      show jGo E l 73 229 229 _ 19 [.inr (.inr (.inl a0))] [.inl 0] 229 jr0 h
      refine jGo_blk qX4_mayMoveOn_19 ?_
      exact st_r1 (ls := []) (show (0 : Int) = 0 ∨ (0 : Int) = 1 by omega) ⟨rfl, rfl, rfl, 0, rfl, (by omega), (by omega)⟩
    · replace c6 : v4 = 0 := by first | exact c6 | exact Int.not_le.mp c6 | exact Int.not_lt.mp c6 | exact Decidable.not_not.mp c6
      show jGo E l 73 229 229 _ 19 [.inr (.inr (.inl a0))] [.inl 1] 229 jr0 h
      refine jGo_blk qX4_mayMoveOn_19 ?_
      exact st_r1 (ls := []) (show (1 : Int) = 0 ∨ (1 : Int) = 1 by omega) ⟨rfl, rfl, rfl, 1, rfl, (by omega), (by omega)⟩

def w_X4_leave (a0 : Int) (i k : Int) : Prop := (a0 + 0 ≤ i ∧ i ≤ a0 + 0)
def k_X4_leave (a0 : Int) (a1 : Int) (h : JH) (v : Option JV) (r' g : JH) : Prop := r' = jr0 ∧ jfr (w_X4_leave a0) h g ∧ v = none ∧ (g = jLv a0 a1 h)
set_option maxHeartbeats 4000000 in
theorem c_X4_leave {E : JE} {l : Launch} (a0 : Int) (a1 : Int) (h : JH) (ha0 : jHl a0) : jMt E l 74 [.inr (.inr (.inl a0)), .inl a1] 229 jr0 h (k_X4_leave a0 a1 h) := by
  refine jMt0 (nL := 2) (ls := [.inr (.inr (.inl a0)), .inl a1]) (by decide +kernel) (by decide +kernel) (by decide +kernel) rfl rfl ?_
  have f0 : jfr (w_X4_leave a0) h h := jfr_rf _ _
  refine jGo_blk qX4_leave_0 ?_
  refine st_pi ha0.1 (fun hx => (jbf_4_3 ha0.1 _).2 (show 0 ≤ 2 ∧ 2 ≤ 3 by omega)) (fun g1 eg1 => ?_)
  replace eg1 : g1 = jup h a0 3 2 := eg1
  have fg1 : jfr (w_X4_leave a0) h g1 := jfr_up f0 eg1 (by unfold w_X4_leave; omega)
  have e2 : g1 a0 3 = 2 := jup_s eg1
  refine st_pi ha0.1 (fun hx => (jbf_4_4 ha0.1 _).2 (show -9 ≤ (-9) ∧ (-9) ≤ 5 by omega)) (fun g3 eg3 => ?_)
  replace eg3 : g3 = jup g1 a0 4 (-9) := eg3
  have fg3 : jfr (w_X4_leave a0) h g3 := jfr_up fg1 eg3 (by unfold w_X4_leave; omega)
  have e4 : g3 a0 4 = (-9) := jup_s eg3
  refine st_pi ha0.1 (fun hx => (jbf_4_7 ha0.1 _).2 (show 0 ≤ 0 ∧ 0 ≤ 1 by omega)) (fun g5 eg5 => ?_)
  replace eg5 : g5 = jup g3 a0 7 0 := eg5
  have fg5 : jfr (w_X4_leave a0) h g5 := jfr_up fg3 eg5 (by unfold w_X4_leave; omega)
  have e6 : g5 a0 7 = 0 := jup_s eg5
  refine st_pi ha0.1 (fun hx => (jbf_4_9 ha0.1 _).2 hx) (fun g7 eg7 => ?_)
  replace eg7 : g7 = jup g5 a0 9 a1 := eg7
  have fg7 : jfr (w_X4_leave a0) h g7 := jfr_up fg5 eg7 (by unfold w_X4_leave; omega)
  have e8 : g7 a0 9 = a1 := jup_s eg7
  exact ⟨rfl, rfl, fg7, rfl, (by subst eg7 eg5 eg3 eg1; unfold jLv; rfl)⟩

def w_X4_enter (a0 : Int) (i k : Int) : Prop := (a0 + 0 ≤ i ∧ i ≤ a0 + 0) ∨ (a0 + 1 ≤ i ∧ i ≤ a0 + 1) ∨ (a0 + 2 ≤ i ∧ i ≤ a0 + 2)
def k_X4_enter (a0 : Int) (a1 : Int) (h : JH) (v : Option JV) (r' g : JH) : Prop := r' = jr0 ∧ jfr (w_X4_enter a0) h g ∧ v = none ∧ (g = jEnt a0 a1 h)
set_option maxHeartbeats 4000000 in
theorem c_X4_enter {E : JE} {l : Launch} (a0 : Int) (a1 : Int) (h : JH) (ha0 : jHl a0) (p1 : 0 ≤ a1 ∧ a1 ≤ 5) : jMt E l 75 [.inr (.inr (.inl a0)), .inl a1, .inr (.inr (.inl 16))] 229 jr0 h (k_X4_enter a0 a1 h) := by
  refine jMt0 (nL := 4) (ls := [.inr (.inr (.inl a0)), .inl a1, .inr (.inr (.inl 16)), .inr (.inr (.inr ()))]) (by decide +kernel) (by decide +kernel) (by decide +kernel) rfl rfl ?_
  have f0 : jfr (w_X4_enter a0) h h := jfr_rf _ _
  have key : ∀ N : Nat, (∀ (x3 : Int) (g : JH), (0 ≤ x3 ∧ x3 ≤ 6) → (g = jit (jE5 a0 a1) (x3).toNat (jE4 a0 (jE3 a0 a1 (jE2 a0 a1 (jE1 a0 a1 h))))) → jfr (w_X4_enter a0) h g → (6 - x3) < (N : Int) → jGo E l 75 229 229 (jRK (k_X4_enter a0 a1 h)) 47 [.inr (.inr (.inl a0)), .inl a1, .inr (.inr (.inl 16)), .inl x3] [] 229 jr0 g) := by
    intro N
    induction N with
    | zero => exact fun _ _ hi hx0 _ hN => absurd hN (by omega)
    | succ N ih =>
      intro x3 g hi hx0 hf hN
      refine jGo_blk qX4_enter_47 ?_
      refine And.intro (fun c1 => ?_) (fun c1 => ?_)
      · replace c1 : 6 ≤ x3 := c1
        show jGo E l 75 229 229 _ 96 [.inr (.inr (.inl a0)), .inl a1, .inr (.inr (.inl 16)), .inl x3] [] 229 jr0 g
        refine jGo_blk qX4_enter_96 ?_
        exact ⟨rfl, rfl, hf, rfl, (by rw [hx0, show x3 = 6 by omega]; rfl)⟩
      · replace c1 : x3 < 6 := by first | exact c1 | exact Int.not_le.mp c1 | exact Int.not_lt.mp c1 | exact Decidable.not_not.mp c1
        refine st_gr ha0.1 rfl ?_
        refine st_gr jo_16 jr_16_2 ?_
        refine st_gi ha0.1 (fun v2 ev2 b3 => ?_)
        replace ev2 : v2 = g a0 0 := ev2
        replace b3 := (jbf_4_0 ha0.1 _).1 b3
        refine st_ar jo_25 (by decide) (show 0 ≤ v2 by omega) (show v2 < ((3 : Nat) : Int) by omega) (fun u4 eu4 => ?_)
        replace eu4 : u4 = jr0 25 v2 := eu4
        have qu4 : u4 = 26 + v2 := eu4.trans (jrow_25 v2 (by omega) (by omega)).1
        have ou4 : jF 229 u4 1 36 := by rw [eu4]; exact (jrow_25 v2 (by omega) (by omega)).2.1
        have wu4 : ∀ j v : Int, jbd u4 j v ↔ (0 ≤ v ∧ v ≤ 500) := by rw [eu4]; exact (jrow_25 v2 (by omega) (by omega)).2.2
        have e5 : jw32 (a1 * 6) = a1 * 6 := j32e (by omega) (by omega)
        have e6 : jw32 ((jw32 (a1 * 6)) + x3) = (jw32 (a1 * 6)) + x3 := j32e (by omega) (by omega)
        refine st_ai ou4 (show 0 ≤ jw32 ((jw32 (a1 * 6)) + x3) by omega) (show jw32 ((jw32 (a1 * 6)) + x3) < ((36 : Nat) : Int) by omega) (fun v7 ev7 b8 => ?_)
        replace ev7 : v7 = g u4 (jw32 ((jw32 (a1 * 6)) + x3)) := ev7
        replace b8 := (wu4 (jw32 ((jw32 (a1 * 6)) + x3)) _).1 b8
        refine st_si ha0.2.1 (show 0 ≤ x3 by omega) (show x3 < ((6 : Nat) : Int) by omega) (fun hx => (ha0.2.2.2.2.2.1 _ _).2 hx) (fun g9 eg9 => ?_)
        replace eg9 : g9 = jup g (jr0 a0 11) x3 v7 := eg9
        have fg9 : jfr (w_X4_enter a0) h g9 := jfr_up hf eg9 (by have q9 := ha0.2.2.2.1; have q8 := ha0.2.2.2.2.1; unfold w_X4_enter; omega)
        have e10 : g9 (jr0 a0 11) x3 = v7 := jup_s eg9
        refine st_gr ha0.1 rfl ?_
        refine st_ai ha0.2.2.1 (show 0 ≤ x3 by omega) (show x3 < ((6 : Nat) : Int) by omega) (fun v11 ev11 b12 => ?_)
        replace ev11 : v11 = g9 (jr0 a0 12) x3 := ev11
        replace b12 := (ha0.2.2.2.2.2.2 x3 _).1 b12
        refine st_gr ha0.1 rfl ?_
        refine st_ai ha0.2.1 (show 0 ≤ x3 by omega) (show x3 < ((6 : Nat) : Int) by omega) (fun v13 ev13 b14 => ?_)
        replace ev13 : v13 = g9 (jr0 a0 11) x3 := ev13
        replace b14 := (ha0.2.2.2.2.2.1 x3 _).1 b14
        refine st_si ha0.2.2.1 (show 0 ≤ x3 by omega) (show x3 < ((6 : Nat) : Int) by omega) (fun hx => (ha0.2.2.2.2.2.2 _ _).2 hx) (fun g15 eg15 => ?_)
        replace eg15 : g15 = jup g9 (jr0 a0 12) x3 (jw32 (v11 + v13)) := eg15
        have fg15 : jfr (w_X4_enter a0) h g15 := jfr_up fg9 eg15 (by have q9 := ha0.2.2.2.1; have q8 := ha0.2.2.2.2.1; unfold w_X4_enter; omega)
        have e16 : g15 (jr0 a0 12) x3 = jw32 (v11 + v13) := jup_s eg15
        have e17 : jw32 (x3 + 1) = x3 + 1 := j32e (by omega) (by omega)
        show jGo E l 75 229 229 _ 47 [.inr (.inr (.inl a0)), .inl a1, .inr (.inr (.inl 16)), .inl (jw32 (x3 + 1))] [] 229 jr0 g15
        exact ih (jw32 (x3 + 1)) g15 (by omega) (by rw [show jw32 (x3 + 1) = x3 + 1 by omega, jit_s (by omega), ← hx0]; subst eg15 ev13 ev11 eg9 ev7 qu4 ev2; unfold jE5 jE6; (repeat (first | rw [if_pos (by omega)] | rw [if_neg (by omega)])); all_goals ((try rw [e17]); (try rw [e6]); (try rw [e5]); (try rw [ha0.2.2.2.1]); (try rw [ha0.2.2.2.2.1]); (try rfl))) fg15 (by omega)
  refine jGo_blk qX4_enter_0 ?_
  refine st_pi ha0.1 (fun hx => (jbf_4_3 ha0.1 _).2 (show 0 ≤ 1 ∧ 1 ≤ 3 by omega)) (fun g18 eg18 => ?_)
  replace eg18 : g18 = jup h a0 3 1 := eg18
  have fg18 : jfr (w_X4_enter a0) h g18 := jfr_up f0 eg18 (by unfold w_X4_enter; omega)
  have e19 : g18 a0 3 = 1 := jup_s eg18
  refine st_pi ha0.1 (fun hx => (jbf_4_4 ha0.1 _).2 (show -9 ≤ a1 ∧ a1 ≤ 5 by omega)) (fun g20 eg20 => ?_)
  replace eg20 : g20 = jup g18 a0 4 a1 := eg20
  have fg20 : jfr (w_X4_enter a0) h g20 := jfr_up fg18 eg20 (by unfold w_X4_enter; omega)
  have e21 : g20 a0 4 = a1 := jup_s eg20
  refine st_gr jo_16 jr_16_0 ?_
  refine st_gi ha0.1 (fun v22 ev22 b23 => ?_)
  replace ev22 : v22 = g20 a0 0 := ev22
  replace b23 := (jbf_4_0 ha0.1 _).1 b23
  refine st_ar jo_17 (by decide) (show 0 ≤ v22 by omega) (show v22 < ((3 : Nat) : Int) by omega) (fun u24 eu24 => ?_)
  replace eu24 : u24 = jr0 17 v22 := eu24
  have qu24 : u24 = 18 + v22 := eu24.trans (jrow_17 v22 (by omega) (by omega)).1
  have ou24 : jF 229 u24 1 6 := by rw [eu24]; exact (jrow_17 v22 (by omega) (by omega)).2.1
  have wu24 : ∀ j v : Int, jbd u24 j v ↔ (0 ≤ v ∧ v ≤ 3) := by rw [eu24]; exact (jrow_17 v22 (by omega) (by omega)).2.2
  refine st_ai ou24 (show 0 ≤ a1 by omega) (show a1 < ((6 : Nat) : Int) by omega) (fun v25 ev25 b26 => ?_)
  replace ev25 : v25 = g20 u24 a1 := ev25
  replace b26 := (wu24 a1 _).1 b26
  refine st_pi ha0.1 (fun hx => (jbf_4_5 ha0.1 _).2 (show 0 ≤ v25 ∧ v25 ≤ 3 by omega)) (fun g27 eg27 => ?_)
  replace eg27 : g27 = jup g20 a0 5 v25 := eg27
  have fg27 : jfr (w_X4_enter a0) h g27 := jfr_up fg20 eg27 (by unfold w_X4_enter; omega)
  have e28 : g27 a0 5 = v25 := jup_s eg27
  refine st_gr jo_16 jr_16_1 ?_
  refine st_gi ha0.1 (fun v29 ev29 b30 => ?_)
  replace ev29 : v29 = g27 a0 0 := ev29
  replace b30 := (jbf_4_0 ha0.1 _).1 b30
  refine st_ar jo_21 (by decide) (show 0 ≤ v29 by omega) (show v29 < ((3 : Nat) : Int) by omega) (fun u31 eu31 => ?_)
  replace eu31 : u31 = jr0 21 v29 := eu31
  have qu31 : u31 = 22 + v29 := eu31.trans (jrow_21 v29 (by omega) (by omega)).1
  have ou31 : jF 229 u31 1 6 := by rw [eu31]; exact (jrow_21 v29 (by omega) (by omega)).2.1
  have wu31 : ∀ j v : Int, jbd u31 j v ↔ (0 ≤ v ∧ v ≤ 2000) := by rw [eu31]; exact (jrow_21 v29 (by omega) (by omega)).2.2
  refine st_ai ou31 (show 0 ≤ a1 by omega) (show a1 < ((6 : Nat) : Int) by omega) (fun v32 ev32 b33 => ?_)
  replace ev32 : v32 = g27 u31 a1 := ev32
  replace b33 := (wu31 a1 _).1 b33
  refine st_pi ha0.1 (fun hx => (jbf_4_6 ha0.1 _).2 hx) (fun g34 eg34 => ?_)
  replace eg34 : g34 = jup g27 a0 6 v32 := eg34
  have fg34 : jfr (w_X4_enter a0) h g34 := jfr_up fg27 eg34 (by unfold w_X4_enter; omega)
  have e35 : g34 a0 6 = v32 := jup_s eg34
  refine st_pi ha0.1 (fun hx => (jbf_4_7 ha0.1 _).2 (show 0 ≤ 0 ∧ 0 ≤ 1 by omega)) (fun g36 eg36 => ?_)
  replace eg36 : g36 = jup g34 a0 7 0 := eg36
  have fg36 : jfr (w_X4_enter a0) h g36 := jfr_up fg34 eg36 (by unfold w_X4_enter; omega)
  have e37 : g36 a0 7 = 0 := jup_s eg36
  show jGo E l 75 229 229 _ 47 [.inr (.inr (.inl a0)), .inl a1, .inr (.inr (.inl 16)), .inl 0] [] 229 jr0 g36
  exact (key 1000000000000) 0 g36 (by omega) (by subst eg36 eg34 ev32 qu31 ev29 eg27 ev25 qu24 ev22 eg20 eg18; unfold jE4 jE3 jE2 jE1; (repeat (first | rw [if_pos (by omega)] | rw [if_neg (by omega)])); all_goals ((try rfl))) fg36 (by omega)

def w_X10_berth_29 (i k : Int) : Prop := (i = 31) ∨ (36 ≤ i ∧ i ≤ 83) ∨ (i = 29 ∧ k = 10)
def k_X10_berth_29 (a1 : Int) (a2 : Int) (h : JH) (v : Option JV) (r' g : JH) : Prop := r' = jr0 ∧ jfr w_X10_berth_29 h g ∧ v = none ∧ (g = jBrt 29 31 36 a1 a2 h)
set_option maxHeartbeats 4000000 in
theorem c_X10_berth_29 {E : JE} {l : Launch} (a1 : Int) (a2 : Int) (h : JH) (p1 : 0 ≤ a1 ∧ a1 ≤ 15) (p2 : 0 ≤ a2 ∧ a2 ≤ 5) : jMt E l 76 [.inr (.inr (.inl 29)), .inl a1, .inl a2, .inr (.inr (.inl 16))] 229 jr0 h (k_X10_berth_29 a1 a2 h) := by
  refine jMt0 (nL := 4) (ls := [.inr (.inr (.inl 29)), .inl a1, .inl a2, .inr (.inr (.inl 16))]) (by decide +kernel) (by decide +kernel) (by decide +kernel) rfl rfl ?_
  have f0 : jfr w_X10_berth_29 h h := jfr_rf _ _
  refine jGo_blk qX10_berth_0 ?_
  refine st_gr jo_29 jr_29_1 ?_
  refine st_si jo_31 (show 0 ≤ a2 by omega) (show a2 < ((6 : Nat) : Int) by omega) (fun hx => (jba_31 _ _).2 (show -2 ≤ a1 ∧ a1 ≤ 15 by omega)) (fun g1 eg1 => ?_)
  replace eg1 : g1 = jup h 31 a2 a1 := eg1
  have fg1 : jfr w_X10_berth_29 h g1 := jfr_up f0 eg1 (by unfold w_X10_berth_29; omega)
  have e2 : g1 31 a2 = a1 := jup_s eg1
  refine st_gr jo_29 jr_29_3 ?_
  refine st_ar jo_33 (by decide) (show 0 ≤ a1 by omega) (show a1 < ((16 : Nat) : Int) by omega) (fun u3 eu3 => ?_)
  replace eu3 : u3 = jr0 33 a1 := eu3
  have qu3 : u3 = 36 + 3 * a1 := eu3.trans (jhul_33 a1 (by omega) (by omega)).1
  have hu3 : jHl u3 := by rw [eu3]; exact (jhul_33 a1 (by omega) (by omega)).2
  refine st_cv (na := 2) (st := [.inr (.inr (.inl 16)), .inl a2, .inr (.inr (.inl u3))]) hu3.1 rfl rfl rfl (c_X4_enter u3 a2 g1 hu3 (by omega)) rfl ?_
  rintro _ _ g5 ⟨rfl, ft4, rfl, zt4⟩ kt4
  have fg5 : jfr w_X10_berth_29 h g5 := jfr_tr fg1 ft4 (fun i k q => by unfold w_X4_enter at q; unfold w_X10_berth_29; omega)
  replace zt4 : g5 = jEnt u3 a2 g1 := zt4
  refine st_pi jo_29 (fun hx => (jbf_10_10 jo_29 _).2 (show 0 ≤ 1 ∧ 1 ≤ 1 by omega)) (fun g6 eg6 => ?_)
  replace eg6 : g6 = jup g5 29 10 1 := eg6
  have fg6 : jfr w_X10_berth_29 h g6 := jfr_up fg5 eg6 (by unfold w_X10_berth_29; omega)
  have e7 : g6 29 10 = 1 := jup_s eg6
  exact ⟨rfl, rfl, fg6, rfl, (by subst eg6 zt4 qu3 eg1; unfold jBrt; rfl)⟩

def w_X10_moveOn_29 (i k : Int) : Prop := (i = 31) ∨ (36 ≤ i ∧ i ≤ 83) ∨ (i = 29 ∧ k = 10)
def k_X10_moveOn_29 (a1 : Int) (h : JH) (v : Option JV) (r' g : JH) : Prop := r' = jr0 ∧ jfr w_X10_moveOn_29 h g ∧ ∃ x : Int, v = some (.inl x) ∧ (True) ∧ ((x = jMc 31 36 h) ∧ g = jit (jMvr 29 31 36 a1) 6 h)
set_option maxHeartbeats 4000000 in
theorem c_X10_moveOn_29 {E : JE} {l : Launch} (a1 : Int) (h : JH) : jMt E l 77 [.inr (.inr (.inl 29)), .inl a1, .inr (.inr (.inl 16))] 229 jr0 h (k_X10_moveOn_29 a1 h) := by
  refine jMt0 (nL := 6) (ls := [.inr (.inr (.inl 29)), .inl a1, .inr (.inr (.inl 16)), .inr (.inr (.inr ())), .inr (.inr (.inr ())), .inr (.inr (.inr ()))]) (by decide +kernel) (by decide +kernel) (by decide +kernel) rfl rfl ?_
  have f0 : jfr w_X10_moveOn_29 h h := jfr_rf _ _
  have key : ∀ N : Nat, (∀ (x3 : Int) (x4 : Int) (x5 : JV) (g : JH), ((-1) ≤ x4 ∧ x4 ≤ 5) → (g = jit (jMvr 29 31 36 a1) (5 - x4).toNat h) → (-1 ≤ x4 ∧ x4 ≤ 5) → ((x4 = 5 ∧ x3 = 0) ∨ (x4 < 5 ∧ x3 = jMc 31 36 h)) → jfr w_X10_moveOn_29 h g → (x4 - (-1)) < (N : Int) → jGo E l 77 229 229 (jRK (k_X10_moveOn_29 a1 h)) 5 [.inr (.inr (.inl 29)), .inl a1, .inr (.inr (.inl 16)), .inl x3, .inl x4, x5] [] 229 jr0 g) := by
    intro N
    induction N with
    | zero => exact fun _ _ _ _ hi hx0 hx1 hx2 _ hN => absurd hN (by omega)
    | succ N ih =>
      intro x3 x4 x5 g hi hx0 hx1 hx2 hf hN
      refine jGo_ok (fun hls _ => ?_)
      have rx3 : -2147483648 ≤ x3 ∧ x3 ≤ 2147483647 := hls (.inl x3) (by simp)
      refine jGo_blk qX10_moveOn_5 ?_
      refine And.intro (fun c1 => ?_) (fun c1 => ?_)
      · replace c1 : x4 < 0 := c1
        show jGo E l 77 229 229 _ 114 [.inr (.inr (.inl 29)), .inl a1, .inr (.inr (.inl 16)), .inl x3, .inl x4, x5] [] 229 jr0 g
        refine jGo_blk qX10_moveOn_114 ?_
        exact st_r0 (ls := []) ⟨rfl, rfl, hf, x3, rfl, trivial, (by refine ⟨by rcases hx2 with w | w <;> omega, ?_⟩; rw [hx0, show 5 - x4 = 6 by omega] <;> rfl)⟩
      · replace c1 : 0 ≤ x4 := by first | exact c1 | exact Int.not_le.mp c1 | exact Int.not_lt.mp c1 | exact Decidable.not_not.mp c1
        refine st_gr jo_29 jr_29_1 ?_
        refine st_ai jo_31 (show 0 ≤ x4 by omega) (show x4 < ((6 : Nat) : Int) by omega) (fun v2 ev2 b3 => ?_)
        replace ev2 : v2 = g 31 x4 := ev2
        replace b3 := (jba_31 x4 _).1 b3
        refine And.intro (fun c4 => ?_) (fun c4 => ?_)
        · replace c4 : v2 < 0 := c4
          show jGo E l 77 229 229 _ 108 [.inr (.inr (.inl 29)), .inl a1, .inr (.inr (.inl 16)), .inl x3, .inl x4, .inl v2] [] 229 jr0 g
          refine jGo_blk qX10_moveOn_108 ?_
          have e5 : jw32 (x4 + (-1)) = x4 + (-1) := j32e (by omega) (by omega)
          show jGo E l 77 229 229 _ 5 [.inr (.inr (.inl 29)), .inl a1, .inr (.inr (.inl 16)), .inl x3, .inl (jw32 (x4 + (-1))), .inl v2] [] 229 jr0 g
          have hc6 : (jw32 (x4 + (-1)) = 5 ∧ x3 = 0) ∨ (jw32 (x4 + (-1)) < 5 ∧ x3 = jMc 31 36 h) := by
            refine Or.inr ⟨by omega, ?_⟩
            rcases hx2 with ⟨w1, w2⟩ | ⟨w1, w2⟩
            · have gh : g = h := by rw [hx0, w1]; rfl
              rw [← gh]; unfold jMc
              have e9 : g 31 5 = v2 := by rw [ev2, w1]
              rw [e9]
              first | (rw [if_pos (by omega)]; omega) | (rw [if_neg (by omega)]; omega)
            · omega
          exact ih x3 (jw32 (x4 + (-1))) (.inl v2) g (by omega) (by rw [show 5 - jw32 (x4 + (-1)) = (5 - x4) + 1 by omega, jit_s (by omega), ← hx0]; unfold jMvr; rw [show 5 - (5 - x4) = x4 by omega]; subst ev2; unfold jMv; (repeat (first | rw [if_pos (by omega)] | rw [if_neg (by omega)])); all_goals ((try rw [e5]); (try rfl))) (by omega) (by exact hc6) hf (by omega)
        · replace c4 : 0 ≤ v2 := by first | exact c4 | exact Int.not_le.mp c4 | exact Int.not_lt.mp c4 | exact Decidable.not_not.mp c4
          refine st_gr jo_29 jr_29_3 ?_
          refine st_ar jo_33 (by decide) (show 0 ≤ v2 by omega) (show v2 < ((16 : Nat) : Int) by omega) (fun u7 eu7 => ?_)
          replace eu7 : u7 = jr0 33 v2 := eu7
          have qu7 : u7 = 36 + 3 * v2 := eu7.trans (jhul_33 v2 (by omega) (by omega)).1
          have hu7 : jHl u7 := by rw [eu7]; exact (jhul_33 v2 (by omega) (by omega)).2
          refine st_cv (na := 0) (st := [.inr (.inr (.inl u7))]) hu7.1 rfl rfl rfl (c_X4_mayMoveOn u7 g hu7) rfl ?_
          rintro _ _ _ ⟨rfl, rfl, t8, rfl, ht8, zt8⟩ kt8
          replace kt8 : -2147483648 ≤ t8 ∧ t8 ≤ 2147483647 := kt8
          replace ht8 : 0 ≤ t8 ∧ t8 ≤ 1 := ht8
          replace zt8 : (t8 = 1 ∧ ¬ g u7 7 = 0 ∧ g u7 6 = 0) ∨ (t8 = 0 ∧ (g u7 7 = 0 ∨ ¬ g u7 6 = 0)) := zt8
          refine And.intro (fun c10 => ?_) (fun c10 => ?_)
          · replace c10 : ¬ t8 = 0 := c10
            show jGo E l 77 229 229 _ 40 [.inr (.inr (.inl 29)), .inl a1, .inr (.inr (.inl 16)), .inl x3, .inl x4, .inl v2] [] 229 jr0 g
            refine jGo_blk qX10_moveOn_40 ?_
            refine And.intro (fun c11 => ?_) (fun c11 => ?_)
            · replace c11 : ¬ x4 = 5 := c11
              show jGo E l 77 229 229 _ 76 [.inr (.inr (.inl 29)), .inl a1, .inr (.inr (.inl 16)), .inl x3, .inl x4, .inl v2] [] 229 jr0 g
              refine jGo_blk qX10_moveOn_76 ?_
              refine st_gr jo_29 jr_29_1 ?_
              have e12 : jw32 (x4 + 1) = x4 + 1 := j32e (by omega) (by omega)
              refine st_ai jo_31 (show 0 ≤ jw32 (x4 + 1) by omega) (show jw32 (x4 + 1) < ((6 : Nat) : Int) by omega) (fun v13 ev13 b14 => ?_)
              replace ev13 : v13 = g 31 (jw32 (x4 + 1)) := ev13
              replace b14 := (jba_31 (jw32 (x4 + 1)) _).1 b14
              refine And.intro (fun c15 => ?_) (fun c15 => ?_)
              · replace c15 : ¬ v13 = (-1) := c15
                show jGo E l 77 229 229 _ 108 [.inr (.inr (.inl 29)), .inl a1, .inr (.inr (.inl 16)), .inl x3, .inl x4, .inl v2] [] 229 jr0 g
                refine jGo_blk qX10_moveOn_108 ?_
                have e16 : jw32 (x4 + (-1)) = x4 + (-1) := j32e (by omega) (by omega)
                show jGo E l 77 229 229 _ 5 [.inr (.inr (.inl 29)), .inl a1, .inr (.inr (.inl 16)), .inl x3, .inl (jw32 (x4 + (-1))), .inl v2] [] 229 jr0 g
                have e17 : g 31 (jw32 (x4 + 1)) = g 31 (x4 + 1) := congrArg (g 31) (show jw32 (x4 + 1) = (x4 + 1) by omega)
                have hc18 : (jw32 (x4 + (-1)) = 5 ∧ x3 = 0) ∨ (jw32 (x4 + (-1)) < 5 ∧ x3 = jMc 31 36 h) := by
                  refine Or.inr ⟨by omega, ?_⟩
                  rcases hx2 with ⟨w1, w2⟩ | ⟨w1, w2⟩
                  · have gh : g = h := by rw [hx0, w1]; rfl
                    rw [← gh]; unfold jMc
                    have e9 : g 31 5 = v2 := by rw [ev2, w1]
                    rw [e9]
                    rw [show 36 + 3 * v2 = u7 by omega]
                    first | (rw [if_pos (by omega)]; omega) | (rw [if_neg (by omega)]; omega)
                  · omega
                exact ih x3 (jw32 (x4 + (-1))) (.inl v2) g (by omega) (by rw [show 5 - jw32 (x4 + (-1)) = (5 - x4) + 1 by omega, jit_s (by omega), ← hx0]; unfold jMvr; rw [show 5 - (5 - x4) = x4 by omega]; subst ev13 qu7 ev2; unfold jMv; (repeat (first | rw [if_pos (by omega)] | rw [if_neg (by omega)])); all_goals ((try rw [e16]); (try rw [e12]); (try rfl))) (by omega) (by exact hc18) hf (by omega)
              · replace c15 : v13 = (-1) := by first | exact c15 | exact Int.not_le.mp c15 | exact Int.not_lt.mp c15 | exact Decidable.not_not.mp c15
                refine st_gr jo_29 jr_29_1 ?_
                refine st_si jo_31 (show 0 ≤ x4 by omega) (show x4 < ((6 : Nat) : Int) by omega) (fun hx => (jba_31 _ _).2 (show -2 ≤ (-1) ∧ (-1) ≤ 15 by omega)) (fun g19 eg19 => ?_)
                replace eg19 : g19 = jup g 31 x4 (-1) := eg19
                have fg19 : jfr w_X10_moveOn_29 h g19 := jfr_up hf eg19 (by unfold w_X10_moveOn_29; omega)
                have e20 : g19 31 x4 = (-1) := jup_s eg19
                have e21 : jw32 (x4 + 1) = x4 + 1 := j32e (by omega) (by omega)
                refine st_cv (na := 3) (st := [.inr (.inr (.inl 16)), .inl (jw32 (x4 + 1)), .inl v2, .inr (.inr (.inl 29))]) jo_29 rfl rfl rfl (c_X10_berth_29 v2 (jw32 (x4 + 1)) g19 (by omega) (by omega)) rfl ?_
                rintro _ _ g23 ⟨rfl, ft22, rfl, zt22⟩ kt22
                have fg23 : jfr w_X10_moveOn_29 h g23 := jfr_tr fg19 ft22 (fun i k q => by unfold w_X10_berth_29 at q; unfold w_X10_moveOn_29; omega)
                replace zt22 : g23 = jBrt 29 31 36 v2 (jw32 (x4 + 1)) g19 := zt22
                show jGo E l 77 229 229 _ 108 [.inr (.inr (.inl 29)), .inl a1, .inr (.inr (.inl 16)), .inl x3, .inl x4, .inl v2] [] 229 jr0 g23
                refine jGo_blk qX10_moveOn_108 ?_
                have e24 : jw32 (x4 + (-1)) = x4 + (-1) := j32e (by omega) (by omega)
                show jGo E l 77 229 229 _ 5 [.inr (.inr (.inl 29)), .inl a1, .inr (.inr (.inl 16)), .inl x3, .inl (jw32 (x4 + (-1))), .inl v2] [] 229 jr0 g23
                have e25 : g 31 (jw32 (x4 + 1)) = g 31 (x4 + 1) := congrArg (g 31) (show jw32 (x4 + 1) = (x4 + 1) by omega)
                have hc26 : (jw32 (x4 + (-1)) = 5 ∧ x3 = 0) ∨ (jw32 (x4 + (-1)) < 5 ∧ x3 = jMc 31 36 h) := by
                  refine Or.inr ⟨by omega, ?_⟩
                  rcases hx2 with ⟨w1, w2⟩ | ⟨w1, w2⟩
                  · have gh : g = h := by rw [hx0, w1]; rfl
                    rw [← gh]; unfold jMc
                    have e9 : g 31 5 = v2 := by rw [ev2, w1]
                    rw [e9]
                    rw [show 36 + 3 * v2 = u7 by omega]
                    first | (rw [if_pos (by omega)]; omega) | (rw [if_neg (by omega)]; omega)
                  · omega
                exact ih x3 (jw32 (x4 + (-1))) (.inl v2) g23 (by omega) (by rw [show 5 - jw32 (x4 + (-1)) = (5 - x4) + 1 by omega, jit_s (by omega), ← hx0]; unfold jMvr; rw [show 5 - (5 - x4) = x4 by omega]; subst zt22 eg19 ev13 qu7 ev2; unfold jMv; (repeat (first | rw [if_pos (by omega)] | rw [if_neg (by omega)])); all_goals ((try rw [e24]); (try rw [e21]); (try rw [e12]); (try rfl))) (by omega) (by exact hc26) fg23 (by omega)
            · replace c11 : x4 = 5 := by first | exact c11 | exact Int.not_le.mp c11 | exact Int.not_lt.mp c11 | exact Decidable.not_not.mp c11
              refine st_gr jo_29 jr_29_1 ?_
              refine st_si jo_31 (show 0 ≤ x4 by omega) (show x4 < ((6 : Nat) : Int) by omega) (fun hx => (jba_31 _ _).2 (show -2 ≤ (-1) ∧ (-1) ≤ 15 by omega)) (fun g27 eg27 => ?_)
              replace eg27 : g27 = jup g 31 x4 (-1) := eg27
              have fg27 : jfr w_X10_moveOn_29 h g27 := jfr_up hf eg27 (by unfold w_X10_moveOn_29; omega)
              have e28 : g27 31 x4 = (-1) := jup_s eg27
              refine st_gr jo_29 jr_29_3 ?_
              refine st_ar jo_33 (by decide) (show 0 ≤ v2 by omega) (show v2 < ((16 : Nat) : Int) by omega) (fun u29 eu29 => ?_)
              replace eu29 : u29 = jr0 33 v2 := eu29
              have qu29 : u29 = 36 + 3 * v2 := eu29.trans (jhul_33 v2 (by omega) (by omega)).1
              have hu29 : jHl u29 := by rw [eu29]; exact (jhul_33 v2 (by omega) (by omega)).2
              refine st_cv (na := 1) (st := [.inl a1, .inr (.inr (.inl u29))]) hu29.1 rfl rfl rfl (c_X4_leave u29 a1 g27 hu29) rfl ?_
              rintro _ _ g31 ⟨rfl, ft30, rfl, zt30⟩ kt30
              have fg31 : jfr w_X10_moveOn_29 h g31 := jfr_tr fg27 ft30 (fun i k q => by unfold w_X4_leave at q; unfold w_X10_moveOn_29; omega)
              replace zt30 : g31 = jLv u29 a1 g27 := zt30
              refine st_pi jo_29 (fun hx => (jbf_10_10 jo_29 _).2 (show 0 ≤ 1 ∧ 1 ≤ 1 by omega)) (fun g32 eg32 => ?_)
              replace eg32 : g32 = jup g31 29 10 1 := eg32
              have fg32 : jfr w_X10_moveOn_29 h g32 := jfr_up fg31 eg32 (by unfold w_X10_moveOn_29; omega)
              have e33 : g32 29 10 = 1 := jup_s eg32
              show jGo E l 77 229 229 _ 108 [.inr (.inr (.inl 29)), .inl a1, .inr (.inr (.inl 16)), .inl (jw32 (x3 + 1)), .inl x4, .inl v2] [] 229 jr0 g32
              refine jGo_blk qX10_moveOn_108 ?_
              have e34 : jw32 (x4 + (-1)) = x4 + (-1) := j32e (by omega) (by omega)
              show jGo E l 77 229 229 _ 5 [.inr (.inr (.inl 29)), .inl a1, .inr (.inr (.inl 16)), .inl (jw32 (x3 + 1)), .inl (jw32 (x4 + (-1))), .inl v2] [] 229 jr0 g32
              have hc35 : (jw32 (x4 + (-1)) = 5 ∧ jw32 (x3 + 1) = 0) ∨ (jw32 (x4 + (-1)) < 5 ∧ jw32 (x3 + 1) = jMc 31 36 h) := by
                refine Or.inr ⟨by omega, ?_⟩
                rcases hx2 with ⟨w1, w2⟩ | ⟨w1, w2⟩
                · have gh : g = h := by rw [hx0, w1]; rfl
                  rw [← gh]; unfold jMc
                  have e9 : g 31 5 = v2 := by rw [ev2, w1]
                  rw [e9]
                  rw [show 36 + 3 * v2 = u7 by omega]
                  have j9 : jw32 (x3 + 1) = x3 + 1 := j32e (by omega) (by omega)
                  first | (rw [if_pos (by omega)]; omega) | (rw [if_neg (by omega)]; omega)
                · omega
              exact ih (jw32 (x3 + 1)) (jw32 (x4 + (-1))) (.inl v2) g32 (by omega) (by rw [show 5 - jw32 (x4 + (-1)) = (5 - x4) + 1 by omega, jit_s (by omega), ← hx0]; unfold jMvr; rw [show 5 - (5 - x4) = x4 by omega]; subst eg32 zt30 qu29 eg27 qu7 ev2; unfold jMv; (repeat (first | rw [if_pos (by omega)] | rw [if_neg (by omega)])); all_goals ((try rw [e34]); (try rfl))) (by omega) (by exact hc35) fg32 (by omega)
          · replace c10 : t8 = 0 := by first | exact c10 | exact Int.not_le.mp c10 | exact Int.not_lt.mp c10 | exact Decidable.not_not.mp c10
            show jGo E l 77 229 229 _ 108 [.inr (.inr (.inl 29)), .inl a1, .inr (.inr (.inl 16)), .inl x3, .inl x4, .inl v2] [] 229 jr0 g
            refine jGo_blk qX10_moveOn_108 ?_
            have e36 : jw32 (x4 + (-1)) = x4 + (-1) := j32e (by omega) (by omega)
            show jGo E l 77 229 229 _ 5 [.inr (.inr (.inl 29)), .inl a1, .inr (.inr (.inl 16)), .inl x3, .inl (jw32 (x4 + (-1))), .inl v2] [] 229 jr0 g
            have hc37 : (jw32 (x4 + (-1)) = 5 ∧ x3 = 0) ∨ (jw32 (x4 + (-1)) < 5 ∧ x3 = jMc 31 36 h) := by
              refine Or.inr ⟨by omega, ?_⟩
              rcases hx2 with ⟨w1, w2⟩ | ⟨w1, w2⟩
              · have gh : g = h := by rw [hx0, w1]; rfl
                rw [← gh]; unfold jMc
                have e9 : g 31 5 = v2 := by rw [ev2, w1]
                rw [e9]
                rw [show 36 + 3 * v2 = u7 by omega]
                first | (rw [if_pos (by omega)]; omega) | (rw [if_neg (by omega)]; omega)
              · omega
            exact ih x3 (jw32 (x4 + (-1))) (.inl v2) g (by omega) (by rw [show 5 - jw32 (x4 + (-1)) = (5 - x4) + 1 by omega, jit_s (by omega), ← hx0]; unfold jMvr; rw [show 5 - (5 - x4) = x4 by omega]; subst qu7 ev2; unfold jMv; (repeat (first | rw [if_pos (by omega)] | rw [if_neg (by omega)])); all_goals ((try rw [e36]); (try rfl))) (by omega) (by exact hc37) hf (by omega)
  refine jGo_blk qX10_moveOn_0 ?_
  show jGo E l 77 229 229 _ 5 [.inr (.inr (.inl 29)), .inl a1, .inr (.inr (.inl 16)), .inl 0, .inl 5, .inr (.inr (.inr ()))] [] 229 jr0 h
  exact (key 1000000000000) 0 5 (.inr (.inr (.inr ()))) h (by omega) (by rfl) (by omega) (by exact Or.inl ⟨rfl, rfl⟩) f0 (by omega)
