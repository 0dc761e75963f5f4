def w_X0_write_113 (i k : Int) : Prop := (i = 15) ∨ (114 ≤ i ∧ i ≤ 117) ∨ (i = 11 ∧ k = 5)
def k_X0_write_113 (a1 : Int) (a2 : Int) (h : JH) (v : Option JV) (r' g : JH) : Prop := r' = jr0 ∧ jfr w_X0_write_113 h g ∧ v = none ∧ (jWri 114 a1 a2 h g)
set_option maxHeartbeats 4000000 in
theorem c_X0_write_113 {E : JE} {l : Launch} (a1 : Int) (a2 : Int) (h : JH) (p1 : 0 ≤ a1 ∧ a1 ≤ 299) (p2 : 0 ≤ a2 ∧ a2 ≤ 2400) : jMt E l 72 [.inr (.inr (.inl 113)), .inl a1, .inl a2, .inr (.inr (.inl 2)), .inr (.inr (.inl 11))] 229 jr0 h (k_X0_write_113 a1 a2 h) := by
  refine jMt0 (nL := 8) (ls := [.inr (.inr (.inl 113)), .inl a1, .inl a2, .inr (.inr (.inl 2)), .inr (.inr (.inl 11)), .inr (.inr (.inr ())), .inr (.inr (.inr ())), .inr (.inr (.inr ()))]) (by decide +kernel) (by decide +kernel) (by decide +kernel) rfl rfl ?_
  have f0 : jfr w_X0_write_113 h h := jfr_rf _ _
  have key : ∀ N : Nat, (∀ (x5 : Int) (x6 : Int) (x7 : JV) (g : JH), (0 ≤ x5 ∧ x5 ≤ 200 ∧ 0 ≤ x6 ∧ x6 ≤ 4) → (jGOP a2 h g) → (g 115 a1 = (if ¬ g 15 8 = 0 ∧ a2.tmod (g 15 8) = 0 then 0 else g 15 9) ∧ 0 ≤ g 115 a1) → (∀ c : Int, 0 ≤ c → c < x6 → g 114 (a1 * 4 + c) = jHd h c a2 ∧ 0 ≤ g 114 (a1 * 4 + c) ∧ g 114 (a1 * 4 + c) ≤ 400) → (∀ c : Int, 0 ≤ c → c < x6 → 0 ≤ jHd h c a2 * g 15 (4 + c) ∧ jHd h c a2 * g 15 (4 + c) ≤ 80000) → (g 117 a1 = jsm (fun c => jHd h c a2 * g 15 (4 + c)) (x6).toNat ∧ 0 ≤ g 117 a1 ∧ g 117 a1 ≤ 80000 * x6) → ((∀ k : Int, ¬ (a1 * 4 ≤ k ∧ k < a1 * 4 + 4) → g 114 k = h 114 k) ∧ (∀ i k : Int, 115 ≤ i → i ≤ 117 → ¬ k = a1 → g i k = h i k)) → (0 ≤ x6 ∧ x6 ≤ 4) → jfr w_X0_write_113 h g → (4 - x6) < (N : Int) → jGo E l 72 229 229 (jRK (k_X0_write_113 a1 a2 h)) 61 [.inr (.inr (.inl 113)), .inl a1, .inl a2, .inr (.inr (.inl 2)), .inr (.inr (.inl 11)), .inl x5, .inl x6, x7] [] 229 jr0 g) := by
    intro N
    induction N with
    | zero => exact fun _ _ _ _ hi hx0 hx1 hx2 hx3 hx4 hx5 hx6 _ hN => absurd hN (by omega)
    | succ N ih =>
      intro x5 x6 x7 g hi hx0 hx1 hx2 hx3 hx4 hx5 hx6 hf hN
      refine jGo_blk qX0_write_61 ?_
      refine And.intro (fun c1 => ?_) (fun c1 => ?_)
      · replace c1 : 4 ≤ x6 := c1
        show jGo E l 72 229 229 _ 135 [.inr (.inr (.inl 113)), .inl a1, .inl a2, .inr (.inr (.inl 2)), .inr (.inr (.inl 11)), .inl x5, .inl x6, x7] [] 229 jr0 g
        refine jGo_blk qX0_write_135 ?_
        have hc2 : jWri 114 a1 a2 h g := by
          have x64 : x6 = 4 := by omega
          rw [x64] at hx2 hx3 hx4
          refine ⟨hx0, hx1.1, hx2, hx3, ?_, hx1.2, hx5.1, hx5.2⟩
          rw [show g (114 + 3) a1 = g 117 a1 from rfl, hx4.1]
          show 0 + jHd h (0 : Nat) a2 * g 15 (4 + (0 : Nat)) + jHd h (1 : Nat) a2 * g 15 (4 + (1 : Nat)) + jHd h (2 : Nat) a2 * g 15 (4 + (2 : Nat)) + jHd h (3 : Nat) a2 * g 15 (4 + (3 : Nat)) = _
          rw [Int.zero_add]; rfl
        exact ⟨rfl, rfl, hf, rfl, (by exact hc2)⟩
      · replace c1 : x6 < 4 := by first | exact c1 | exact Int.not_le.mp c1 | exact Int.not_lt.mp c1 | exact Decidable.not_not.mp c1
        refine st_cv (na := 2) (st := [.inl a2, .inl x6, .inr (.inr (.inl 2))]) jo_2 rfl rfl rfl (c_X1_handsOfDay x6 a2 g (by omega) (by omega)) rfl ?_
        rintro _ _ _ ⟨rfl, rfl, t3, rfl, ht3, zt3⟩ kt3
        replace kt3 : -2147483648 ≤ t3 ∧ t3 ≤ 2147483647 := kt3
        replace ht3 : 0 ≤ t3 ∧ t3 ≤ 400 := ht3
        replace zt3 : t3 = jHd g x6 a2 ∧ -1 ≤ g 4 x6 ∧ g 4 x6 ≤ 3 ∧ (g 4 x6 < 0 ∨ g 10 (g 4 x6) ≤ 30) := zt3
        refine st_gr jo_113 jr_113_0 ?_
        have e5 : jw32 (a1 * 4) = a1 * 4 := j32e (by omega) (by omega)
        have e6 : jw32 ((jw32 (a1 * 4)) + x6) = (jw32 (a1 * 4)) + x6 := j32e (by omega) (by omega)
        refine st_si jo_114 (show 0 ≤ jw32 ((jw32 (a1 * 4)) + x6) by omega) (show jw32 ((jw32 (a1 * 4)) + x6) < ((1200 : Nat) : Int) by omega) (fun hx => (jba_114 _ _).2 (show 0 ≤ t3 ∧ t3 ≤ 400 by omega)) (fun g7 eg7 => ?_)
        replace eg7 : g7 = jup g 114 (jw32 ((jw32 (a1 * 4)) + x6)) t3 := eg7
        have fg7 : jfr w_X0_write_113 h g7 := jfr_up hf eg7 (by unfold w_X0_write_113; omega)
        have e8 : g7 114 (jw32 ((jw32 (a1 * 4)) + x6)) = t3 := jup_s eg7
        refine st_gr jo_113 jr_113_2 ?_
        refine st_ai jo_116 (show 0 ≤ a1 by omega) (show a1 < ((300 : Nat) : Int) by omega) (fun v9 ev9 b10 => ?_)
        replace ev9 : v9 = g7 116 a1 := ev9
        replace b10 := (jba_116 a1 _).1 b10
        refine st_cv (na := 2) (st := [.inl x6, .inl 0, .inr (.inr (.inl 11)), .inl t3, .inl v9, .inl a1, .inr (.inr (.inl 116))]) jo_11 rfl rfl rfl (c_X2_inForce 0 x6 g7 (by omega)) rfl ?_
        rintro _ _ _ ⟨rfl, rfl, t11, rfl, ht11, zt11⟩ kt11
        replace kt11 : -2147483648 ≤ t11 ∧ t11 ≤ 2147483647 := kt11
        replace ht11 : 0 ≤ t11 ∧ t11 ≤ 200 := ht11
        replace zt11 : t11 = g7 15 (jsl (0 : Int) x6) := zt11
        refine st_si jo_116 (show 0 ≤ a1 by omega) (show a1 < ((300 : Nat) : Int) by omega) (fun hx => (jba_116 _ _).2 hx) (fun g13 eg13 => ?_)
        replace eg13 : g13 = jup g7 116 a1 (jw32 (v9 + (jw32 (t3 * t11)))) := eg13
        have fg13 : jfr w_X0_write_113 h g13 := jfr_up fg7 eg13 (by unfold w_X0_write_113; omega)
        have e14 : g13 116 a1 = jw32 (v9 + (jw32 (t3 * t11))) := jup_s eg13
        refine st_gr jo_113 jr_113_3 ?_
        refine st_ai jo_117 (show 0 ≤ a1 by omega) (show a1 < ((300 : Nat) : Int) by omega) (fun v15 ev15 b16 => ?_)
        replace ev15 : v15 = g13 117 a1 := ev15
        replace b16 := (jba_117 a1 _).1 b16
        have y17 : v15 = g 117 a1 := ev15.trans ((jup_o eg13 (by omega)).trans (jup_o eg7 (by omega)))
        refine st_cv (na := 2) (st := [.inl x6, .inl 1, .inr (.inr (.inl 11)), .inl t3, .inl v15, .inl a1, .inr (.inr (.inl 117))]) jo_11 rfl rfl rfl (c_X2_inForce 1 x6 g13 (by omega)) rfl ?_
        rintro _ _ _ ⟨rfl, rfl, t18, rfl, ht18, zt18⟩ kt18
        replace kt18 : -2147483648 ≤ t18 ∧ t18 ≤ 2147483647 := kt18
        replace ht18 : 0 ≤ t18 ∧ t18 ≤ 200 := ht18
        replace zt18 : t18 = g13 15 (jsl (1 : Int) x6) := zt18
        have y20 : t18 = g 15 (4 + x6) := by
          have q9 : jsl 1 x6 = 4 + x6 := by unfold jsl; omega
          rw [zt18, q9]; exact ((jup_o eg13 (by omega)).trans (jup_o eg7 (by omega)))
        have e21 := jmul_b (a := t3) (b := t18) (A := 400) (B := 200) (by omega) (by omega) (by omega) (by omega)
        have e22 : jw32 (t3 * t18) = t3 * t18 := j32e (by omega) (by omega)
        have e23 : jw32 (v15 + (jw32 (t3 * t18))) = v15 + (jw32 (t3 * t18)) := j32e (by omega) (by omega)
        refine st_si jo_117 (show 0 ≤ a1 by omega) (show a1 < ((300 : Nat) : Int) by omega) (fun hx => (jba_117 _ _).2 hx) (fun g24 eg24 => ?_)
        replace eg24 : g24 = jup g13 117 a1 (jw32 (v15 + (jw32 (t3 * t18)))) := eg24
        have fg24 : jfr w_X0_write_113 h g24 := jfr_up fg13 eg24 (by unfold w_X0_write_113; omega)
        have e25 : g24 117 a1 = jw32 (v15 + (jw32 (t3 * t18))) := jup_s eg24
        have e26 : jw32 (x6 + 1) = x6 + 1 := j32e (by omega) (by omega)
        show jGo E l 72 229 229 _ 61 [.inr (.inr (.inl 113)), .inl a1, .inl a2, .inr (.inr (.inl 2)), .inr (.inr (.inl 11)), .inl x5, .inl (jw32 (x6 + 1)), .inl t3] [] 229 jr0 g24
        have ef27 : ∀ i k : Int, 11 ≤ i → i ≤ 15 → g24 i k = g i k := fun i k p1 p2 => ((jup_o eg24 (by omega)).trans ((jup_o eg13 (by omega)).trans (jup_o eg7 (by omega))))
        have e28 : g24 15 8 = g13 15 8 := jup_o eg24 (by omega)
        have e29 : g13 15 8 = g7 15 8 := jup_o eg13 (by omega)
        have e30 : g7 15 8 = g 15 8 := jup_o eg7 (by omega)
        have e31 : g24 15 8 = g13 15 8 := jup_o eg24 (by omega)
        have e32 : g13 15 8 = g7 15 8 := jup_o eg13 (by omega)
        have e33 : g7 15 8 = g 15 8 := jup_o eg7 (by omega)
        have e34 : g24 15 9 = g13 15 9 := jup_o eg24 (by omega)
        have e35 : g13 15 9 = g7 15 9 := jup_o eg13 (by omega)
        have e36 : g7 15 9 = g 15 9 := jup_o eg7 (by omega)
        have hc37 : g24 115 a1 = (if ¬ g24 15 8 = 0 ∧ a2.tmod (g24 15 8) = 0 then 0 else g24 15 9) ∧ 0 ≤ g24 115 a1 := by
          rw [ef27 15 8 (by decide) (by decide), ef27 15 9 (by decide) (by decide), show g24 115 a1 = g 115 a1 from ((jup_o eg24 (by omega)).trans ((jup_o eg13 (by omega)).trans (jup_o eg7 (by omega))))]; exact hx1
        have y39 : t3 = jHd h x6 a2 := zt3.1.trans (jHd_c (h := h) (fun i k p1 p2 => hf i k (by unfold w_X0_write_113; omega)) (by have q9 := hf 4 x6 (by unfold w_X0_write_113; omega); omega))
        have hc38 : ∀ c : Int, 0 ≤ c → c < (jw32 (x6 + 1)) → g24 114 (a1 * 4 + c) = jHd h c a2 ∧ 0 ≤ g24 114 (a1 * 4 + c) ∧ g24 114 (a1 * 4 + c) ≤ 400 := by
          intro c p1 p2
          by_cases z : c = x6
          · have y1 : g24 114 (a1 * 4 + x6) = t3 := by
              rw [show a1 * 4 + x6 = jw32 ((jw32 (a1 * 4)) + x6) by omega]
              exact ((jup_o eg24 (by omega)).trans (jup_o eg13 (by omega))).trans (jup_s eg7)
            rw [z, y1]; exact ⟨y39, by omega, by omega⟩
          · rw [show g24 114 (a1 * 4 + c) = g 114 (a1 * 4 + c) from ((jup_o eg24 (by omega)).trans ((jup_o eg13 (by omega)).trans (jup_o eg7 (by omega))))]; exact hx2 c p1 (by omega)
        have hc40 : ∀ c : Int, 0 ≤ c → c < (jw32 (x6 + 1)) → 0 ≤ jHd h c a2 * g24 15 (4 + c) ∧ jHd h c a2 * g24 15 (4 + c) ≤ 80000 := by
          intro c p1 p2
          rw [ef27 15 (4 + c) (by decide) (by decide)]
          by_cases z : c = x6
          · rw [z, ← y20, ← y39]; exact ⟨by omega, by omega⟩
          · exact hx3 c p1 (by omega)
        have hc41 : g24 117 a1 = jsm (fun c => jHd h c a2 * g24 15 (4 + c)) ((jw32 (x6 + 1))).toNat ∧ 0 ≤ g24 117 a1 ∧ g24 117 a1 ≤ 80000 * (jw32 (x6 + 1)) := by
          have y5 : g24 117 a1 = g 117 a1 + jHd h x6 a2 * g 15 (4 + x6) := by
            rw [jup_s eg24, ← y20, ← y39]; omega
          have y6 : 0 ≤ jHd h x6 a2 * g 15 (4 + x6) ∧ jHd h x6 a2 * g 15 (4 + x6) ≤ 80000 := by rw [← y20, ← y39]; exact ⟨by omega, by omega⟩
          rw [show (fun c => jHd h c a2 * g24 15 (4 + c)) = (fun c => jHd h c a2 * g 15 (4 + c)) from funext (fun c => by rw [ef27 15 (4 + c) (by decide) (by decide)])]
          obtain ⟨n9, hn9⟩ := Int.eq_ofNat_of_zero_le (show 0 ≤ x6 by omega)
          rw [y5, show (jw32 (x6 + 1)).toNat = n9 + 1 by omega]
          have y7 := hx4; rw [show x6.toNat = n9 by omega] at y7
          refine ⟨?_, by omega, by omega⟩
          show _ = jsm (fun c => jHd h c a2 * g 15 (4 + c)) n9 + jHd h n9 a2 * g 15 (4 + n9)
          rw [← y7.1, ← hn9]
        have hc42 : (∀ k : Int, ¬ (a1 * 4 ≤ k ∧ k < a1 * 4 + 4) → g24 114 k = h 114 k) ∧ (∀ i k : Int, 115 ≤ i → i ≤ 117 → ¬ k = a1 → g24 i k = h i k) := by
          exact ⟨fun k p => (show g24 114 k = g 114 k from ((jup_o eg24 (by omega)).trans ((jup_o eg13 (by omega)).trans (jup_o eg7 (by omega))))).trans (hx5.1 k p), fun i k p1 p2 p3 => (show g24 i k = g i k from ((jup_o eg24 (by omega)).trans ((jup_o eg13 (by omega)).trans (jup_o eg7 (by omega))))).trans (hx5.2 i k p1 p2 p3)⟩
        exact ih x5 (jw32 (x6 + 1)) (.inl t3) g24 (by omega) (by exact jGOP_fr ef27 hx0) (by exact hc37) (by exact hc38) (by exact hc40) (by exact hc41) (by exact hc42) (by omega) fg24 (by omega)
  refine jGo_blk qX0_write_0 ?_
  refine st_cv (na := 1) (st := [.inl a2, .inr (.inr (.inl 11))]) jo_11 rfl rfl rfl (c_X2_goOnTo a2 h) rfl ?_
  rintro _ _ g44 ⟨rfl, ft43, rfl, zt43⟩ kt43
  have fg44 : jfr w_X0_write_113 h g44 := jfr_tr f0 ft43 (fun i k q => by unfold w_X2_goOnTo at q; unfold w_X0_write_113; omega)
  replace zt43 : jGOP a2 h g44 := zt43
  refine st_cv (na := 2) (st := [.inl 0, .inl 2, .inr (.inr (.inl 11))]) jo_11 rfl rfl rfl (c_X2_inForce 2 0 g44 (by omega)) rfl ?_
  rintro _ _ _ ⟨rfl, rfl, t45, rfl, ht45, zt45⟩ kt45
  replace kt45 : -2147483648 ≤ t45 ∧ t45 ≤ 2147483647 := kt45
  replace ht45 : 0 ≤ t45 ∧ t45 ≤ 200 := ht45
  replace zt45 : t45 = g44 15 (jsl (2 : Int) (0 : Int)) := zt45
  refine st_gr jo_113 jr_113_1 ?_
  refine And.intro (fun c47 => ?_) (fun c47 => ?_)
  · replace c47 : t45 = 0 := c47
    show jGo E l 72 229 229 _ 36 [.inr (.inr (.inl 113)), .inl a1, .inl a2, .inr (.inr (.inl 2)), .inr (.inr (.inl 11)), .inl t45, .inr (.inr (.inr ())), .inr (.inr (.inr ()))] [.inl a1, .inr (.inr (.inl 115))] 229 jr0 g44
    refine jGo_blk qX0_write_36 ?_
    refine st_cv (na := 2) (st := [.inl 0, .inl 3, .inr (.inr (.inl 11)), .inl a1, .inr (.inr (.inl 115))]) jo_11 rfl rfl rfl (c_X2_inForce 3 0 g44 (by omega)) rfl ?_
    rintro _ _ _ ⟨rfl, rfl, t48, rfl, ht48, zt48⟩ kt48
    replace kt48 : -2147483648 ≤ t48 ∧ t48 ≤ 2147483647 := kt48
    replace ht48 : 0 ≤ t48 ∧ t48 ≤ 200 := ht48
    replace zt48 : t48 = g44 15 (jsl (3 : Int) (0 : Int)) := zt48
    show jGo E l 72 229 229 _ 43 [.inr (.inr (.inl 113)), .inl a1, .inl a2, .inr (.inr (.inl 2)), .inr (.inr (.inl 11)), .inl t45, .inr (.inr (.inr ())), .inr (.inr (.inr ()))] [.inl t48, .inl a1, .inr (.inr (.inl 115))] 229 jr0 g44
    refine jGo_blk qX0_write_43 ?_
    refine st_si jo_115 (show 0 ≤ a1 by omega) (show a1 < ((300 : Nat) : Int) by omega) (fun hx => (jba_115 _ _).2 (show 0 ≤ t48 ∧ t48 ≤ 200 by omega)) (fun g50 eg50 => ?_)
    replace eg50 : g50 = jup g44 115 a1 t48 := eg50
    have fg50 : jfr w_X0_write_113 h g50 := jfr_up fg44 eg50 (by unfold w_X0_write_113; omega)
    have e51 : g50 115 a1 = t48 := jup_s eg50
    refine st_gr jo_113 jr_113_2 ?_
    refine st_si jo_116 (show 0 ≤ a1 by omega) (show a1 < ((300 : Nat) : Int) by omega) (fun hx => (jba_116 _ _).2 hx) (fun g52 eg52 => ?_)
    replace eg52 : g52 = jup g50 116 a1 0 := eg52
    have fg52 : jfr w_X0_write_113 h g52 := jfr_up fg50 eg52 (by unfold w_X0_write_113; omega)
    have e53 : g52 116 a1 = 0 := jup_s eg52
    refine st_gr jo_113 jr_113_3 ?_
    refine st_si jo_117 (show 0 ≤ a1 by omega) (show a1 < ((300 : Nat) : Int) by omega) (fun hx => (jba_117 _ _).2 hx) (fun g54 eg54 => ?_)
    replace eg54 : g54 = jup g52 117 a1 0 := eg54
    have fg54 : jfr w_X0_write_113 h g54 := jfr_up fg52 eg54 (by unfold w_X0_write_113; omega)
    have e55 : g54 117 a1 = 0 := jup_s eg54
    show jGo E l 72 229 229 _ 61 [.inr (.inr (.inl 113)), .inl a1, .inl a2, .inr (.inr (.inl 2)), .inr (.inr (.inl 11)), .inl t45, .inl 0, .inr (.inr (.inr ()))] [] 229 jr0 g54
    have ef56 : ∀ i k : Int, 11 ≤ i → i ≤ 15 → g54 i k = g44 i k := fun i k p1 p2 => ((jup_o eg54 (by omega)).trans ((jup_o eg52 (by omega)).trans (jup_o eg50 (by omega))))
    have e57 : g54 15 8 = g52 15 8 := jup_o eg54 (by omega)
    have e58 : g52 15 8 = g50 15 8 := jup_o eg52 (by omega)
    have e59 : g50 15 8 = g44 15 8 := jup_o eg50 (by omega)
    have e60 : g54 15 8 = g52 15 8 := jup_o eg54 (by omega)
    have e61 : g52 15 8 = g50 15 8 := jup_o eg52 (by omega)
    have e62 : g50 15 8 = g44 15 8 := jup_o eg50 (by omega)
    have e63 : g54 15 9 = g52 15 9 := jup_o eg54 (by omega)
    have e64 : g52 15 9 = g50 15 9 := jup_o eg52 (by omega)
    have e65 : g50 15 9 = g44 15 9 := jup_o eg50 (by omega)
    have hc66 : g54 115 a1 = (if ¬ g54 15 8 = 0 ∧ a2.tmod (g54 15 8) = 0 then 0 else g54 15 9) ∧ 0 ≤ g54 115 a1 := by
      have y1 : g54 115 a1 = t48 := ((jup_o eg54 (by omega)).trans (jup_o eg52 (by omega))).trans (jup_s eg50)
      have y2 : g54 15 8 = t45 := (ef56 15 8 (by decide) (by decide)).trans zt45.symm
      rw [y1, y2]
      have y3 : g54 15 9 = t48 := (ef56 15 9 (by decide) (by decide)).trans zt48.symm
      rw [y3]; exact ⟨(if_neg (fun q => by omega)).symm, by omega⟩
    have hc69 : g54 117 a1 = jsm (fun c => jHd h c a2 * g54 15 (4 + c)) ((0 : Int)).toNat ∧ 0 ≤ g54 117 a1 ∧ g54 117 a1 ≤ 80000 * (0 : Int) := by
      rw [jup_s eg54]; exact ⟨rfl, by omega, by omega⟩
    have hc70 : (∀ k : Int, ¬ (a1 * 4 ≤ k ∧ k < a1 * 4 + 4) → g54 114 k = h 114 k) ∧ (∀ i k : Int, 115 ≤ i → i ≤ 117 → ¬ k = a1 → g54 i k = h i k) := by
      exact ⟨fun k p => ((jup_o eg54 (by omega)).trans ((jup_o eg52 (by omega)).trans ((jup_o eg50 (by omega)).trans (ft43 114 k (by unfold w_X2_goOnTo; omega))))), fun i k p1 p2 p3 => ((jup_o eg54 (by omega)).trans ((jup_o eg52 (by omega)).trans ((jup_o eg50 (by omega)).trans (ft43 i k (by unfold w_X2_goOnTo; omega)))))⟩
    exact (key 1000000000000) t45 0 (.inr (.inr (.inr ()))) g54 (by omega) (by exact jGOP_fr ef56 zt43) (by exact hc66) (by exact fun c p1 p2 => absurd p2 (by omega)) (by exact fun c p1 p2 => absurd p2 (by omega)) (by exact hc69) (by exact hc70) (by omega) fg54 (by omega)
  · replace c47 : ¬ t45 = 0 := by first | exact c47 | exact Int.not_le.mp c47 | exact Int.not_lt.mp c47 | exact Decidable.not_not.mp c47
    refine And.intro (show t45 ≠ 0 by omega) ?_
    have e71 : True ∧ 0 ≤ a2.tmod t45 ∧ a2.tmod t45 < t45 := ⟨trivial, (jmd (by omega) (by omega)).2⟩
    refine And.intro (fun c72 => ?_) (fun c72 => ?_)
    · replace c72 : ¬ a2.tmod t45 = 0 := c72
      show jGo E l 72 229 229 _ 36 [.inr (.inr (.inl 113)), .inl a1, .inl a2, .inr (.inr (.inl 2)), .inr (.inr (.inl 11)), .inl t45, .inr (.inr (.inr ())), .inr (.inr (.inr ()))] [.inl a1, .inr (.inr (.inl 115))] 229 jr0 g44
      refine jGo_blk qX0_write_36 ?_
      refine st_cv (na := 2) (st := [.inl 0, .inl 3, .inr (.inr (.inl 11)), .inl a1, .inr (.inr (.inl 115))]) jo_11 rfl rfl rfl (c_X2_inForce 3 0 g44 (by omega)) rfl ?_
      rintro _ _ _ ⟨rfl, rfl, t73, rfl, ht73, zt73⟩ kt73
      replace kt73 : -2147483648 ≤ t73 ∧ t73 ≤ 2147483647 := kt73
      replace ht73 : 0 ≤ t73 ∧ t73 ≤ 200 := ht73
      replace zt73 : t73 = g44 15 (jsl (3 : Int) (0 : Int)) := zt73
      show jGo E l 72 229 229 _ 43 [.inr (.inr (.inl 113)), .inl a1, .inl a2, .inr (.inr (.inl 2)), .inr (.inr (.inl 11)), .inl t45, .inr (.inr (.inr ())), .inr (.inr (.inr ()))] [.inl t73, .inl a1, .inr (.inr (.inl 115))] 229 jr0 g44
      refine jGo_blk qX0_write_43 ?_
      refine st_si jo_115 (show 0 ≤ a1 by omega) (show a1 < ((300 : Nat) : Int) by omega) (fun hx => (jba_115 _ _).2 (show 0 ≤ t73 ∧ t73 ≤ 200 by omega)) (fun g75 eg75 => ?_)
      replace eg75 : g75 = jup g44 115 a1 t73 := eg75
      have fg75 : jfr w_X0_write_113 h g75 := jfr_up fg44 eg75 (by unfold w_X0_write_113; omega)
      have e76 : g75 115 a1 = t73 := jup_s eg75
      refine st_gr jo_113 jr_113_2 ?_
      refine st_si jo_116 (show 0 ≤ a1 by omega) (show a1 < ((300 : Nat) : Int) by omega) (fun hx => (jba_116 _ _).2 hx) (fun g77 eg77 => ?_)
      replace eg77 : g77 = jup g75 116 a1 0 := eg77
      have fg77 : jfr w_X0_write_113 h g77 := jfr_up fg75 eg77 (by unfold w_X0_write_113; omega)
      have e78 : g77 116 a1 = 0 := jup_s eg77
      refine st_gr jo_113 jr_113_3 ?_
      refine st_si jo_117 (show 0 ≤ a1 by omega) (show a1 < ((300 : Nat) : Int) by omega) (fun hx => (jba_117 _ _).2 hx) (fun g79 eg79 => ?_)
      replace eg79 : g79 = jup g77 117 a1 0 := eg79
      have fg79 : jfr w_X0_write_113 h g79 := jfr_up fg77 eg79 (by unfold w_X0_write_113; omega)
      have e80 : g79 117 a1 = 0 := jup_s eg79
      show jGo E l 72 229 229 _ 61 [.inr (.inr (.inl 113)), .inl a1, .inl a2, .inr (.inr (.inl 2)), .inr (.inr (.inl 11)), .inl t45, .inl 0, .inr (.inr (.inr ()))] [] 229 jr0 g79
      have ef81 : ∀ i k : Int, 11 ≤ i → i ≤ 15 → g79 i k = g44 i k := fun i k p1 p2 => ((jup_o eg79 (by omega)).trans ((jup_o eg77 (by omega)).trans (jup_o eg75 (by omega))))
      have e82 : g79 15 8 = g77 15 8 := jup_o eg79 (by omega)
      have e83 : g77 15 8 = g75 15 8 := jup_o eg77 (by omega)
      have e84 : g75 15 8 = g44 15 8 := jup_o eg75 (by omega)
      have e85 : g79 15 8 = g77 15 8 := jup_o eg79 (by omega)
      have e86 : g77 15 8 = g75 15 8 := jup_o eg77 (by omega)
      have e87 : g75 15 8 = g44 15 8 := jup_o eg75 (by omega)
      have e88 : g79 15 9 = g77 15 9 := jup_o eg79 (by omega)
      have e89 : g77 15 9 = g75 15 9 := jup_o eg77 (by omega)
      have e90 : g75 15 9 = g44 15 9 := jup_o eg75 (by omega)
      have hc91 : g79 115 a1 = (if ¬ g79 15 8 = 0 ∧ a2.tmod (g79 15 8) = 0 then 0 else g79 15 9) ∧ 0 ≤ g79 115 a1 := by
        have y1 : g79 115 a1 = t73 := ((jup_o eg79 (by omega)).trans (jup_o eg77 (by omega))).trans (jup_s eg75)
        have y2 : g79 15 8 = t45 := (ef81 15 8 (by decide) (by decide)).trans zt45.symm
        rw [y1, y2]
        have y3 : g79 15 9 = t73 := (ef81 15 9 (by decide) (by decide)).trans zt73.symm
        rw [y3]; exact ⟨(if_neg (fun q => by omega)).symm, by omega⟩
      have hc94 : g79 117 a1 = jsm (fun c => jHd h c a2 * g79 15 (4 + c)) ((0 : Int)).toNat ∧ 0 ≤ g79 117 a1 ∧ g79 117 a1 ≤ 80000 * (0 : Int) := by
        rw [jup_s eg79]; exact ⟨rfl, by omega, by omega⟩
      have hc95 : (∀ k : Int, ¬ (a1 * 4 ≤ k ∧ k < a1 * 4 + 4) → g79 114 k = h 114 k) ∧ (∀ i k : Int, 115 ≤ i → i ≤ 117 → ¬ k = a1 → g79 i k = h i k) := by
        exact ⟨fun k p => ((jup_o eg79 (by omega)).trans ((jup_o eg77 (by omega)).trans ((jup_o eg75 (by omega)).trans (ft43 114 k (by unfold w_X2_goOnTo; omega))))), fun i k p1 p2 p3 => ((jup_o eg79 (by omega)).trans ((jup_o eg77 (by omega)).trans ((jup_o eg75 (by omega)).trans (ft43 i k (by unfold w_X2_goOnTo; omega)))))⟩
      exact (key 1000000000000) t45 0 (.inr (.inr (.inr ()))) g79 (by omega) (by exact jGOP_fr ef81 zt43) (by exact hc91) (by exact fun c p1 p2 => absurd p2 (by omega)) (by exact fun c p1 p2 => absurd p2 (by omega)) (by exact hc94) (by exact hc95) (by omega) fg79 (by omega)
    · replace c72 : a2.tmod t45 = 0 := by first | exact c72 | exact Int.not_le.mp c72 | exact Int.not_lt.mp c72 | exact Decidable.not_not.mp c72
      show jGo E l 72 229 229 _ 43 [.inr (.inr (.inl 113)), .inl a1, .inl a2, .inr (.inr (.inl 2)), .inr (.inr (.inl 11)), .inl t45, .inr (.inr (.inr ())), .inr (.inr (.inr ()))] [.inl 0, .inl a1, .inr (.inr (.inl 115))] 229 jr0 g44
      refine jGo_blk qX0_write_43 ?_
      refine st_si jo_115 (show 0 ≤ a1 by omega) (show a1 < ((300 : Nat) : Int) by omega) (fun hx => (jba_115 _ _).2 (show 0 ≤ 0 ∧ 0 ≤ 200 by omega)) (fun g96 eg96 => ?_)
      replace eg96 : g96 = jup g44 115 a1 0 := eg96
      have fg96 : jfr w_X0_write_113 h g96 := jfr_up fg44 eg96 (by unfold w_X0_write_113; omega)
      have e97 : g96 115 a1 = 0 := jup_s eg96
      refine st_gr jo_113 jr_113_2 ?_
      refine st_si jo_116 (show 0 ≤ a1 by omega) (show a1 < ((300 : Nat) : Int) by omega) (fun hx => (jba_116 _ _).2 hx) (fun g98 eg98 => ?_)
      replace eg98 : g98 = jup g96 116 a1 0 := eg98
      have fg98 : jfr w_X0_write_113 h g98 := jfr_up fg96 eg98 (by unfold w_X0_write_113; omega)
      have e99 : g98 116 a1 = 0 := jup_s eg98
      refine st_gr jo_113 jr_113_3 ?_
      refine st_si jo_117 (show 0 ≤ a1 by omega) (show a1 < ((300 : Nat) : Int) by omega) (fun hx => (jba_117 _ _).2 hx) (fun g100 eg100 => ?_)
      replace eg100 : g100 = jup g98 117 a1 0 := eg100
      have fg100 : jfr w_X0_write_113 h g100 := jfr_up fg98 eg100 (by unfold w_X0_write_113; omega)
      have e101 : g100 117 a1 = 0 := jup_s eg100
      show jGo E l 72 229 229 _ 61 [.inr (.inr (.inl 113)), .inl a1, .inl a2, .inr (.inr (.inl 2)), .inr (.inr (.inl 11)), .inl t45, .inl 0, .inr (.inr (.inr ()))] [] 229 jr0 g100
      have ef102 : ∀ i k : Int, 11 ≤ i → i ≤ 15 → g100 i k = g44 i k := fun i k p1 p2 => ((jup_o eg100 (by omega)).trans ((jup_o eg98 (by omega)).trans (jup_o eg96 (by omega))))
      have e103 : g100 15 8 = g98 15 8 := jup_o eg100 (by omega)
      have e104 : g98 15 8 = g96 15 8 := jup_o eg98 (by omega)
      have e105 : g96 15 8 = g44 15 8 := jup_o eg96 (by omega)
      have e106 : g100 15 8 = g98 15 8 := jup_o eg100 (by omega)
      have e107 : g98 15 8 = g96 15 8 := jup_o eg98 (by omega)
      have e108 : g96 15 8 = g44 15 8 := jup_o eg96 (by omega)
      have e109 : g100 15 9 = g98 15 9 := jup_o eg100 (by omega)
      have e110 : g98 15 9 = g96 15 9 := jup_o eg98 (by omega)
      have e111 : g96 15 9 = g44 15 9 := jup_o eg96 (by omega)
      have hc112 : g100 115 a1 = (if ¬ g100 15 8 = 0 ∧ a2.tmod (g100 15 8) = 0 then 0 else g100 15 9) ∧ 0 ≤ g100 115 a1 := by
        have y1 : g100 115 a1 = 0 := ((jup_o eg100 (by omega)).trans (jup_o eg98 (by omega))).trans (jup_s eg96)
        have y2 : g100 15 8 = t45 := (ef102 15 8 (by decide) (by decide)).trans zt45.symm
        rw [y1, y2]
        exact ⟨(if_pos ⟨by omega, by omega⟩).symm, Int.le_refl _⟩
      have hc115 : g100 117 a1 = jsm (fun c => jHd h c a2 * g100 15 (4 + c)) ((0 : Int)).toNat ∧ 0 ≤ g100 117 a1 ∧ g100 117 a1 ≤ 80000 * (0 : Int) := by
        rw [jup_s eg100]; exact ⟨rfl, by omega, by omega⟩
      have hc116 : (∀ k : Int, ¬ (a1 * 4 ≤ k ∧ k < a1 * 4 + 4) → g100 114 k = h 114 k) ∧ (∀ i k : Int, 115 ≤ i → i ≤ 117 → ¬ k = a1 → g100 i k = h i k) := by
        exact ⟨fun k p => ((jup_o eg100 (by omega)).trans ((jup_o eg98 (by omega)).trans ((jup_o eg96 (by omega)).trans (ft43 114 k (by unfold w_X2_goOnTo; omega))))), fun i k p1 p2 p3 => ((jup_o eg100 (by omega)).trans ((jup_o eg98 (by omega)).trans ((jup_o eg96 (by omega)).trans (ft43 i k (by unfold w_X2_goOnTo; omega)))))⟩
      exact (key 1000000000000) t45 0 (.inr (.inr (.inr ()))) g100 (by omega) (by exact jGOP_fr ef102 zt43) (by exact hc112) (by exact fun c p1 p2 => absurd p2 (by omega)) (by exact fun c p1 p2 => absurd p2 (by omega)) (by exact hc115) (by exact hc116) (by omega) fg100 (by omega)

def w_X7_standAt (i k : Int) : Prop := (i = 15) ∨ (114 ≤ i ∧ i ≤ 118) ∨ (i = 11 ∧ k = 5) ∨ (i = 111 ∧ k = 3) ∨ (i = 111 ∧ k = 9)
def k_X7_standAt (a1 : Int) (h : JH) (v : Option JV) (r' g : JH) : Prop := r' = jr0 ∧ jfr w_X7_standAt h g ∧ v = none ∧ (jSAp a1 h g)
set_option maxHeartbeats 4000000 in
theorem c_X7_standAt {E : JE} {l : Launch} (a1 : Int) (h : JH) (p1 : 0 ≤ a1 ∧ a1 ≤ 2000) : jMt E l 140 [.inr (.inr (.inl 111)), .inl a1, .inr (.inr (.inl 2)), .inr (.inr (.inl 11))] 229 jr0 h (k_X7_standAt a1 h) := by
  refine jMt0 (nL := 6) (ls := [.inr (.inr (.inl 111)), .inl a1, .inr (.inr (.inl 2)), .inr (.inr (.inl 11)), .inr (.inr (.inr ())), .inr (.inr (.inr ()))]) (by decide +kernel) (by decide +kernel) (by decide +kernel) rfl rfl ?_
  have f0 : jfr w_X7_standAt h h := jfr_rf _ _
  have key : ∀ N : Nat, (∀ (x4 : Int) (x5 : JV) (g : JH), (0 ≤ x4 ∧ x4 ≤ 300) → (jSt1 a1 x4 h g) → (jSt2 x4 0 g) → (g 111 3 = a1 ∧ x4 ≤ 300) → jfr w_X7_standAt h g → (300 - x4) * 1000000 + 999999 < (N : Int) → jGo E l 140 229 229 (jRK (k_X7_standAt a1 h)) 28 [.inr (.inr (.inl 111)), .inl a1, .inr (.inr (.inl 2)), .inr (.inr (.inl 11)), .inl x4, x5] [] 229 jr0 g) ∧
      (∀ (x4 : Int) (x5 : Int) (g : JH), (0 ≤ x4 ∧ x4 ≤ 299 ∧ 0 ≤ x5 ∧ x5 ≤ 4) → (jSt1 a1 (x4 + 1) h g) → (jSt2 x4 x5 g) → (g 111 3 = a1 ∧ x5 ≤ 4) → jfr w_X7_standAt h g → (300 - x4) * 1000000 + (4 - x5) < (N : Int) → jGo E l 140 229 229 (jRK (k_X7_standAt a1 h)) 59 [.inr (.inr (.inl 111)), .inl a1, .inr (.inr (.inl 2)), .inr (.inr (.inl 11)), .inl x4, .inl x5] [] 229 jr0 g) := by
    intro N
    induction N with
    | zero => exact ⟨fun _ _ _ hi hx0 hx1 hx2 _ hN => absurd hN (by omega), fun _ _ _ hi hx0 hx1 hx2 _ hN => absurd hN (by omega)⟩
    | succ N ih =>
      refine ⟨?_, ?_⟩
      · intro x4 x5 g hi hx0 hx1 hx2 hf hN
        refine jGo_blk qX7_standAt_28 ?_
        refine And.intro (fun c1 => ?_) (fun c1 => ?_)
        · replace c1 : 300 ≤ x4 := c1
          show jGo E l 140 229 229 _ 117 [.inr (.inr (.inl 111)), .inl a1, .inr (.inr (.inl 2)), .inr (.inr (.inl 11)), .inl x4, x5] [] 229 jr0 g
          refine jGo_blk qX7_standAt_117 ?_
          refine st_pi jo_111 (fun hx => (jbf_7_9 jo_111 _).2 (show 0 ≤ 1 ∧ 1 ≤ 1 by omega)) (fun g2 eg2 => ?_)
          replace eg2 : g2 = jup g 111 9 1 := eg2
          have fg2 : jfr w_X7_standAt h g2 := jfr_up hf eg2 (by unfold w_X7_standAt; omega)
          have e3 : g2 111 9 = 1 := jup_s eg2
          have hc4 := hx0; rw [show x4 = 300 by omega] at hc4
          have hc5 := hx1; rw [show x4 = 300 by omega] at hc5
          exact ⟨rfl, rfl, fg2, rfl, (by exact Or.inr ⟨jup_s eg2, ((jup_o eg2 (by omega))).trans hx2.1, jSt1_fr (fun i k q => (jup_o eg2 (by omega))) hc4, jSt2_fr (fun i k q1 q2 => (jup_o eg2 (by omega))) hc5⟩)⟩
        · replace c1 : x4 < 300 := by first | exact c1 | exact Int.not_le.mp c1 | exact Int.not_lt.mp c1 | exact Decidable.not_not.mp c1
          refine st_gr jo_111 jr_111_4 ?_
          refine st_gi jo_111 (fun v6 ev6 b7 => ?_)
          replace ev6 : v6 = g 111 3 := ev6
          replace b7 := (jbf_7_3 jo_111 _).1 b7
          have e8 : jw32 (v6 + 1) = v6 + 1 := j32e (by omega) (by omega)
          have e9 : jw32 ((jw32 (v6 + 1)) + x4) = (jw32 (v6 + 1)) + x4 := j32e (by omega) (by omega)
          refine st_cv (na := 4) (st := [.inr (.inr (.inl 11)), .inr (.inr (.inl 2)), .inl (jw32 ((jw32 (v6 + 1)) + x4)), .inl x4, .inr (.inr (.inl 113))]) jo_113 rfl rfl rfl (c_X0_write_113 x4 (jw32 ((jw32 (v6 + 1)) + x4)) g (by omega) (by omega)) rfl ?_
          rintro _ _ g11 ⟨rfl, ft10, rfl, zt10⟩ kt10
          have fg11 : jfr w_X7_standAt h g11 := jfr_tr hf ft10 (fun i k q => by unfold w_X0_write_113 at q; unfold w_X7_standAt; omega)
          replace zt10 : jWri 114 x4 (jw32 ((jw32 (v6 + 1)) + x4)) g g11 := zt10
          show jGo E l 140 229 229 _ 59 [.inr (.inr (.inl 111)), .inl a1, .inr (.inr (.inl 2)), .inr (.inr (.inl 11)), .inl x4, .inl 0] [] 229 jr0 g11
          have w9 := zt10; rw [show jw32 ((jw32 (v6 + 1)) + x4) = a1 + 1 + x4 by omega] at w9
          have e13 : g11 111 3 = g 111 3 := ft10 111 3 (by unfold w_X0_write_113; omega)
          exact ih.2 x4 0 g11 (by omega) (by exact jSt1_w hx0 (by omega) (by omega) (fun i k q => hf i k (by unfold w_X7_standAt; omega)) w9 (fun i k q1 q2 => (ft10 i k (by unfold w_X0_write_113; omega))) ((ft10 11 0 (by unfold w_X0_write_113; omega)))) (by exact jSt2_w w9 (fun c => (ft10 118 c (by unfold w_X0_write_113; omega))) hx1) (by exact ⟨((ft10 111 3 (by unfold w_X0_write_113; omega))).trans hx2.1, by omega⟩) fg11 (by omega)
      · intro x4 x5 g hi hx0 hx1 hx2 hf hN
        refine jGo_blk qX7_standAt_59 ?_
        refine And.intro (fun c14 => ?_) (fun c14 => ?_)
        · replace c14 : 4 ≤ x5 := c14
          show jGo E l 140 229 229 _ 111 [.inr (.inr (.inl 111)), .inl a1, .inr (.inr (.inl 2)), .inr (.inr (.inl 11)), .inl x4, .inl x5] [] 229 jr0 g
          refine jGo_blk qX7_standAt_111 ?_
          have e15 : jw32 (x4 + 1) = x4 + 1 := j32e (by omega) (by omega)
          show jGo E l 140 229 229 _ 28 [.inr (.inr (.inl 111)), .inl a1, .inr (.inr (.inl 2)), .inr (.inr (.inl 11)), .inl (jw32 (x4 + 1)), .inl x5] [] 229 jr0 g
          exact ih.1 (jw32 (x4 + 1)) (.inl x5) g (by omega) (by rw [show jw32 (x4 + 1) = x4 + 1 by omega]; exact hx0) (by rw [show jw32 (x4 + 1) = x4 + 1 by omega]; have y9 := hx1; rw [show x5 = 4 by omega] at y9; exact jSt2_e y9) (by exact ⟨hx2.1, by omega⟩) hf (by omega)
        · replace c14 : x5 < 4 := by first | exact c14 | exact Int.not_le.mp c14 | exact Int.not_lt.mp c14 | exact Decidable.not_not.mp c14
          refine st_gr jo_111 jr_111_4 ?_
          refine st_gr jo_113 jr_113_1 ?_
          refine st_ai jo_115 (show 0 ≤ x4 by omega) (show x4 < ((300 : Nat) : Int) by omega) (fun v16 ev16 b17 => ?_)
          replace ev16 : v16 = g 115 x4 := ev16
          replace b17 := (jba_115 x4 _).1 b17
          refine And.intro (fun c18 => ?_) (fun c18 => ?_)
          · replace c18 : v16 ≤ 0 := c18
            show jGo E l 140 229 229 _ 105 [.inr (.inr (.inl 111)), .inl a1, .inr (.inr (.inl 2)), .inr (.inr (.inl 11)), .inl x4, .inl x5] [] 229 jr0 g
            refine jGo_blk qX7_standAt_105 ?_
            have e19 : jw32 (x5 + 1) = x5 + 1 := j32e (by omega) (by omega)
            show jGo E l 140 229 229 _ 59 [.inr (.inr (.inl 111)), .inl a1, .inr (.inr (.inl 2)), .inr (.inr (.inl 11)), .inl x4, .inl (jw32 (x5 + 1))] [] 229 jr0 g
            exact ih.2 x4 (jw32 (x5 + 1)) g (by omega) (by exact hx0) (by rw [show jw32 (x5 + 1) = x5 + 1 by omega]; exact jSt2_n (Or.inl (by omega)) hx1) (by exact ⟨hx2.1, by omega⟩) hf (by omega)
          · replace c18 : 0 < v16 := by first | exact c18 | exact Int.not_le.mp c18 | exact Int.not_lt.mp c18 | exact Decidable.not_not.mp c18
            refine st_gr jo_111 jr_111_4 ?_
            refine st_gr jo_113 jr_113_0 ?_
            have e20 : jw32 (x4 * 4) = x4 * 4 := j32e (by omega) (by omega)
            have e21 : jw32 ((jw32 (x4 * 4)) + x5) = (jw32 (x4 * 4)) + x5 := j32e (by omega) (by omega)
            refine st_ai jo_114 (show 0 ≤ jw32 ((jw32 (x4 * 4)) + x5) by omega) (show jw32 ((jw32 (x4 * 4)) + x5) < ((1200 : Nat) : Int) by omega) (fun v22 ev22 b23 => ?_)
            replace ev22 : v22 = g 114 (jw32 ((jw32 (x4 * 4)) + x5)) := ev22
            replace b23 := (jba_114 (jw32 ((jw32 (x4 * 4)) + x5)) _).1 b23
            refine And.intro (fun c24 => ?_) (fun c24 => ?_)
            · replace c24 : v22 ≤ 0 := c24
              show jGo E l 140 229 229 _ 105 [.inr (.inr (.inl 111)), .inl a1, .inr (.inr (.inl 2)), .inr (.inr (.inl 11)), .inl x4, .inl x5] [] 229 jr0 g
              refine jGo_blk qX7_standAt_105 ?_
              have e25 : jw32 (x5 + 1) = x5 + 1 := j32e (by omega) (by omega)
              show jGo E l 140 229 229 _ 59 [.inr (.inr (.inl 111)), .inl a1, .inr (.inr (.inl 2)), .inr (.inr (.inl 11)), .inl x4, .inl (jw32 (x5 + 1))] [] 229 jr0 g
              exact ih.2 x4 (jw32 (x5 + 1)) g (by omega) (by exact hx0) (by rw [show jw32 (x5 + 1) = x5 + 1 by omega]; exact jSt2_n (Or.inr (by rw [show x4 * 4 + x5 = jw32 ((jw32 (x4 * 4)) + x5) by omega]; omega)) hx1) (by exact ⟨hx2.1, by omega⟩) hf (by omega)
            · replace c24 : 0 < v22 := by first | exact c24 | exact Int.not_le.mp c24 | exact Int.not_lt.mp c24 | exact Decidable.not_not.mp c24
              refine st_gr jo_111 jr_111_5 ?_
              refine st_si jo_118 (show 0 ≤ x5 by omega) (show x5 < ((4 : Nat) : Int) by omega) (fun hx => (jba_118 _ _).2 (show -1 ≤ x4 ∧ x4 ≤ 299 by omega)) (fun g26 eg26 => ?_)
              replace eg26 : g26 = jup g 118 x5 x4 := eg26
              have fg26 : jfr w_X7_standAt h g26 := jfr_up hf eg26 (by unfold w_X7_standAt; omega)
              have e27 : g26 118 x5 = x4 := jup_s eg26
              show jGo E l 140 229 229 _ 105 [.inr (.inr (.inl 111)), .inl a1, .inr (.inr (.inl 2)), .inr (.inr (.inl 11)), .inl x4, .inl x5] [] 229 jr0 g26
              refine jGo_blk qX7_standAt_105 ?_
              have e28 : jw32 (x5 + 1) = x5 + 1 := j32e (by omega) (by omega)
              show jGo E l 140 229 229 _ 59 [.inr (.inr (.inl 111)), .inl a1, .inr (.inr (.inl 2)), .inr (.inr (.inl 11)), .inl x4, .inl (jw32 (x5 + 1))] [] 229 jr0 g26
              have e29 : g26 111 3 = g 111 3 := jup_o eg26 (by omega)
              exact ih.2 x4 (jw32 (x5 + 1)) g26 (by omega) (by exact jSt1_fr (fun i k q => (jup_o eg26 (by omega))) hx0) (by rw [show jw32 (x5 + 1) = x5 + 1 by omega]; exact jSt2_y eg26 (by omega) hx1) (by exact ⟨((jup_o eg26 (by omega))).trans hx2.1, by omega⟩) fg26 (by omega)
  refine jGo_blk qX7_standAt_0 ?_
  refine st_gi jo_111 (fun v30 ev30 b31 => ?_)
  replace ev30 : v30 = h 111 9 := ev30
  replace b31 := (jbf_7_9 jo_111 _).1 b31
  refine And.intro (fun c32 => ?_) (fun c32 => ?_)
  · replace c32 : v30 = 0 := c32
    show jGo E l 140 229 229 _ 8 [.inr (.inr (.inl 111)), .inl a1, .inr (.inr (.inl 2)), .inr (.inr (.inl 11)), .inr (.inr (.inr ())), .inr (.inr (.inr ()))] [] 229 jr0 h
    refine jGo_blk qX7_standAt_8 ?_
    refine st_pi jo_111 (fun hx => (jbf_7_3 jo_111 _).2 (show 0 ≤ a1 ∧ a1 ≤ 2000 by omega)) (fun g33 eg33 => ?_)
    replace eg33 : g33 = jup h 111 3 a1 := eg33
    have fg33 : jfr w_X7_standAt h g33 := jfr_up f0 eg33 (by unfold w_X7_standAt; omega)
    have e34 : g33 111 3 = a1 := jup_s eg33
    refine st_cv (na := 0) (st := [.inr (.inr (.inl 11))]) jo_11 rfl rfl rfl (c_X2_rewind g33) rfl ?_
    rintro _ _ g36 ⟨rfl, ft35, rfl, zt35⟩ kt35
    have fg36 : jfr w_X7_standAt h g36 := jfr_tr fg33 ft35 (fun i k q => by unfold w_X2_rewind at q; unfold w_X7_standAt; omega)
    replace zt35 : (∀ t : Int, 0 ≤ t → t ≤ 9 → g36 15 t = if t = 9 then 60 else 0) ∧ g36 11 5 = 0 := zt35
    refine st_gr jo_111 jr_111_5 ?_
    refine st_cs (na := 2) (st := [.inl (-1), .inr (.inr (.inl 118))]) rfl rfl rfl (c_fill 118 (-1) g36 jo_118 (by decide) (fun k hx => (jba_118 _ _).2 (by omega))) rfl ?_
    rintro _ _ g38 ⟨rfl, ft37, rfl, zt37⟩ kt37
    have fg38 : jfr w_X7_standAt h g38 := jfr_tr fg36 ft37 (fun i k q => by unfold w_fill at q; unfold w_X7_standAt; omega)
    show jGo E l 140 229 229 _ 28 [.inr (.inr (.inl 111)), .inl a1, .inr (.inr (.inl 2)), .inr (.inr (.inl 11)), .inl 0, .inr (.inr (.inr ()))] [] 229 jr0 g38
    refine jGo_bd (fun hbd40 => ?_)
    have hc39 : jSt1 a1 0 h g38 := by
      refine jSt1_0 ⟨fun t p1 p2 => ((ft37 15 t (by unfold w_fill; omega))).trans (zt35.1 t p1 p2), ((ft37 11 5 (by unfold w_fill; omega))).trans zt35.2⟩ ((jbf_2_0 jo_11 _).1 (hbd40 11 0)).1
    have e41 : g38 111 3 = g36 111 3 := ft37 111 3 (by unfold w_fill; omega)
    have e42 : g36 111 3 = g33 111 3 := ft35 111 3 (by unfold w_X2_rewind; omega)
    exact (key 1000000000000000000).1 0 (.inr (.inr (.inr ()))) g38 (by omega) (by exact hc39) (by exact jSt2_0) (by exact ⟨(((ft37 111 3 (by unfold w_fill; omega)).trans (ft35 111 3 (by unfold w_X2_rewind; omega)))).trans (jup_s eg33), by omega⟩) fg38 (by omega)
  · replace c32 : ¬ v30 = 0 := by first | exact c32 | exact Int.not_le.mp c32 | exact Int.not_lt.mp c32 | exact Decidable.not_not.mp c32
    exact ⟨rfl, rfl, f0, rfl, (by exact Or.inl ⟨by omega, fun i k => rfl⟩)⟩

def w_X4_become (a0 : Int) (a1 : Int) (i k : Int) : Prop := (a0 + 0 ≤ i ∧ i ≤ a0 + 0) ∨ (a0 + 1 ≤ i ∧ i ≤ a0 + 1) ∨ (a0 + 2 ≤ i ∧ i ≤ a0 + 2)
def k_X4_become (a0 : Int) (a1 : Int) (h : JH) (v : Option JV) (r' g : JH) : Prop := r' = jr0 ∧ jfr (w_X4_become a0 a1) h g ∧ v = none ∧ ((∀ f : Int, 0 ≤ f → f ≤ 9 → g a0 f = h a1 f) ∧ (∀ f : Int, 0 ≤ f → f < 6 → g (a0 + 1) f = h (a1 + 1) f ∧ g (a0 + 2) f = h (a1 + 2) f))
set_option maxHeartbeats 4000000 in
theorem c_X4_become {E : JE} {l : Launch} (a0 : Int) (a1 : Int) (h : JH) (ha0 : jHl a0) (ha1 : jHl a1) (q0 : a1 + 2 < a0) : jMt E l 141 [.inr (.inr (.inl a0)), .inr (.inr (.inl a1))] 229 jr0 h (k_X4_become a0 a1 h) := by
  refine jMt0 (nL := 2) (ls := [.inr (.inr (.inl a0)), .inr (.inr (.inl a1))]) (by decide +kernel) (by decide +kernel) (by decide +kernel) rfl rfl ?_
  have f0 : jfr (w_X4_become a0 a1) h h := jfr_rf _ _
  refine jGo_blk qX4_become_0 ?_
  refine st_gi ha1.1 (fun v1 ev1 b2 => ?_)
  replace ev1 : v1 = h a1 0 := ev1
  replace b2 := (jbf_4_0 ha1.1 _).1 b2
  refine st_gi ha1.1 (fun v3 ev3 b4 => ?_)
  replace ev3 : v3 = h a1 1 := ev3
  replace b4 := (jbf_4_1 ha1.1 _).1 b4
  refine st_gi ha1.1 (fun v5 ev5 b6 => ?_)
  replace ev5 : v5 = h a1 2 := ev5
  replace b6 := (jbf_4_2 ha1.1 _).1 b6
  refine st_cv (na := 3) (st := [.inl v5, .inl v3, .inl v1, .inr (.inr (.inl a0))]) ha0.1 rfl rfl rfl (c_X4_begin a0 v1 v3 v5 h ha0 (by omega) (by omega) (by omega)) rfl ?_
  rintro _ _ g8 ⟨rfl, ft7, rfl, zt7⟩ kt7
  have fg8 : jfr (w_X4_become a0 a1) h g8 := jfr_tr f0 ft7 (fun i k q => by unfold w_X4_begin at q; unfold w_X4_become; omega)
  replace zt7 : g8 = jBgn a0 v1 v3 v5 h := zt7
  refine st_gi ha1.1 (fun v9 ev9 b10 => ?_)
  replace ev9 : v9 = g8 a1 3 := ev9
  replace b10 := (jbf_4_3 ha1.1 _).1 b10
  refine st_pi ha0.1 (fun hx => (jbf_4_3 ha0.1 _).2 (show 0 ≤ v9 ∧ v9 ≤ 3 by omega)) (fun g11 eg11 => ?_)
  replace eg11 : g11 = jup g8 a0 3 v9 := eg11
  have fg11 : jfr (w_X4_become a0 a1) h g11 := jfr_up fg8 eg11 (by unfold w_X4_become; omega)
  have e12 : g11 a0 3 = v9 := jup_s eg11
  refine st_gi ha1.1 (fun v13 ev13 b14 => ?_)
  replace ev13 : v13 = g11 a1 4 := ev13
  replace b14 := (jbf_4_4 ha1.1 _).1 b14
  refine st_pi ha0.1 (fun hx => (jbf_4_4 ha0.1 _).2 (show -9 ≤ v13 ∧ v13 ≤ 5 by omega)) (fun g15 eg15 => ?_)
  replace eg15 : g15 = jup g11 a0 4 v13 := eg15
  have fg15 : jfr (w_X4_become a0 a1) h g15 := jfr_up fg11 eg15 (by unfold w_X4_become; omega)
  have e16 : g15 a0 4 = v13 := jup_s eg15
  refine st_gi ha1.1 (fun v17 ev17 b18 => ?_)
  replace ev17 : v17 = g15 a1 5 := ev17
  replace b18 := (jbf_4_5 ha1.1 _).1 b18
  refine st_pi ha0.1 (fun hx => (jbf_4_5 ha0.1 _).2 (show 0 ≤ v17 ∧ v17 ≤ 3 by omega)) (fun g19 eg19 => ?_)
  replace eg19 : g19 = jup g15 a0 5 v17 := eg19
  have fg19 : jfr (w_X4_become a0 a1) h g19 := jfr_up fg15 eg19 (by unfold w_X4_become; omega)
  have e20 : g19 a0 5 = v17 := jup_s eg19
  refine st_gi ha1.1 (fun v21 ev21 b22 => ?_)
  replace ev21 : v21 = g19 a1 6 := ev21
  replace b22 := (jbf_4_6 ha1.1 _).1 b22
  refine st_pi ha0.1 (fun hx => (jbf_4_6 ha0.1 _).2 hx) (fun g23 eg23 => ?_)
  replace eg23 : g23 = jup g19 a0 6 v21 := eg23
  have fg23 : jfr (w_X4_become a0 a1) h g23 := jfr_up fg19 eg23 (by unfold w_X4_become; omega)
  have e24 : g23 a0 6 = v21 := jup_s eg23
  refine st_gi ha1.1 (fun v25 ev25 b26 => ?_)
  replace ev25 : v25 = g23 a1 7 := ev25
  replace b26 := (jbf_4_7 ha1.1 _).1 b26
  refine st_pi ha0.1 (fun hx => (jbf_4_7 ha0.1 _).2 (show 0 ≤ v25 ∧ v25 ≤ 1 by omega)) (fun g27 eg27 => ?_)
  replace eg27 : g27 = jup g23 a0 7 v25 := eg27
  have fg27 : jfr (w_X4_become a0 a1) h g27 := jfr_up fg23 eg27 (by unfold w_X4_become; omega)
  have e28 : g27 a0 7 = v25 := jup_s eg27
  refine st_gi ha1.1 (fun v29 ev29 b30 => ?_)
  replace ev29 : v29 = g27 a1 8 := ev29
  replace b30 := (jbf_4_8 ha1.1 _).1 b30
  refine st_pi ha0.1 (fun hx => (jbf_4_8 ha0.1 _).2 hx) (fun g31 eg31 => ?_)
  replace eg31 : g31 = jup g27 a0 8 v29 := eg31
  have fg31 : jfr (w_X4_become a0 a1) h g31 := jfr_up fg27 eg31 (by unfold w_X4_become; omega)
  have e32 : g31 a0 8 = v29 := jup_s eg31
  refine st_gi ha1.1 (fun v33 ev33 b34 => ?_)
  replace ev33 : v33 = g31 a1 9 := ev33
  replace b34 := (jbf_4_9 ha1.1 _).1 b34
  refine st_pi ha0.1 (fun hx => (jbf_4_9 ha0.1 _).2 hx) (fun g35 eg35 => ?_)
  replace eg35 : g35 = jup g31 a0 9 v33 := eg35
  have fg35 : jfr (w_X4_become a0 a1) h g35 := jfr_up fg31 eg35 (by unfold w_X4_become; omega)
  have e36 : g35 a0 9 = v33 := jup_s eg35
  refine st_gi ha1.1 (fun v37 ev37 b38 => ?_)
  replace ev37 : v37 = g35 a1 10 := ev37
  replace b38 := (jbf_4_10 ha1.1 _).1 b38
  refine st_pi ha0.1 (fun hx => (jbf_4_10 ha0.1 _).2 (show 0 ≤ v37 ∧ v37 ≤ 1 by omega)) (fun g39 eg39 => ?_)
  replace eg39 : g39 = jup g35 a0 10 v37 := eg39
  have fg39 : jfr (w_X4_become a0 a1) h g39 := jfr_up fg35 eg39 (by unfold w_X4_become; omega)
  have e40 : g39 a0 10 = v37 := jup_s eg39
  refine st_gr ha1.1 rfl ?_
  refine st_gr ha0.1 rfl ?_
  refine st_cp ha0.2.1 ha1.2.1 (show 0 ≤ 0 by omega) (show 0 ≤ 0 by omega) (show 0 ≤ 6 by omega) (show 0 + 6 ≤ ((6 : Nat) : Int) by omega) (show 0 + 6 ≤ ((6 : Nat) : Int) by omega) rfl (fun hg j _ _ => (ha0.2.2.2.2.2.1 _ _).2 (jbd_int (by rw [ha1.2.1.2.2]; decide) (hg _ _))) (fun g41 eg41 => ?_)
  replace eg41 : g41 = jcp g39 (jr0 a1 11) 0 (jr0 a0 11) 0 6 := eg41
  have fg41 : jfr (w_X4_become a0 a1) h g41 := jfr_cp fg39 eg41 (fun _ => by have q9 := ha0.2.2.2.1; have q8 := ha0.2.2.2.2.1; unfold w_X4_become; omega)
  refine st_gr ha1.1 rfl ?_
  refine st_gr ha0.1 rfl ?_
  refine st_cp ha0.2.2.1 ha1.2.2.1 (show 0 ≤ 0 by omega) (show 0 ≤ 0 by omega) (show 0 ≤ 6 by omega) (show 0 + 6 ≤ ((6 : Nat) : Int) by omega) (show 0 + 6 ≤ ((6 : Nat) : Int) by omega) rfl (fun hg j _ _ => (ha0.2.2.2.2.2.2 _ _).2 (jbd_int (by rw [ha1.2.2.1.2.2]; decide) (hg _ _))) (fun g42 eg42 => ?_)
  replace eg42 : g42 = jcp g41 (jr0 a1 12) 0 (jr0 a0 12) 0 6 := eg42
  have fg42 : jfr (w_X4_become a0 a1) h g42 := jfr_cp fg41 eg42 (fun _ => by have q9 := ha0.2.2.2.1; have q8 := ha0.2.2.2.2.1; unfold w_X4_become; omega)
  have hc43 : (∀ f : Int, 0 ≤ f → f ≤ 9 → g42 a0 f = h a1 f) ∧ (∀ f : Int, 0 ≤ f → f < 6 → g42 (a0 + 1) f = h (a1 + 1) f ∧ g42 (a0 + 2) f = h (a1 + 2) f) := by
    have n1 := ha0.2.2.2.1; have n2 := ha0.2.2.2.2.1; have m1 := ha1.2.2.2.1; have m2 := ha1.2.2.2.2.1
    refine ⟨fun f p1 p2 => ?_, fun f p1 p2 => ⟨?_, ?_⟩⟩
    · rw [jcp_o eg42 (by omega), jcp_o eg41 (by omega)]
      rcases (show f = 0 ∨ f = 1 ∨ f = 2 ∨ f = 3 ∨ f = 4 ∨ f = 5 ∨ f = 6 ∨ f = 7 ∨ f = 8 ∨ f = 9 by omega) with rfl | rfl | rfl | rfl | rfl | rfl | rfl | rfl | rfl | rfl
      · exact (((jup_o eg39 (by omega)).trans ((jup_o eg35 (by omega)).trans ((jup_o eg31 (by omega)).trans ((jup_o eg27 (by omega)).trans ((jup_o eg23 (by omega)).trans ((jup_o eg19 (by omega)).trans ((jup_o eg15 (by omega)).trans (jup_o eg11 (by omega)))))))))).trans ((congrFun (congrFun zt7 a0) 0).trans (by unfold jBgn; rw [jup_ne (by omega), jup_ne (by omega), jup_ne (by omega), jup_ne (by omega), jup_ne (by omega), jup_eq]; exact ev1))
      · exact (((jup_o eg39 (by omega)).trans ((jup_o eg35 (by omega)).trans ((jup_o eg31 (by omega)).trans ((jup_o eg27 (by omega)).trans ((jup_o eg23 (by omega)).trans ((jup_o eg19 (by omega)).trans ((jup_o eg15 (by omega)).trans (jup_o eg11 (by omega)))))))))).trans ((congrFun (congrFun zt7 a0) 1).trans (by unfold jBgn; rw [jup_ne (by omega), jup_ne (by omega), jup_ne (by omega), jup_ne (by omega), jup_eq]; exact ev3))
      · exact (((jup_o eg39 (by omega)).trans ((jup_o eg35 (by omega)).trans ((jup_o eg31 (by omega)).trans ((jup_o eg27 (by omega)).trans ((jup_o eg23 (by omega)).trans ((jup_o eg19 (by omega)).trans ((jup_o eg15 (by omega)).trans (jup_o eg11 (by omega)))))))))).trans ((congrFun (congrFun zt7 a0) 2).trans (by unfold jBgn; rw [jup_ne (by omega), jup_ne (by omega), jup_ne (by omega), jup_eq]; exact ev5))
      · exact (((jup_o eg39 (by omega)).trans ((jup_o eg35 (by omega)).trans ((jup_o eg31 (by omega)).trans ((jup_o eg27 (by omega)).trans ((jup_o eg23 (by omega)).trans ((jup_o eg19 (by omega)).trans (jup_o eg15 (by omega))))))))).trans ((jup_s eg11).trans (ev9.trans (fg8 a1 3 (by unfold w_X4_become; omega))))
      · exact (((jup_o eg39 (by omega)).trans ((jup_o eg35 (by omega)).trans ((jup_o eg31 (by omega)).trans ((jup_o eg27 (by omega)).trans ((jup_o eg23 (by omega)).trans (jup_o eg19 (by omega)))))))).trans ((jup_s eg15).trans (ev13.trans (fg11 a1 4 (by unfold w_X4_become; omega))))
      · exact (((jup_o eg39 (by omega)).trans ((jup_o eg35 (by omega)).trans ((jup_o eg31 (by omega)).trans ((jup_o eg27 (by omega)).trans (jup_o eg23 (by omega))))))).trans ((jup_s eg19).trans (ev17.trans (fg15 a1 5 (by unfold w_X4_become; omega))))
      · exact (((jup_o eg39 (by omega)).trans ((jup_o eg35 (by omega)).trans ((jup_o eg31 (by omega)).trans (jup_o eg27 (by omega)))))).trans ((jup_s eg23).trans (ev21.trans (fg19 a1 6 (by unfold w_X4_become; omega))))
      · exact (((jup_o eg39 (by omega)).trans ((jup_o eg35 (by omega)).trans (jup_o eg31 (by omega))))).trans ((jup_s eg27).trans (ev25.trans (fg23 a1 7 (by unfold w_X4_become; omega))))
      · exact (((jup_o eg39 (by omega)).trans (jup_o eg35 (by omega)))).trans ((jup_s eg31).trans (ev29.trans (fg27 a1 8 (by unfold w_X4_become; omega))))
      · exact ((jup_o eg39 (by omega))).trans ((jup_s eg35).trans (ev33.trans (fg31 a1 9 (by unfold w_X4_become; omega))))
    · rw [jcp_o eg42 (by omega), show a0 + 1 = jr0 a0 11 by omega, jcp_s eg41 p1 (by omega), m1, show 0 + (f - 0) = f by omega]; exact fg39 (a1 + 1) f (by unfold w_X4_become; omega)
    · rw [show a0 + 2 = jr0 a0 12 by omega, jcp_s eg42 p1 (by omega), m2, show 0 + (f - 0) = f by omega]; exact fg41 (a1 + 2) f (by unfold w_X4_become; omega)
  exact ⟨rfl, rfl, fg42, rfl, (by exact hc43)⟩

def w_X10_become_119_29_34 (i k : Int) : Prop := (120 ≤ i ∧ i ≤ 121) ∨ (i = 124) ∨ (126 ≤ i ∧ i ≤ 173) ∨ (i = 119 ∧ k = 6)
def k_X10_become_119_29_34 (a3 : Int) (h : JH) (v : Option JV) (r' g : JH) : Prop := r' = jr0 ∧ jfr w_X10_become_119_29_34 h g ∧ v = none ∧ (jBc 34 a3 h g)
set_option maxHeartbeats 4000000 in
theorem c_X10_become_119_29_34 {E : JE} {l : Launch} (a3 : Int) (h : JH) (p3 : 0 ≤ a3 ∧ a3 ≤ 16) : jMt E l 142 [.inr (.inr (.inl 119)), .inr (.inr (.inl 29)), .inr (.inr (.inl 34)), .inl a3] 229 jr0 h (k_X10_become_119_29_34 a3 h) := by
  refine jMt0 (nL := 5) (ls := [.inr (.inr (.inl 119)), .inr (.inr (.inl 29)), .inr (.inr (.inl 34)), .inl a3, .inr (.inr (.inr ()))]) (by decide +kernel) (by decide +kernel) (by decide +kernel) rfl rfl ?_
  have f0 : jfr w_X10_become_119_29_34 h h := jfr_rf _ _
  have key : ∀ N : Nat, (∀ (x4 : Int) (g : JH), (0 ≤ x4 ∧ x4 ≤ 16) → ((∀ x : Int, 0 ≤ x → x < 6 → g 120 x = h 30 x) ∧ (∀ b : Int, 0 ≤ b → b < 6 → g 121 b = h 31 b) ∧ (∀ i : Int, 0 ≤ i → i < a3 → g 124 i = h 34 i) ∧ g 119 6 = a3) → (∀ i : Int, 0 ≤ i → i < x4 → (∀ f : Int, 0 ≤ f → f ≤ 9 → g (126 + 3 * h 34 i) f = h (36 + 3 * h 34 i) f) ∧ (∀ f : Int, 0 ≤ f → f < 6 → g (126 + 3 * h 34 i + 1) f = h (36 + 3 * h 34 i + 1) f ∧ g (126 + 3 * h 34 i + 2) f = h (36 + 3 * h 34 i + 2) f)) → (x4 ≤ a3) → jfr w_X10_become_119_29_34 h g → (16 - x4) < (N : Int) → jGo E l 142 229 229 (jRK (k_X10_become_119_29_34 a3 h)) 49 [.inr (.inr (.inl 119)), .inr (.inr (.inl 29)), .inr (.inr (.inl 34)), .inl a3, .inl x4] [] 229 jr0 g) := by
    intro N
    induction N with
    | zero => exact fun _ _ hi hx0 hx1 hx2 _ hN => absurd hN (by omega)
    | succ N ih =>
      intro x4 g hi hx0 hx1 hx2 hf hN
      refine jGo_blk qX10_become_49 ?_
      refine And.intro (fun c1 => ?_) (fun c1 => ?_)
      · replace c1 : a3 ≤ x4 := c1
        show jGo E l 142 229 229 _ 88 [.inr (.inr (.inl 119)), .inr (.inr (.inl 29)), .inr (.inr (.inl 34)), .inl a3, .inl x4] [] 229 jr0 g
        refine jGo_blk qX10_become_88 ?_
        exact ⟨rfl, rfl, hf, rfl, (by exact ⟨hx0.1, hx0.2.1, hx0.2.2.1, hx0.2.2.2, fun i p1 p2 => hx1 i p1 (by omega)⟩)⟩
      · replace c1 : x4 < a3 := by first | exact c1 | exact Int.not_le.mp c1 | exact Int.not_lt.mp c1 | exact Decidable.not_not.mp c1
        refine st_gr jo_119 jr_119_3 ?_
        refine st_gr jo_119 jr_119_5 ?_
        refine st_ai jo_124 (show 0 ≤ x4 by omega) (show x4 < ((16 : Nat) : Int) by omega) (fun v2 ev2 b3 => ?_)
        replace ev2 : v2 = g 124 x4 := ev2
        replace b3 := (jba_124 x4 _).1 b3
        refine st_ar jo_123 (by decide) (show 0 ≤ v2 by omega) (show v2 < ((16 : Nat) : Int) by omega) (fun u4 eu4 => ?_)
        replace eu4 : u4 = jr0 123 v2 := eu4
        have qu4 : u4 = 126 + 3 * v2 := eu4.trans (jhul_123 v2 (by omega) (by omega)).1
        have hu4 : jHl u4 := by rw [eu4]; exact (jhul_123 v2 (by omega) (by omega)).2
        refine st_gr jo_29 jr_29_3 ?_
        refine st_gr jo_119 jr_119_5 ?_
        refine st_ai jo_124 (show 0 ≤ x4 by omega) (show x4 < ((16 : Nat) : Int) by omega) (fun v5 ev5 b6 => ?_)
        replace ev5 : v5 = g 124 x4 := ev5
        replace b6 := (jba_124 x4 _).1 b6
        refine st_ar jo_33 (by decide) (show 0 ≤ v5 by omega) (show v5 < ((16 : Nat) : Int) by omega) (fun u7 eu7 => ?_)
        replace eu7 : u7 = jr0 33 v5 := eu7
        have qu7 : u7 = 36 + 3 * v5 := eu7.trans (jhul_33 v5 (by omega) (by omega)).1
        have hu7 : jHl u7 := by rw [eu7]; exact (jhul_33 v5 (by omega) (by omega)).2
        refine st_cv (na := 1) (st := [.inr (.inr (.inl u7)), .inr (.inr (.inl u4))]) hu4.1 rfl rfl rfl (c_X4_become u4 u7 g hu4 hu7 (by omega)) rfl ?_
        rintro _ _ g9 ⟨rfl, ft8, rfl, zt8⟩ kt8
        have fg9 : jfr w_X10_become_119_29_34 h g9 := jfr_tr hf ft8 (fun i k q => by unfold w_X4_become at q; unfold w_X10_become_119_29_34; omega)
        replace zt8 : (∀ f : Int, 0 ≤ f → f ≤ 9 → g9 u4 f = g u7 f) ∧ (∀ f : Int, 0 ≤ f → f < 6 → g9 (u4 + 1) f = g (u7 + 1) f ∧ g9 (u4 + 2) f = g (u7 + 2) f) := zt8
        have e10 : jw32 (x4 + 1) = x4 + 1 := j32e (by omega) (by omega)
        show jGo E l 142 229 229 _ 49 [.inr (.inr (.inl 119)), .inr (.inr (.inl 29)), .inr (.inr (.inl 34)), .inl a3, .inl (jw32 (x4 + 1))] [] 229 jr0 g9
        have e11 : g9 119 6 = g 119 6 := ft8 119 6 (by unfold w_X4_become; omega)
        have hc12 : ∀ i : Int, 0 ≤ i → i < (jw32 (x4 + 1)) → (∀ f : Int, 0 ≤ f → f ≤ 9 → g9 (126 + 3 * h 34 i) f = h (36 + 3 * h 34 i) f) ∧ (∀ f : Int, 0 ≤ f → f < 6 → g9 (126 + 3 * h 34 i + 1) f = h (36 + 3 * h 34 i + 1) f ∧ g9 (126 + 3 * h 34 i + 2) f = h (36 + 3 * h 34 i + 2) f) := by
          intro i p1 p2
          have l4 := hx0.2.2.1 x4 (by omega) (by omega)
          have hR : ∀ k m : Int, 36 ≤ k → k ≤ 83 → g k m = h k m := fun k m q1 q2 => hf k m (by unfold w_X10_become_119_29_34; omega)
          by_cases y : h 34 i = v2
          · rw [y, show 126 + 3 * v2 = u4 by omega, show 36 + 3 * v2 = u7 by omega]
            exact ⟨fun f q1 q2 => (zt8.1 f q1 q2).trans (hR _ f (by omega) (by omega)), fun f q1 q2 => ⟨(zt8.2 f q1 q2).1.trans (hR _ f (by omega) (by omega)), (zt8.2 f q1 q2).2.trans (hR _ f (by omega) (by omega))⟩⟩
          · have o := hx1 i p1 (by by_cases y2 : i = x4; exact absurd (by rw [y2]; omega) y; omega)
            exact ⟨fun f q1 q2 => (ft8 _ f (by unfold w_X4_become; omega)).trans (o.1 f q1 q2), fun f q1 q2 => ⟨(ft8 _ f (by unfold w_X4_become; omega)).trans (o.2 f q1 q2).1, (ft8 _ f (by unfold w_X4_become; omega)).trans (o.2 f q1 q2).2⟩⟩
        exact ih (jw32 (x4 + 1)) g9 (by omega) (by exact ⟨fun x p1 p2 => (ft8 120 x (by unfold w_X4_become; omega)).trans (hx0.1 x p1 p2), fun b p1 p2 => (ft8 121 b (by unfold w_X4_become; omega)).trans (hx0.2.1 b p1 p2), fun i p1 p2 => (ft8 124 i (by unfold w_X4_become; omega)).trans (hx0.2.2.1 i p1 p2), (ft8 119 6 (by unfold w_X4_become; omega)).trans hx0.2.2.2⟩) (by exact hc12) (by omega) fg9 (by omega)
  refine jGo_blk qX10_become_0 ?_
  refine st_gr jo_29 jr_29_0 ?_
  refine st_gr jo_119 jr_119_0 ?_
  refine st_cp jo_120 jo_30 (show 0 ≤ 0 by omega) (show 0 ≤ 0 by omega) (show 0 ≤ 6 by omega) (show 0 + 6 ≤ ((6 : Nat) : Int) by omega) (show 0 + 6 ≤ ((6 : Nat) : Int) by omega) rfl (fun hg j _ _ => (jba_120 _ _).2 (jbd_int (by rw [jo_30.2.2]; decide) (hg _ _))) (fun g13 eg13 => ?_)
  replace eg13 : g13 = jcp h 30 0 120 0 6 := eg13
  have fg13 : jfr w_X10_become_119_29_34 h g13 := jfr_cp f0 eg13 (fun _ => by unfold w_X10_become_119_29_34; omega)
  refine st_gr jo_29 jr_29_1 ?_
  refine st_gr jo_119 jr_119_1 ?_
  refine st_cp jo_121 jo_31 (show 0 ≤ 0 by omega) (show 0 ≤ 0 by omega) (show 0 ≤ 6 by omega) (show 0 + 6 ≤ ((6 : Nat) : Int) by omega) (show 0 + 6 ≤ ((6 : Nat) : Int) by omega) rfl (fun hg j _ _ => (jba_121 _ _).2 ((jba_31 _ _).1 (hg _ _))) (fun g14 eg14 => ?_)
  replace eg14 : g14 = jcp g13 31 0 121 0 6 := eg14
  have fg14 : jfr w_X10_become_119_29_34 h g14 := jfr_cp fg13 eg14 (fun _ => by unfold w_X10_become_119_29_34; omega)
  refine st_gr jo_119 jr_119_5 ?_
  refine st_cp jo_124 jo_34 (show 0 ≤ 0 by omega) (show 0 ≤ 0 by omega) (show 0 ≤ a3 by omega) (show 0 + a3 ≤ ((16 : Nat) : Int) by omega) (show 0 + a3 ≤ ((16 : Nat) : Int) by omega) rfl (fun hg j _ _ => (jba_124 _ _).2 ((jba_34 _ _).1 (hg _ _))) (fun g15 eg15 => ?_)
  replace eg15 : g15 = jcp g14 34 0 124 0 a3 := eg15
  have fg15 : jfr w_X10_become_119_29_34 h g15 := jfr_cp fg14 eg15 (fun _ => by unfold w_X10_become_119_29_34; omega)
  refine st_pi jo_119 (fun hx => (jbf_10_6 jo_119 _).2 (show 0 ≤ a3 ∧ a3 ≤ 16 by omega)) (fun g16 eg16 => ?_)
  replace eg16 : g16 = jup g15 119 6 a3 := eg16
  have fg16 : jfr w_X10_become_119_29_34 h g16 := jfr_up fg15 eg16 (by unfold w_X10_become_119_29_34; omega)
  have e17 : g16 119 6 = a3 := jup_s eg16
  show jGo E l 142 229 229 _ 49 [.inr (.inr (.inl 119)), .inr (.inr (.inl 29)), .inr (.inr (.inl 34)), .inl a3, .inl 0] [] 229 jr0 g16
  exact (key 1000000000000) 0 g16 (by omega) (by exact ⟨fun x p1 p2 => ((((jup_o eg16 (by omega)).trans ((jcp_o eg15 (by omega)).trans (jcp_o eg14 (by omega))))).trans (jcp_s eg13 p1 (by omega))).trans (congrArg (h 30) (by omega)), fun b p1 p2 => ((((jup_o eg16 (by omega)).trans (jcp_o eg15 (by omega)))).trans ((jcp_s eg14 p1 (by omega)).trans ((jcp_o eg13 (by omega))))).trans (congrArg (h 31) (by omega)), fun i p1 p2 => (((jup_o eg16 (by omega))).trans ((jcp_s eg15 p1 (by omega)).trans (((jcp_o eg14 (by omega)).trans (jcp_o eg13 (by omega)))))).trans (congrArg (h 34) (by omega)), jup_s eg16⟩) (by exact fun i p1 p2 => absurd p2 (by omega)) (by omega) fg16 (by omega)
