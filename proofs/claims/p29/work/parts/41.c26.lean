def w_X0_write_113 (i k : Int) : Prop := (i = 15) ∨ (114 ≤ i ∧ i ≤ 117) ∨ (i = 11 ∧ k = 5)
theorem ws_X2_goOnTo__X0_write_113 (i k : Int) (q : w_X2_goOnTo i k) : w_X0_write_113 i k := by
  unfold w_X2_goOnTo at q; unfold w_X0_write_113
  rcases q with q | q
  · exact (Or.inl (by omega))
  · exact (Or.inr (Or.inr (by omega)))
def k_X0_write_113 (a1 : Int) (a2 : Int) (h : JH) (v : Option JV) (r' g : JH) : Prop := r' = jr0 ∧ jfr w_X0_write_113 h g ∧ v = none ∧ (jWri 114 a1 a2 h g)
set_option maxHeartbeats 4000000 in
theorem c_X0_write_113 {E : JE} {l : Launch} (a1 : Int) (a2 : Int) (h : JH) (p1 : 0 ≤ a1 ∧ a1 ≤ 299) (p2 : 0 ≤ a2 ∧ a2 ≤ 2400) : jMt E l 72 [.inr (.inr (.inl 113)), .inl a1, .inl a2, .inr (.inr (.inl 2)), .inr (.inr (.inl 11))] 229 jr0 h (k_X0_write_113 a1 a2 h) := by
  refine jMt0 (nL := 8) (ls := [.inr (.inr (.inl 113)), .inl a1, .inl a2, .inr (.inr (.inl 2)), .inr (.inr (.inl 11)), .inr (.inr (.inr ())), .inr (.inr (.inr ())), .inr (.inr (.inr ()))]) (by decide +kernel) (by decide +kernel) (by decide +kernel) rfl rfl ?_
  have f0 : jfr w_X0_write_113 h h := jfr_rf _ _
  have key : ∀ N : Nat, (∀ (x5 : Int) (x6 : Int) (x7 : JV) (g : JH), (0 ≤ x5 ∧ x5 ≤ 200 ∧ 0 ≤ x6 ∧ x6 ≤ 4) → (jGOP a2 h g) → (g 115 a1 = (if ¬ g 15 8 = 0 ∧ a2.tmod (g 15 8) = 0 then 0 else g 15 9) ∧ 0 ≤ g 115 a1) → (∀ c : Int, 0 ≤ c → c < x6 → g 114 (a1 * 4 + c) = jHd h c a2 ∧ 0 ≤ g 114 (a1 * 4 + c) ∧ g 114 (a1 * 4 + c) ≤ 400) → (∀ c : Int, 0 ≤ c → c < x6 → 0 ≤ jHd h c a2 * g 15 (4 + c) ∧ jHd h c a2 * g 15 (4 + c) ≤ 80000) → (g 117 a1 = jsm (fun c => jHd h c a2 * g 15 (4 + c)) (x6).toNat ∧ 0 ≤ g 117 a1 ∧ g 117 a1 ≤ 80000 * x6) → ((∀ k : Int, ¬ (a1 * 4 ≤ k ∧ k < a1 * 4 + 4) → g 114 k = h 114 k) ∧ (∀ i k : Int, 115 ≤ i → i ≤ 117 → ¬ k = a1 → g i k = h i k)) → (0 ≤ x6 ∧ x6 ≤ 4) → jfr w_X0_write_113 h g → (4 - x6) < (N : Int) → jGo E l 72 229 229 (jRK (k_X0_write_113 a1 a2 h)) 61 [.inr (.inr (.inl 113)), .inl a1, .inl a2, .inr (.inr (.inl 2)), .inr (.inr (.inl 11)), .inl x5, .inl x6, x7] [] 229 jr0 g) := by
    intro N
    induction N with
    | zero => exact fun _ _ _ _ hi hx0 hx1 hx2 hx3 hx4 hx5 hx6 _ hN => absurd hN (by omega)
    | succ N ih =>
      intro x5 x6 x7 g hi hx0 hx1 hx2 hx3 hx4 hx5 hx6 hf hN
      refine jGo_blk qX0_write_61 ?_
      refine And.intro (fun c1 => ?_) (fun c1 => ?_)
      · replace c1 : 4 ≤ x6 := c1
        show jGo E l 72 229 229 _ 135 [.inr (.inr (.inl 113)), .inl a1, .inl a2, .inr (.inr (.inl 2)), .inr (.inr (.inl 11)), .inl x5, .inl x6, x7] [] 229 jr0 g
        refine jGo_blk qX0_write_135 ?_
        have hc2 : jWri 114 a1 a2 h g := by
          have x64 : x6 = 4 := by omega
          rw [x64] at hx2 hx3 hx4
          refine ⟨hx0, hx1.1, hx2, hx3, ?_, hx1.2, hx5.1, hx5.2⟩
          rw [show g (114 + 3) a1 = g 117 a1 from rfl, hx4.1]
          show 0 + jHd h (0 : Nat) a2 * g 15 (4 + (0 : Nat)) + jHd h (1 : Nat) a2 * g 15 (4 + (1 : Nat)) + jHd h (2 : Nat) a2 * g 15 (4 + (2 : Nat)) + jHd h (3 : Nat) a2 * g 15 (4 + (3 : Nat)) = _
          rw [Int.zero_add]; rfl
        exact ⟨rfl, rfl, hf, rfl, (by exact hc2)⟩
      · replace c1 : x6 < 4 := by first | exact c1 | exact Int.not_le.mp c1 | exact Int.not_lt.mp c1 | exact Decidable.not_not.mp c1
        refine st_cv (na := 2) (st := [.inl a2, .inl x6, .inr (.inr (.inl 2))]) jo_2 rfl rfl rfl (c_X1_handsOfDay x6 a2 g (by omega) (by omega)) rfl ?_
        rintro _ _ _ ⟨rfl, rfl, t3, rfl, ht3, zt3⟩ kt3
        replace kt3 : -2147483648 ≤ t3 ∧ t3 ≤ 2147483647 := kt3
        replace ht3 : 0 ≤ t3 ∧ t3 ≤ 400 := ht3
        replace zt3 : t3 = jHd g x6 a2 ∧ -1 ≤ g 4 x6 ∧ g 4 x6 ≤ 3 ∧ (g 4 x6 < 0 ∨ g 10 (g 4 x6) ≤ 30) := zt3
        refine st_gr jo_113 jr_113_0 ?_
        have e5 : jw32 (a1 * 4) = a1 * 4 := jzj32 (by omega)
        have e6 : jw32 ((jw32 (a1 * 4)) + x6) = (jw32 (a1 * 4)) + x6 := jzj32 (by omega)
        refine st_si jo_114 (show 0 ≤ jw32 ((jw32 (a1 * 4)) + x6) by omega) (show jw32 ((jw32 (a1 * 4)) + x6) < ((1200 : Nat) : Int) by omega) (fun hx => (jba_114 _ _).2 (show 0 ≤ t3 ∧ t3 ≤ 400 by omega)) (fun g7 eg7 => ?_)
        replace eg7 : g7 = jup g 114 (jw32 ((jw32 (a1 * 4)) + x6)) t3 := eg7
        have fg7 : jfr w_X0_write_113 h g7 := jfr_up hf eg7 (by unfold w_X0_write_113; omega)
        have e8 : g7 114 (jw32 ((jw32 (a1 * 4)) + x6)) = t3 := jup_s eg7
        refine st_gr jo_113 jr_113_2 ?_
        refine st_ai jo_116 (show 0 ≤ a1 by omega) (show a1 < ((300 : Nat) : Int) by omega) (fun v9 ev9 b10 => ?_)
        replace ev9 : v9 = g7 116 a1 := ev9
        replace b10 := (jba_116 a1 _).1 b10
        refine st_cv (na := 2) (st := [.inl x6, .inl 0, .inr (.inr (.inl 11)), .inl t3, .inl v9, .inl a1, .inr (.inr (.inl 116))]) jo_11 rfl rfl rfl (c_X2_inForce 0 x6 g7 (by omega)) rfl ?_
        rintro _ _ _ ⟨rfl, rfl, t11, rfl, ht11, zt11⟩ kt11
        replace kt11 : -2147483648 ≤ t11 ∧ t11 ≤ 2147483647 := kt11
        replace ht11 : 0 ≤ t11 ∧ t11 ≤ 200 := ht11
        replace zt11 : t11 = g7 15 (jsl (0 : Int) x6) := zt11
        refine st_si jo_116 (show 0 ≤ a1 by omega) (show a1 < ((300 : Nat) : Int) by omega) (fun hx => (jba_116 _ _).2 hx) (fun g13 eg13 => ?_)
        replace eg13 : g13 = jup g7 116 a1 (jw32 (v9 + (jw32 (t3 * t11)))) := eg13
        have fg13 : jfr w_X0_write_113 h g13 := jfr_up fg7 eg13 (by unfold w_X0_write_113; omega)
        have e14 : g13 116 a1 = jw32 (v9 + (jw32 (t3 * t11))) := jup_s eg13
        refine st_gr jo_113 jr_113_3 ?_
        refine st_ai jo_117 (show 0 ≤ a1 by omega) (show a1 < ((300 : Nat) : Int) by omega) (fun v15 ev15 b16 => ?_)
        replace ev15 : v15 = g13 117 a1 := ev15
        replace b16 := (jba_117 a1 _).1 b16
        have y17 : v15 = g 117 a1 := ev15.trans ((jup_o eg13 (by first | exact fun q => absurd q.1 (by decide) | exact fun q => absurd q.2 (by decide) | omega)).trans (jup_o eg7 (by first | exact fun q => absurd q.1 (by decide) | exact fun q => absurd q.2 (by decide) | omega)))
        refine st_cv (na := 2) (st := [.inl x6, .inl 1, .inr (.inr (.inl 11)), .inl t3, .inl v15, .inl a1, .inr (.inr (.inl 117))]) jo_11 rfl rfl rfl (c_X2_inForce 1 x6 g13 (by omega)) rfl ?_
        rintro _ _ _ ⟨rfl, rfl, t18, rfl, ht18, zt18⟩ kt18
        replace kt18 : -2147483648 ≤ t18 ∧ t18 ≤ 2147483647 := kt18
        replace ht18 : 0 ≤ t18 ∧ t18 ≤ 200 := ht18
        replace zt18 : t18 = g13 15 (jsl (1 : Int) x6) := zt18
        have y20 : t18 = g 15 (4 + x6) := by
          have q9 : jsl 1 x6 = 4 + x6 := by unfold jsl; omega
          rw [zt18, q9]; exact ((jup_o eg13 (by first | exact fun q => absurd q.1 (by decide) | exact fun q => absurd q.2 (by decide) | omega)).trans (jup_o eg7 (by first | exact fun q => absurd q.1 (by decide) | exact fun q => absurd q.2 (by decide) | omega)))
        have e21 := jmul_b (a := t3) (b := t18) (A := 400) (B := 200) (by omega) (by omega) (by omega) (by omega)
        have e22 : jw32 (t3 * t18) = t3 * t18 := jzj32 (by omega)
        have e23 : jw32 (v15 + (jw32 (t3 * t18))) = v15 + (jw32 (t3 * t18)) := jzj32 (by omega)
        refine st_si jo_117 (show 0 ≤ a1 by omega) (show a1 < ((300 : Nat) : Int) by omega) (fun hx => (jba_117 _ _).2 hx) (fun g24 eg24 => ?_)
        replace eg24 : g24 = jup g13 117 a1 (jw32 (v15 + (jw32 (t3 * t18)))) := eg24
        have fg24 : jfr w_X0_write_113 h g24 := jfr_up fg13 eg24 (by unfold w_X0_write_113; omega)
        have e25 : g24 117 a1 = jw32 (v15 + (jw32 (t3 * t18))) := jup_s eg24
        have e26 : jw32 (x6 + 1) = x6 + 1 := jzj32 (by omega)
        show jGo E l 72 229 229 _ 61 [.inr (.inr (.inl 113)), .inl a1, .inl a2, .inr (.inr (.inl 2)), .inr (.inr (.inl 11)), .inl x5, .inl (jw32 (x6 + 1)), .inl t3] [] 229 jr0 g24
        have ef27 : ∀ i k : Int, 11 ≤ i → i ≤ 15 → g24 i k = g i k := fun i k p1 p2 => ((jup_o eg24 (by first | exact fun q => absurd q.1 (by decide) | exact fun q => absurd q.2 (by decide) | omega)).trans ((jup_o eg13 (by first | exact fun q => absurd q.1 (by decide) | exact fun q => absurd q.2 (by decide) | omega)).trans (jup_o eg7 (by first | exact fun q => absurd q.1 (by decide) | exact fun q => absurd q.2 (by decide) | omega))))
        have e28 : g24 15 8 = g13 15 8 := jup_o eg24 (by first | exact fun q => absurd q.1 (by decide) | exact fun q => absurd q.2 (by decide) | omega)
        have e29 : g13 15 8 = g7 15 8 := jup_o eg13 (by first | exact fun q => absurd q.1 (by decide) | exact fun q => absurd q.2 (by decide) | omega)
        have e30 : g7 15 8 = g 15 8 := jup_o eg7 (by first | exact fun q => absurd q.1 (by decide) | exact fun q => absurd q.2 (by decide) | omega)
        have e31 : g24 15 8 = g13 15 8 := jup_o eg24 (by first | exact fun q => absurd q.1 (by decide) | exact fun q => absurd q.2 (by decide) | omega)
        have e32 : g13 15 8 = g7 15 8 := jup_o eg13 (by first | exact fun q => absurd q.1 (by decide) | exact fun q => absurd q.2 (by decide) | omega)
        have e33 : g7 15 8 = g 15 8 := jup_o eg7 (by first | exact fun q => absurd q.1 (by decide) | exact fun q => absurd q.2 (by decide) | omega)
        have e34 : g24 15 9 = g13 15 9 := jup_o eg24 (by first | exact fun q => absurd q.1 (by decide) | exact fun q => absurd q.2 (by decide) | omega)
        have e35 : g13 15 9 = g7 15 9 := jup_o eg13 (by first | exact fun q => absurd q.1 (by decide) | exact fun q => absurd q.2 (by decide) | omega)
        have e36 : g7 15 9 = g 15 9 := jup_o eg7 (by first | exact fun q => absurd q.1 (by decide) | exact fun q => absurd q.2 (by decide) | omega)
        have hc37 : g24 115 a1 = (if ¬ g24 15 8 = 0 ∧ a2.tmod (g24 15 8) = 0 then 0 else g24 15 9) ∧ 0 ≤ g24 115 a1 := by
          rw [ef27 15 8 (by decide) (by decide), ef27 15 9 (by decide) (by decide), show g24 115 a1 = g 115 a1 from ((jup_o eg24 (by first | exact fun q => absurd q.1 (by decide) | exact fun q => absurd q.2 (by decide) | omega)).trans ((jup_o eg13 (by first | exact fun q => absurd q.1 (by decide) | exact fun q => absurd q.2 (by decide) | omega)).trans (jup_o eg7 (by first | exact fun q => absurd q.1 (by decide) | exact fun q => absurd q.2 (by decide) | omega))))]; exact hx1
        have y39 : t3 = jHd h x6 a2 := zt3.1.trans (jHd_c (h := h) (fun i k p1 p2 => hf i k (by unfold w_X0_write_113; omega)) (by have q9 := hf 4 x6 (by unfold w_X0_write_113; omega); omega))
        have hc38 : ∀ c : Int, 0 ≤ c → c < (jw32 (x6 + 1)) → g24 114 (a1 * 4 + c) = jHd h c a2 ∧ 0 ≤ g24 114 (a1 * 4 + c) ∧ g24 114 (a1 * 4 + c) ≤ 400 := by
          intro c p1 p2
          by_cases z : c = x6
          · have y1 : g24 114 (a1 * 4 + x6) = t3 := by
              rw [show a1 * 4 + x6 = jw32 ((jw32 (a1 * 4)) + x6) by omega]
              exact ((jup_o eg24 (by first | exact fun q => absurd q.1 (by decide) | exact fun q => absurd q.2 (by decide) | omega)).trans (jup_o eg13 (by first | exact fun q => absurd q.1 (by decide) | exact fun q => absurd q.2 (by decide) | omega))).trans (jup_s eg7)
            rw [z, y1]; exact ⟨y39, by omega, by omega⟩
          · rw [show g24 114 (a1 * 4 + c) = g 114 (a1 * 4 + c) from ((jup_o eg24 (by first | exact fun q => absurd q.1 (by decide) | exact fun q => absurd q.2 (by decide) | omega)).trans ((jup_o eg13 (by first | exact fun q => absurd q.1 (by decide) | exact fun q => absurd q.2 (by decide) | omega)).trans (jup_o eg7 (by first | exact fun q => absurd q.1 (by decide) | exact fun q => absurd q.2 (by decide) | omega))))]; exact hx2 c p1 (by omega)
        have hc40 : ∀ c : Int, 0 ≤ c → c < (jw32 (x6 + 1)) → 0 ≤ jHd h c a2 * g24 15 (4 + c) ∧ jHd h c a2 * g24 15 (4 + c) ≤ 80000 := by
          intro c p1 p2
          rw [ef27 15 (4 + c) (by decide) (by decide)]
          by_cases z : c = x6
          · rw [z, ← y20, ← y39]; exact ⟨by omega, by omega⟩
          · exact hx3 c p1 (by omega)
        have hc41 : g24 117 a1 = jsm (fun c => jHd h c a2 * g24 15 (4 + c)) ((jw32 (x6 + 1))).toNat ∧ 0 ≤ g24 117 a1 ∧ g24 117 a1 ≤ 80000 * (jw32 (x6 + 1)) := by
          have y5 : g24 117 a1 = g 117 a1 + jHd h x6 a2 * g 15 (4 + x6) := by
            rw [jup_s eg24, ← y20, ← y39]; omega
          have y6 : 0 ≤ jHd h x6 a2 * g 15 (4 + x6) ∧ jHd h x6 a2 * g 15 (4 + x6) ≤ 80000 := by rw [← y20, ← y39]; exact ⟨by omega, by omega⟩
          rw [show (fun c => jHd h c a2 * g24 15 (4 + c)) = (fun c => jHd h c a2 * g 15 (4 + c)) from funext (fun c => by rw [ef27 15 (4 + c) (by decide) (by decide)])]
          obtain ⟨n9, hn9⟩ := Int.eq_ofNat_of_zero_le (show 0 ≤ x6 by omega)
          rw [y5, show (jw32 (x6 + 1)).toNat = n9 + 1 by omega]
          have y7 := hx4; rw [show x6.toNat = n9 by omega] at y7
          refine ⟨?_, by omega, by omega⟩
          show _ = jsm (fun c => jHd h c a2 * g 15 (4 + c)) n9 + jHd h n9 a2 * g 15 (4 + n9)
          rw [← y7.1, ← hn9]
        have hc42 : (∀ k : Int, ¬ (a1 * 4 ≤ k ∧ k < a1 * 4 + 4) → g24 114 k = h 114 k) ∧ (∀ i k : Int, 115 ≤ i → i ≤ 117 → ¬ k = a1 → g24 i k = h i k) := by
          exact ⟨fun k p => (show g24 114 k = g 114 k from ((jup_o eg24 (by first | exact fun q => absurd q.1 (by decide) | exact fun q => absurd q.2 (by decide) | omega)).trans ((jup_o eg13 (by first | exact fun q => absurd q.1 (by decide) | exact fun q => absurd q.2 (by decide) | omega)).trans (jup_o eg7 (by first | exact fun q => absurd q.1 (by decide) | exact fun q => absurd q.2 (by decide) | omega))))).trans (hx5.1 k p), fun i k p1 p2 p3 => (show g24 i k = g i k from ((jup_o eg24 (by first | exact fun q => absurd q.1 (by decide) | exact fun q => absurd q.2 (by decide) | omega)).trans ((jup_o eg13 (by first | exact fun q => absurd q.1 (by decide) | exact fun q => absurd q.2 (by decide) | omega)).trans (jup_o eg7 (by first | exact fun q => absurd q.1 (by decide) | exact fun q => absurd q.2 (by decide) | omega))))).trans (hx5.2 i k p1 p2 p3)⟩
        exact ih x5 (jw32 (x6 + 1)) (.inl t3) g24 (by omega) (by exact jGOP_fr ef27 hx0) (by exact hc37) (by exact hc38) (by exact hc40) (by exact hc41) (by exact hc42) (by omega) fg24 (by omega)
  refine jGo_blk qX0_write_0 ?_
  refine st_cv (na := 1) (st := [.inl a2, .inr (.inr (.inl 11))]) jo_11 rfl rfl rfl (c_X2_goOnTo a2 h) rfl ?_
  rintro _ _ g44 ⟨rfl, ft43, rfl, zt43⟩ kt43
  have fg44 : jfr w_X0_write_113 h g44 := jfr_tr f0 ft43 ws_X2_goOnTo__X0_write_113
  replace zt43 : jGOP a2 h g44 := zt43
  refine st_cv (na := 2) (st := [.inl 0, .inl 2, .inr (.inr (.inl 11))]) jo_11 rfl rfl rfl (c_X2_inForce 2 0 g44 (by omega)) rfl ?_
  rintro _ _ _ ⟨rfl, rfl, t45, rfl, ht45, zt45⟩ kt45
  replace kt45 : -2147483648 ≤ t45 ∧ t45 ≤ 2147483647 := kt45
  replace ht45 : 0 ≤ t45 ∧ t45 ≤ 200 := ht45
  replace zt45 : t45 = g44 15 (jsl (2 : Int) (0 : Int)) := zt45
  refine st_gr jo_113 jr_113_1 ?_
  refine And.intro (fun c47 => ?_) (fun c47 => ?_)
  · replace c47 : t45 = 0 := c47
    show jGo E l 72 229 229 _ 36 [.inr (.inr (.inl 113)), .inl a1, .inl a2, .inr (.inr (.inl 2)), .inr (.inr (.inl 11)), .inl t45, .inr (.inr (.inr ())), .inr (.inr (.inr ()))] [.inl a1, .inr (.inr (.inl 115))] 229 jr0 g44
    refine jGo_blk qX0_write_36 ?_
    refine st_cv (na := 2) (st := [.inl 0, .inl 3, .inr (.inr (.inl 11)), .inl a1, .inr (.inr (.inl 115))]) jo_11 rfl rfl rfl (c_X2_inForce 3 0 g44 (by omega)) rfl ?_
    rintro _ _ _ ⟨rfl, rfl, t48, rfl, ht48, zt48⟩ kt48
    replace kt48 : -2147483648 ≤ t48 ∧ t48 ≤ 2147483647 := kt48
    replace ht48 : 0 ≤ t48 ∧ t48 ≤ 200 := ht48
    replace zt48 : t48 = g44 15 (jsl (3 : Int) (0 : Int)) := zt48
    show jGo E l 72 229 229 _ 43 [.inr (.inr (.inl 113)), .inl a1, .inl a2, .inr (.inr (.inl 2)), .inr (.inr (.inl 11)), .inl t45, .inr (.inr (.inr ())), .inr (.inr (.inr ()))] [.inl t48, .inl a1, .inr (.inr (.inl 115))] 229 jr0 g44
    refine jGo_blk qX0_write_43 ?_
    refine st_si jo_115 (show 0 ≤ a1 by omega) (show a1 < ((300 : Nat) : Int) by omega) (fun hx => (jba_115 _ _).2 (show 0 ≤ t48 ∧ t48 ≤ 200 by omega)) (fun g50 eg50 => ?_)
    replace eg50 : g50 = jup g44 115 a1 t48 := eg50
    have fg50 : jfr w_X0_write_113 h g50 := jfr_up fg44 eg50 (by unfold w_X0_write_113; omega)
    have e51 : g50 115 a1 = t48 := jup_s eg50
    refine st_gr jo_113 jr_113_2 ?_
    refine st_si jo_116 (show 0 ≤ a1 by omega) (show a1 < ((300 : Nat) : Int) by omega) (fun hx => (jba_116 _ _).2 hx) (fun g52 eg52 => ?_)
    replace eg52 : g52 = jup g50 116 a1 0 := eg52
    have fg52 : jfr w_X0_write_113 h g52 := jfr_up fg50 eg52 (by unfold w_X0_write_113; omega)
    have e53 : g52 116 a1 = 0 := jup_s eg52
    refine st_gr jo_113 jr_113_3 ?_
    refine st_si jo_117 (show 0 ≤ a1 by omega) (show a1 < ((300 : Nat) : Int) by omega) (fun hx => (jba_117 _ _).2 hx) (fun g54 eg54 => ?_)
    replace eg54 : g54 = jup g52 117 a1 0 := eg54
    have fg54 : jfr w_X0_write_113 h g54 := jfr_up fg52 eg54 (by unfold w_X0_write_113; omega)
    have e55 : g54 117 a1 = 0 := jup_s eg54
    show jGo E l 72 229 229 _ 61 [.inr (.inr (.inl 113)), .inl a1, .inl a2, .inr (.inr (.inl 2)), .inr (.inr (.inl 11)), .inl t45, .inl 0, .inr (.inr (.inr ()))] [] 229 jr0 g54
    have ef56 : ∀ i k : Int, 11 ≤ i → i ≤ 15 → g54 i k = g44 i k := fun i k p1 p2 => ((jup_o eg54 (by first | exact fun q => absurd q.1 (by decide) | exact fun q => absurd q.2 (by decide) | omega)).trans ((jup_o eg52 (by first | exact fun q => absurd q.1 (by decide) | exact fun q => absurd q.2 (by decide) | omega)).trans (jup_o eg50 (by first | exact fun q => absurd q.1 (by decide) | exact fun q => absurd q.2 (by decide) | omega))))
    have e57 : g54 15 8 = g52 15 8 := jup_o eg54 (by first | exact fun q => absurd q.1 (by decide) | exact fun q => absurd q.2 (by decide) | omega)
    have e58 : g52 15 8 = g50 15 8 := jup_o eg52 (by first | exact fun q => absurd q.1 (by decide) | exact fun q => absurd q.2 (by decide) | omega)
    have e59 : g50 15 8 = g44 15 8 := jup_o eg50 (by first | exact fun q => absurd q.1 (by decide) | exact fun q => absurd q.2 (by decide) | omega)
    have e60 : g54 15 8 = g52 15 8 := jup_o eg54 (by first | exact fun q => absurd q.1 (by decide) | exact fun q => absurd q.2 (by decide) | omega)
    have e61 : g52 15 8 = g50 15 8 := jup_o eg52 (by first | exact fun q => absurd q.1 (by decide) | exact fun q => absurd q.2 (by decide) | omega)
    have e62 : g50 15 8 = g44 15 8 := jup_o eg50 (by first | exact fun q => absurd q.1 (by decide) | exact fun q => absurd q.2 (by decide) | omega)
    have e63 : g54 15 9 = g52 15 9 := jup_o eg54 (by first | exact fun q => absurd q.1 (by decide) | exact fun q => absurd q.2 (by decide) | omega)
    have e64 : g52 15 9 = g50 15 9 := jup_o eg52 (by first | exact fun q => absurd q.1 (by decide) | exact fun q => absurd q.2 (by decide) | omega)
    have e65 : g50 15 9 = g44 15 9 := jup_o eg50 (by first | exact fun q => absurd q.1 (by decide) | exact fun q => absurd q.2 (by decide) | omega)
    have hc66 : g54 115 a1 = (if ¬ g54 15 8 = 0 ∧ a2.tmod (g54 15 8) = 0 then 0 else g54 15 9) ∧ 0 ≤ g54 115 a1 := by
      have y1 : g54 115 a1 = t48 := ((jup_o eg54 (by first | exact fun q => absurd q.1 (by decide) | exact fun q => absurd q.2 (by decide) | omega)).trans (jup_o eg52 (by first | exact fun q => absurd q.1 (by decide) | exact fun q => absurd q.2 (by decide) | omega))).trans (jup_s eg50)
      have y2 : g54 15 8 = t45 := (ef56 15 8 (by decide) (by decide)).trans zt45.symm
      rw [y1, y2]
      have y3 : g54 15 9 = t48 := (ef56 15 9 (by decide) (by decide)).trans zt48.symm
      rw [y3]; exact ⟨(if_neg (fun q => by omega)).symm, by omega⟩
    have hc69 : g54 117 a1 = jsm (fun c => jHd h c a2 * g54 15 (4 + c)) ((0 : Int)).toNat ∧ 0 ≤ g54 117 a1 ∧ g54 117 a1 ≤ 80000 * (0 : Int) := by
      rw [jup_s eg54]; exact ⟨rfl, by omega, by omega⟩
    have hc70 : (∀ k : Int, ¬ (a1 * 4 ≤ k ∧ k < a1 * 4 + 4) → g54 114 k = h 114 k) ∧ (∀ i k : Int, 115 ≤ i → i ≤ 117 → ¬ k = a1 → g54 i k = h i k) := by
      exact ⟨fun k p => ((jup_o eg54 (by first | exact fun q => absurd q.1 (by decide) | exact fun q => absurd q.2 (by decide) | omega)).trans ((jup_o eg52 (by first | exact fun q => absurd q.1 (by decide) | exact fun q => absurd q.2 (by decide) | omega)).trans ((jup_o eg50 (by first | exact fun q => absurd q.1 (by decide) | exact fun q => absurd q.2 (by decide) | omega)).trans (ft43 114 k (by unfold w_X2_goOnTo; omega))))), fun i k p1 p2 p3 => ((jup_o eg54 (by first | exact fun q => absurd q.1 (by decide) | exact fun q => absurd q.2 (by decide) | omega)).trans ((jup_o eg52 (by first | exact fun q => absurd q.1 (by decide) | exact fun q => absurd q.2 (by decide) | omega)).trans ((jup_o eg50 (by first | exact fun q => absurd q.1 (by decide) | exact fun q => absurd q.2 (by decide) | omega)).trans (ft43 i k (by unfold w_X2_goOnTo; omega)))))⟩
    exact (key 1000000000000) t45 0 (.inr (.inr (.inr ()))) g54 (by omega) (by exact jGOP_fr ef56 zt43) (by exact hc66) (by exact fun c p1 p2 => absurd p2 (by omega)) (by exact fun c p1 p2 => absurd p2 (by omega)) (by exact hc69) (by exact hc70) (by omega) fg54 (by omega)
  · replace c47 : ¬ t45 = 0 := by first | exact c47 | exact Int.not_le.mp c47 | exact Int.not_lt.mp c47 | exact Decidable.not_not.mp c47
    refine And.intro (show t45 ≠ 0 by omega) ?_
    have e71 : True ∧ 0 ≤ a2.tmod t45 ∧ a2.tmod t45 < t45 := ⟨trivial, (jmd (by omega) (by omega)).2⟩
    refine And.intro (fun c72 => ?_) (fun c72 => ?_)
    · replace c72 : ¬ a2.tmod t45 = 0 := c72
      show jGo E l 72 229 229 _ 36 [.inr (.inr (.inl 113)), .inl a1, .inl a2, .inr (.inr (.inl 2)), .inr (.inr (.inl 11)), .inl t45, .inr (.inr (.inr ())), .inr (.inr (.inr ()))] [.inl a1, .inr (.inr (.inl 115))] 229 jr0 g44
      refine jGo_blk qX0_write_36 ?_
      refine st_cv (na := 2) (st := [.inl 0, .inl 3, .inr (.inr (.inl 11)), .inl a1, .inr (.inr (.inl 115))]) jo_11 rfl rfl rfl (c_X2_inForce 3 0 g44 (by omega)) rfl ?_
      rintro _ _ _ ⟨rfl, rfl, t73, rfl, ht73, zt73⟩ kt73
      replace kt73 : -2147483648 ≤ t73 ∧ t73 ≤ 2147483647 := kt73
      replace ht73 : 0 ≤ t73 ∧ t73 ≤ 200 := ht73
      replace zt73 : t73 = g44 15 (jsl (3 : Int) (0 : Int)) := zt73
      show jGo E l 72 229 229 _ 43 [.inr (.inr (.inl 113)), .inl a1, .inl a2, .inr (.inr (.inl 2)), .inr (.inr (.inl 11)), .inl t45, .inr (.inr (.inr ())), .inr (.inr (.inr ()))] [.inl t73, .inl a1, .inr (.inr (.inl 115))] 229 jr0 g44
      refine jGo_blk qX0_write_43 ?_
      refine st_si jo_115 (show 0 ≤ a1 by omega) (show a1 < ((300 : Nat) : Int) by omega) (fun hx => (jba_115 _ _).2 (show 0 ≤ t73 ∧ t73 ≤ 200 by omega)) (fun g75 eg75 => ?_)
      replace eg75 : g75 = jup g44 115 a1 t73 := eg75
      have fg75 : jfr w_X0_write_113 h g75 := jfr_up fg44 eg75 (by unfold w_X0_write_113; omega)
      have e76 : g75 115 a1 = t73 := jup_s eg75
      refine st_gr jo_113 jr_113_2 ?_
      refine st_si jo_116 (show 0 ≤ a1 by omega) (show a1 < ((300 : Nat) : Int) by omega) (fun hx => (jba_116 _ _).2 hx) (fun g77 eg77 => ?_)
      replace eg77 : g77 = jup g75 116 a1 0 := eg77
      have fg77 : jfr w_X0_write_113 h g77 := jfr_up fg75 eg77 (by unfold w_X0_write_113; omega)
      have e78 : g77 116 a1 = 0 := jup_s eg77
      refine st_gr jo_113 jr_113_3 ?_
      refine st_si jo_117 (show 0 ≤ a1 by omega) (show a1 < ((300 : Nat) : Int) by omega) (fun hx => (jba_117 _ _).2 hx) (fun g79 eg79 => ?_)
      replace eg79 : g79 = jup g77 117 a1 0 := eg79
      have fg79 : jfr w_X0_write_113 h g79 := jfr_up fg77 eg79 (by unfold w_X0_write_113; omega)
      have e80 : g79 117 a1 = 0 := jup_s eg79
      show jGo E l 72 229 229 _ 61 [.inr (.inr (.inl 113)), .inl a1, .inl a2, .inr (.inr (.inl 2)), .inr (.inr (.inl 11)), .inl t45, .inl 0, .inr (.inr (.inr ()))] [] 229 jr0 g79
      have ef81 : ∀ i k : Int, 11 ≤ i → i ≤ 15 → g79 i k = g44 i k := fun i k p1 p2 => ((jup_o eg79 (by first | exact fun q => absurd q.1 (by decide) | exact fun q => absurd q.2 (by decide) | omega)).trans ((jup_o eg77 (by first | exact fun q => absurd q.1 (by decide) | exact fun q => absurd q.2 (by decide) | omega)).trans (jup_o eg75 (by first | exact fun q => absurd q.1 (by decide) | exact fun q => absurd q.2 (by decide) | omega))))
      have e82 : g79 15 8 = g77 15 8 := jup_o eg79 (by first | exact fun q => absurd q.1 (by decide) | exact fun q => absurd q.2 (by decide) | omega)
      have e83 : g77 15 8 = g75 15 8 := jup_o eg77 (by first | exact fun q => absurd q.1 (by decide) | exact fun q => absurd q.2 (by decide) | omega)
      have e84 : g75 15 8 = g44 15 8 := jup_o eg75 (by first | exact fun q => absurd q.1 (by decide) | exact fun q => absurd q.2 (by decide) | omega)
      have e85 : g79 15 8 = g77 15 8 := jup_o eg79 (by first | exact fun q => absurd q.1 (by decide) | exact fun q => absurd q.2 (by decide) | omega)
      have e86 : g77 15 8 = g75 15 8 := jup_o eg77 (by first | exact fun q => absurd q.1 (by decide) | exact fun q => absurd q.2 (by decide) | omega)
      have e87 : g75 15 8 = g44 15 8 := jup_o eg75 (by first | exact fun q => absurd q.1 (by decide) | exact fun q => absurd q.2 (by decide) | omega)
      have e88 : g79 15 9 = g77 15 9 := jup_o eg79 (by first | exact fun q => absurd q.1 (by decide) | exact fun q => absurd q.2 (by decide) | omega)
      have e89 : g77 15 9 = g75 15 9 := jup_o eg77 (by first | exact fun q => absurd q.1 (by decide) | exact fun q => absurd q.2 (by decide) | omega)
      have e90 : g75 15 9 = g44 15 9 := jup_o eg75 (by first | exact fun q => absurd q.1 (by decide) | exact fun q => absurd q.2 (by decide) | omega)
      have hc91 : g79 115 a1 = (if ¬ g79 15 8 = 0 ∧ a2.tmod (g79 15 8) = 0 then 0 else g79 15 9) ∧ 0 ≤ g79 115 a1 := by
        have y1 : g79 115 a1 = t73 := ((jup_o eg79 (by first | exact fun q => absurd q.1 (by decide) | exact fun q => absurd q.2 (by decide) | omega)).trans (jup_o eg77 (by first | exact fun q => absurd q.1 (by decide) | exact fun q => absurd q.2 (by decide) | omega))).trans (jup_s eg75)
        have y2 : g79 15 8 = t45 := (ef81 15 8 (by decide) (by decide)).trans zt45.symm
        rw [y1, y2]
        have y3 : g79 15 9 = t73 := (ef81 15 9 (by decide) (by decide)).trans zt73.symm
        rw [y3]; exact ⟨(if_neg (fun q => by omega)).symm, by omega⟩
      have hc94 : g79 117 a1 = jsm (fun c => jHd h c a2 * g79 15 (4 + c)) ((0 : Int)).toNat ∧ 0 ≤ g79 117 a1 ∧ g79 117 a1 ≤ 80000 * (0 : Int) := by
        rw [jup_s eg79]; exact ⟨rfl, by omega, by omega⟩
      have hc95 : (∀ k : Int, ¬ (a1 * 4 ≤ k ∧ k < a1 * 4 + 4) → g79 114 k = h 114 k) ∧ (∀ i k : Int, 115 ≤ i → i ≤ 117 → ¬ k = a1 → g79 i k = h i k) := by
        exact ⟨fun k p => ((jup_o eg79 (by first | exact fun q => absurd q.1 (by decide) | exact fun q => absurd q.2 (by decide) | omega)).trans ((jup_o eg77 (by first | exact fun q => absurd q.1 (by decide) | exact fun q => absurd q.2 (by decide) | omega)).trans ((jup_o eg75 (by first | exact fun q => absurd q.1 (by decide) | exact fun q => absurd q.2 (by decide) | omega)).trans (ft43 114 k (by unfold w_X2_goOnTo; omega))))), fun i k p1 p2 p3 => ((jup_o eg79 (by first | exact fun q => absurd q.1 (by decide) | exact fun q => absurd q.2 (by decide) | omega)).trans ((jup_o eg77 (by first | exact fun q => absurd q.1 (by decide) | exact fun q => absurd q.2 (by decide) | omega)).trans ((jup_o eg75 (by first | exact fun q => absurd q.1 (by decide) | exact fun q => absurd q.2 (by decide) | omega)).trans (ft43 i k (by unfold w_X2_goOnTo; omega)))))⟩
      exact (key 1000000000000) t45 0 (.inr (.inr (.inr ()))) g79 (by omega) (by exact jGOP_fr ef81 zt43) (by exact hc91) (by exact fun c p1 p2 => absurd p2 (by omega)) (by exact fun c p1 p2 => absurd p2 (by omega)) (by exact hc94) (by exact hc95) (by omega) fg79 (by omega)
    · replace c72 : a2.tmod t45 = 0 := by first | exact c72 | exact Int.not_le.mp c72 | exact Int.not_lt.mp c72 | exact Decidable.not_not.mp c72
      show jGo E l 72 229 229 _ 43 [.inr (.inr (.inl 113)), .inl a1, .inl a2, .inr (.inr (.inl 2)), .inr (.inr (.inl 11)), .inl t45, .inr (.inr (.inr ())), .inr (.inr (.inr ()))] [.inl 0, .inl a1, .inr (.inr (.inl 115))] 229 jr0 g44
      refine jGo_blk qX0_write_43 ?_
      refine st_si jo_115 (show 0 ≤ a1 by omega) (show a1 < ((300 : Nat) : Int) by omega) (fun hx => (jba_115 _ _).2 (show 0 ≤ 0 ∧ 0 ≤ 200 by omega)) (fun g96 eg96 => ?_)
      replace eg96 : g96 = jup g44 115 a1 0 := eg96
      have fg96 : jfr w_X0_write_113 h g96 := jfr_up fg44 eg96 (by unfold w_X0_write_113; omega)
      have e97 : g96 115 a1 = 0 := jup_s eg96
      refine st_gr jo_113 jr_113_2 ?_
      refine st_si jo_116 (show 0 ≤ a1 by omega) (show a1 < ((300 : Nat) : Int) by omega) (fun hx => (jba_116 _ _).2 hx) (fun g98 eg98 => ?_)
      replace eg98 : g98 = jup g96 116 a1 0 := eg98
      have fg98 : jfr w_X0_write_113 h g98 := jfr_up fg96 eg98 (by unfold w_X0_write_113; omega)
      have e99 : g98 116 a1 = 0 := jup_s eg98
      refine st_gr jo_113 jr_113_3 ?_
      refine st_si jo_117 (show 0 ≤ a1 by omega) (show a1 < ((300 : Nat) : Int) by omega) (fun hx => (jba_117 _ _).2 hx) (fun g100 eg100 => ?_)
      replace eg100 : g100 = jup g98 117 a1 0 := eg100
      have fg100 : jfr w_X0_write_113 h g100 := jfr_up fg98 eg100 (by unfold w_X0_write_113; omega)
      have e101 : g100 117 a1 = 0 := jup_s eg100
      show jGo E l 72 229 229 _ 61 [.inr (.inr (.inl 113)), .inl a1, .inl a2, .inr (.inr (.inl 2)), .inr (.inr (.inl 11)), .inl t45, .inl 0, .inr (.inr (.inr ()))] [] 229 jr0 g100
      have ef102 : ∀ i k : Int, 11 ≤ i → i ≤ 15 → g100 i k = g44 i k := fun i k p1 p2 => ((jup_o eg100 (by first | exact fun q => absurd q.1 (by decide) | exact fun q => absurd q.2 (by decide) | omega)).trans ((jup_o eg98 (by first | exact fun q => absurd q.1 (by decide) | exact fun q => absurd q.2 (by decide) | omega)).trans (jup_o eg96 (by first | exact fun q => absurd q.1 (by decide) | exact fun q => absurd q.2 (by decide) | omega))))
      have e103 : g100 15 8 = g98 15 8 := jup_o eg100 (by first | exact fun q => absurd q.1 (by decide) | exact fun q => absurd q.2 (by decide) | omega)
      have e104 : g98 15 8 = g96 15 8 := jup_o eg98 (by first | exact fun q => absurd q.1 (by decide) | exact fun q => absurd q.2 (by decide) | omega)
      have e105 : g96 15 8 = g44 15 8 := jup_o eg96 (by first | exact fun q => absurd q.1 (by decide) | exact fun q => absurd q.2 (by decide) | omega)
      have e106 : g100 15 8 = g98 15 8 := jup_o eg100 (by first | exact fun q => absurd q.1 (by decide) | exact fun q => absurd q.2 (by decide) | omega)
      have e107 : g98 15 8 = g96 15 8 := jup_o eg98 (by first | exact fun q => absurd q.1 (by decide) | exact fun q => absurd q.2 (by decide) | omega)
      have e108 : g96 15 8 = g44 15 8 := jup_o eg96 (by first | exact fun q => absurd q.1 (by decide) | exact fun q => absurd q.2 (by decide) | omega)
      have e109 : g100 15 9 = g98 15 9 := jup_o eg100 (by first | exact fun q => absurd q.1 (by decide) | exact fun q => absurd q.2 (by decide) | omega)
      have e110 : g98 15 9 = g96 15 9 := jup_o eg98 (by first | exact fun q => absurd q.1 (by decide) | exact fun q => absurd q.2 (by decide) | omega)
      have e111 : g96 15 9 = g44 15 9 := jup_o eg96 (by first | exact fun q => absurd q.1 (by decide) | exact fun q => absurd q.2 (by decide) | omega)
      have hc112 : g100 115 a1 = (if ¬ g100 15 8 = 0 ∧ a2.tmod (g100 15 8) = 0 then 0 else g100 15 9) ∧ 0 ≤ g100 115 a1 := by
        have y1 : g100 115 a1 = 0 := ((jup_o eg100 (by first | exact fun q => absurd q.1 (by decide) | exact fun q => absurd q.2 (by decide) | omega)).trans (jup_o eg98 (by first | exact fun q => absurd q.1 (by decide) | exact fun q => absurd q.2 (by decide) | omega))).trans (jup_s eg96)
        have y2 : g100 15 8 = t45 := (ef102 15 8 (by decide) (by decide)).trans zt45.symm
        rw [y1, y2]
        exact ⟨(if_pos ⟨by omega, by omega⟩).symm, Int.le_refl _⟩
      have hc115 : g100 117 a1 = jsm (fun c => jHd h c a2 * g100 15 (4 + c)) ((0 : Int)).toNat ∧ 0 ≤ g100 117 a1 ∧ g100 117 a1 ≤ 80000 * (0 : Int) := by
        rw [jup_s eg100]; exact ⟨rfl, by omega, by omega⟩
      have hc116 : (∀ k : Int, ¬ (a1 * 4 ≤ k ∧ k < a1 * 4 + 4) → g100 114 k = h 114 k) ∧ (∀ i k : Int, 115 ≤ i → i ≤ 117 → ¬ k = a1 → g100 i k = h i k) := by
        exact ⟨fun k p => ((jup_o eg100 (by first | exact fun q => absurd q.1 (by decide) | exact fun q => absurd q.2 (by decide) | omega)).trans ((jup_o eg98 (by first | exact fun q => absurd q.1 (by decide) | exact fun q => absurd q.2 (by decide) | omega)).trans ((jup_o eg96 (by first | exact fun q => absurd q.1 (by decide) | exact fun q => absurd q.2 (by decide) | omega)).trans (ft43 114 k (by unfold w_X2_goOnTo; omega))))), fun i k p1 p2 p3 => ((jup_o eg100 (by first | exact fun q => absurd q.1 (by decide) | exact fun q => absurd q.2 (by decide) | omega)).trans ((jup_o eg98 (by first | exact fun q => absurd q.1 (by decide) | exact fun q => absurd q.2 (by decide) | omega)).trans ((jup_o eg96 (by first | exact fun q => absurd q.1 (by decide) | exact fun q => absurd q.2 (by decide) | omega)).trans (ft43 i k (by unfold w_X2_goOnTo; omega)))))⟩
      exact (key 1000000000000) t45 0 (.inr (.inr (.inr ()))) g100 (by omega) (by exact jGOP_fr ef102 zt43) (by exact hc112) (by exact fun c p1 p2 => absurd p2 (by omega)) (by exact fun c p1 p2 => absurd p2 (by omega)) (by exact hc115) (by exact hc116) (by omega) fg100 (by omega)
