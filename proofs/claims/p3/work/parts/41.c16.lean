def w_X6_offer (i k : Int) : Prop := (i = 99)
def k_X6_offer (a1 : Int) (a2 : Int) (h : JH) (v : Option JV) (r' g : JH) : Prop := r' = jr0 ∧ jfr w_X6_offer h g ∧ v = none ∧ (jLok a2 g)
set_option maxHeartbeats 4000000 in
theorem c_X6_offer {E : JE} {l : Launch} (a1 : Int) (a2 : Int) (h : JH) (p1 : 0 ≤ a1 ∧ a1 ≤ 63) (p2 : 1 ≤ a2 ∧ a2 ≤ 64) (q0 : a2 ∈ jsets) (q1 : jLok a2 h) (q2 : jDok a1 a2 h) : jMt E l 111 [.inr (.inr (.inl 97)), .inl a1, .inl a2] 229 jr0 h (k_X6_offer a1 a2 h) := by
  refine jMt0 (nL := 7) (ls := [.inr (.inr (.inl 97)), .inl a1, .inl a2, .inr (.inr (.inr ())), .inr (.inr (.inr ())), .inr (.inr (.inr ())), .inr (.inr (.inr ()))]) (by decide +kernel) (by decide +kernel) (by decide +kernel) rfl rfl ?_
  have f0 : jfr w_X6_offer h h := jfr_rf _ _
  have key : ∀ N : Nat, (∀ (x3 : Int) (x4 : JV) (x5 : JV) (x6 : JV) (g : JH), (0 ≤ x3 ∧ x3 ≤ 63) → (jLok a2 g) → jfr w_X6_offer h g → (x3 - 0) * 1000000 + 999999 < (N : Int) → jGo E l 111 229 229 (jRK (k_X6_offer a1 a2 h)) 4 [.inr (.inr (.inl 97)), .inl a1, .inl a2, .inl x3, x4, x5, x6] [] 229 jr0 g) ∧
      (∀ (x3 : Int) (x4 : Int) (x5 : Int) (x6 : JV) (g : JH), (1 ≤ a1 ∧ a1 ≤ 63 ∧ 1 ≤ x3 ∧ x3 ≤ 63 ∧ 0 ≤ x4 ∧ x4 ≤ 63 ∧ 0 ≤ x5 ∧ x5 ≤ 6) → (jLok a2 g) → (x4 = jand x3 a1) → jfr w_X6_offer h g → (x3 - 0) * 1000000 + (6 - x5) < (N : Int) → jGo E l 111 229 229 (jRK (k_X6_offer a1 a2 h)) 20 [.inr (.inr (.inl 97)), .inl a1, .inl a2, .inl x3, .inl x4, .inl x5, x6] [] 229 jr0 g) := by
    intro N
    induction N with
    | zero => exact ⟨fun _ _ _ _ _ hi hx0 _ hN => absurd hN (by omega), fun _ _ _ _ _ hi hx0 hx1 _ hN => absurd hN (by omega)⟩
    | succ N ih =>
      refine ⟨?_, ?_⟩
      · intro x3 x4 x5 x6 g hi hx0 hf hN
        refine jGo_blk qX6_offer_4 ?_
        refine And.intro (fun c1 => ?_) (fun c1 => ?_)
        · replace c1 : x3 ≤ 0 := c1
          show jGo E l 111 229 229 _ 101 [.inr (.inr (.inl 97)), .inl a1, .inl a2, .inl x3, x4, x5, x6] [] 229 jr0 g
          refine jGo_blk qX6_offer_101 ?_
          exact ⟨rfl, rfl, hf, rfl, (by exact hx0)⟩
        · replace c1 : 0 < x3 := by first | exact c1 | exact Int.not_le.mp c1 | exact Int.not_lt.mp c1 | exact Decidable.not_not.mp c1
          refine And.intro (fun c2 => ?_) (fun c2 => ?_)
          · replace c2 : a1 = 0 := c2
            show jGo E l 111 229 229 _ 101 [.inr (.inr (.inl 97)), .inl a1, .inl a2, .inl x3, x4, x5, x6] [] 229 jr0 g
            refine jGo_blk qX6_offer_101 ?_
            exact ⟨rfl, rfl, hf, rfl, (by exact hx0)⟩
          · replace c2 : ¬ a1 = 0 := by first | exact c2 | exact Int.not_le.mp c2 | exact Int.not_lt.mp c2 | exact Decidable.not_not.mp c2
            have e3 := jand_le x3 a1 (by omega) (by omega)
            show jGo E l 111 229 229 _ 20 [.inr (.inr (.inl 97)), .inl a1, .inl a2, .inl x3, .inl (jand x3 a1), .inl 0, x6] [] 229 jr0 g
            exact ih.2 x3 (jand x3 a1) 0 x6 g (by omega) (by exact hx0) (by first | rfl | assumption) hf (by omega)
      · intro x3 x4 x5 x6 g hi hx0 hx1 hf hN
        refine jGo_blk qX6_offer_20 ?_
        refine And.intro (fun c4 => ?_) (fun c4 => ?_)
        · replace c4 : 6 ≤ x5 := c4
          show jGo E l 111 229 229 _ 95 [.inr (.inr (.inl 97)), .inl a1, .inl a2, .inl x3, .inl x4, .inl x5, x6] [] 229 jr0 g
          refine jGo_blk qX6_offer_95 ?_
          have e5 : jw32 (x3 + (-1)) = x3 + (-1) := j32e (by omega) (by omega)
          show jGo E l 111 229 229 _ 4 [.inr (.inr (.inl 97)), .inl a1, .inl a2, .inl (jw32 (x3 + (-1))), .inl x4, .inl x5, x6] [] 229 jr0 g
          exact ih.1 (jw32 (x3 + (-1))) (.inl x4) (.inl x5) x6 g (by omega) (by exact hx0) hf (by omega)
        · replace c4 : x5 < 6 := by first | exact c4 | exact Int.not_le.mp c4 | exact Int.not_lt.mp c4 | exact Decidable.not_not.mp c4
          have e6 := jshl1_5 x5 (by omega) (by omega)
          have e7 := jand_le x4 (jshl 1 x5) (by omega) (by omega)
          refine And.intro (fun c8 => ?_) (fun c8 => ?_)
          · replace c8 : jand x4 (jshl 1 x5) = 0 := c8
            show jGo E l 111 229 229 _ 89 [.inr (.inr (.inl 97)), .inl a1, .inl a2, .inl x3, .inl x4, .inl x5, .inl (jshl 1 x5)] [] 229 jr0 g
            refine jGo_blk qX6_offer_89 ?_
            have e9 : jw32 (x5 + 1) = x5 + 1 := j32e (by omega) (by omega)
            show jGo E l 111 229 229 _ 20 [.inr (.inr (.inl 97)), .inl a1, .inl a2, .inl x3, .inl x4, .inl (jw32 (x5 + 1)), .inl (jshl 1 x5)] [] 229 jr0 g
            exact ih.2 x3 x4 (jw32 (x5 + 1)) (.inl (jshl 1 x5)) g (by omega) (by exact hx0) (by first | rfl | assumption) hf (by omega)
          · replace c8 : ¬ jand x4 (jshl 1 x5) = 0 := by first | exact c8 | exact Int.not_le.mp c8 | exact Int.not_lt.mp c8 | exact Decidable.not_not.mp c8
            refine st_gr jo_97 jr_97_3 ?_
            have e10 := jxor63 x3 (jshl 1 x5) (by omega) (by omega) (by omega) (by omega)
            refine st_li jo_99 (show 0 ≤ jxor x3 (jshl 1 x5) by omega) (show jxor x3 (jshl 1 x5) < ((64 : Nat) : Int) by omega) (fun v11 ev11 b12 => ?_)
            replace ev11 : v11 = g 99 (jxor x3 (jshl 1 x5)) := ev11
            have e13 := jlc_u v11 4611686018427387904
            refine And.intro (fun c14 => ?_) (fun c14 => ?_)
            · replace c14 : jlc v11 4611686018427387904 = 0 := c14
              show jGo E l 111 229 229 _ 89 [.inr (.inr (.inl 97)), .inl a1, .inl a2, .inl x3, .inl x4, .inl x5, .inl (jshl 1 x5)] [] 229 jr0 g
              refine jGo_blk qX6_offer_89 ?_
              have e15 : jw32 (x5 + 1) = x5 + 1 := j32e (by omega) (by omega)
              show jGo E l 111 229 229 _ 20 [.inr (.inr (.inl 97)), .inl a1, .inl a2, .inl x3, .inl x4, .inl (jw32 (x5 + 1)), .inl (jshl 1 x5)] [] 229 jr0 g
              exact ih.2 x3 x4 (jw32 (x5 + 1)) (.inl (jshl 1 x5)) g (by omega) (by exact hx0) (by first | rfl | assumption) hf (by omega)
            · replace c14 : ¬ jlc v11 4611686018427387904 = 0 := by first | exact c14 | exact Int.not_le.mp c14 | exact Int.not_lt.mp c14 | exact Decidable.not_not.mp c14
              refine st_gr jo_97 jr_97_3 ?_
              refine st_gr jo_97 jr_97_3 ?_
              refine st_li jo_99 (show 0 ≤ x3 by omega) (show x3 < ((64 : Nat) : Int) by omega) (fun v16 ev16 b17 => ?_)
              replace ev16 : v16 = g 99 x3 := ev16
              refine st_gr jo_97 jr_97_3 ?_
              have e18 := jxor63 x3 (jshl 1 x5) (by omega) (by omega) (by omega) (by omega)
              refine st_li jo_99 (show 0 ≤ jxor x3 (jshl 1 x5) by omega) (show jxor x3 (jshl 1 x5) < ((64 : Nat) : Int) by omega) (fun v19 ev19 b20 => ?_)
              replace ev19 : v19 = g 99 (jxor x3 (jshl 1 x5)) := ev19
              refine st_gr jo_97 jr_97_4 ?_
              refine st_li jo_100 (show 0 ≤ x5 by omega) (show x5 < ((6 : Nat) : Int) by omega) (fun v21 ev21 b22 => ?_)
              replace ev21 : v21 = g 100 x5 := ev21
              have hbt := jm_bit x3 a1 x5 (by omega) (by omega) (by omega) (by omega) (by omega) (by omega) (by rw [← hx1]; assumption)
              have hD := q2 x5 (by omega) (by omega) hbt.2
              have hst := jm_step a2 x3 x5 q0 (by omega) (by omega) (by omega) (by omega) hbt.1 hD.1
              have hxr := jxor63 x3 (jshl 1 x5) (by omega) (by omega) (by omega) (by omega)
              have hl1 := hx0 (jxor x3 (jshl 1 x5)) hxr.1 hxr.2
              have hl2 := hx0 x3 (by omega) (by omega)
              have h100 : g 100 x5 = h 100 x5 := hf 100 x5 (by unfold w_X6_offer; omega)
              have hlb := jLs_b a2 x3 q0 (by omega) (by omega)
              have hkb := jlk_b x5 (by omega) (by omega)
              have hD2 := hD.2; clear hD
              have e23 : jw64 (v19 + v21) = v19 + v21 := j64e (by omega) (by omega)
              refine st_m3 rfl (fun v24 m1v24 m2v24 m3v24 => ?_)
              replace m1v24 : v24 ≤ v16 := m1v24; replace m2v24 : v24 ≤ jw64 (v19 + v21) := m2v24; replace m3v24 : v24 = v16 ∨ v24 = jw64 (v19 + v21) := m3v24
              refine st_sl jo_99 (show 0 ≤ x3 by omega) (show x3 < ((64 : Nat) : Int) by omega) (fun hx => (jba_99 _ _).2 hx) (fun g25 eg25 => ?_)
              replace eg25 : g25 = jup g 99 x3 v24 := eg25
              have fg25 : jfr w_X6_offer h g25 := jfr_up hf eg25 (by unfold w_X6_offer; omega)
              show jGo E l 111 229 229 _ 89 [.inr (.inr (.inl 97)), .inl a1, .inl a2, .inl x3, .inl x4, .inl x5, .inl (jshl 1 x5)] [] 229 jr0 g25
              refine jGo_blk qX6_offer_89 ?_
              have e26 : jw32 (x5 + 1) = x5 + 1 := j32e (by omega) (by omega)
              show jGo E l 111 229 229 _ 20 [.inr (.inr (.inl 97)), .inl a1, .inl a2, .inl x3, .inl x4, .inl (jw32 (x5 + 1)), .inl (jshl 1 x5)] [] 229 jr0 g25
              exact ih.2 x3 x4 (jw32 (x5 + 1)) (.inl (jshl 1 x5)) g25 (by omega) (by exact jLok_up hx0 eg25 (by omega)) (by first | rfl | assumption) fg25 (by omega)
  refine jGo_blk qX6_offer_0 ?_
  have e27 : jw32 (a2 - 1) = a2 - 1 := j32e (by omega) (by omega)
  show jGo E l 111 229 229 _ 4 [.inr (.inr (.inl 97)), .inl a1, .inl a2, .inl (jw32 (a2 - 1)), .inr (.inr (.inr ())), .inr (.inr (.inr ())), .inr (.inr (.inr ()))] [] 229 jr0 h
  exact (key 1000000000000000000).1 (jw32 (a2 - 1)) (.inr (.inr (.inr ()))) (.inr (.inr (.inr ()))) (.inr (.inr (.inr ()))) h (by omega) (by exact q1) f0 (by omega)

def w_X6_readOff (i k : Int) : Prop := (i = 98) ∨ (i = 97 ∧ 0 ≤ k ∧ k ≤ 1)
def k_X6_readOff (a1 : Int) (a2 : Int) (h : JH) (v : Option JV) (r' g : JH) : Prop := r' = jr0 ∧ jfr w_X6_readOff h g ∧ v = none ∧ (True)
set_option maxHeartbeats 4000000 in
theorem c_X6_readOff {E : JE} {l : Launch} (a1 : Int) (a2 : Int) (h : JH) (p1 : 0 ≤ a1 ∧ a1 ≤ 9223372036854775807) (p2 : 0 ≤ a2 ∧ a2 ≤ 6) : jMt E l 112 [.inr (.inr (.inl 97)), .inr (.inl a1), .inl a2] 229 jr0 h (k_X6_readOff a1 a2 h) := by
  refine jMt0 (nL := 6) (ls := [.inr (.inr (.inl 97)), .inr (.inl a1), .inr (.inr (.inr ())), .inl a2, .inr (.inr (.inr ())), .inr (.inr (.inr ()))]) (by decide +kernel) (by decide +kernel) (by decide +kernel) rfl rfl ?_
  have f0 : jfr w_X6_readOff h h := jfr_rf _ _
  have key : ∀ N : Nat, (∀ (x4 : Int) (x5 : JV) (g : JH), (0 ≤ x4 ∧ x4 ≤ 6) → jfr w_X6_readOff h g → (6 - x4) < (N : Int) → jGo E l 112 229 229 (jRK (k_X6_readOff a1 a2 h)) 22 [.inr (.inr (.inl 97)), .inr (.inl a1), .inr (.inr (.inr ())), .inl a2, .inl x4, x5] [] 229 jr0 g) := by
    intro N
    induction N with
    | zero => exact fun _ _ _ hi _ hN => absurd hN (by omega)
    | succ N ih =>
      intro x4 x5 g hi hf hN
      refine jGo_blk qX6_readOff_22 ?_
      refine And.intro (fun c1 => ?_) (fun c1 => ?_)
      · replace c1 : a2 ≤ x4 := c1
        show jGo E l 112 229 229 _ 87 [.inr (.inr (.inl 97)), .inr (.inl a1), .inr (.inr (.inr ())), .inl a2, .inl x4, x5] [] 229 jr0 g
        refine jGo_blk qX6_readOff_87 ?_
        exact ⟨rfl, rfl, hf, rfl, trivial⟩
      · replace c1 : x4 < a2 := by first | exact c1 | exact Int.not_le.mp c1 | exact Int.not_lt.mp c1 | exact Decidable.not_not.mp c1
        refine st_xl (by decide) jx_k6 (jx_l6 E) (show 0 ≤ x4 by omega) (show x4 < ((6 : Nat) : Int) by omega) (fun v2 ev2 => ?_)
        have bv2 : 1 ≤ v2 ∧ v2 ≤ 115856201 := by rw [ev2]; exact jx_w6 E x4 (by omega) (by omega)
        replace ev2 : v2 = jxv E (-6) x4 := ev2
        refine And.intro (show v2 ≠ 0 by omega) ?_
        have e3 := j64d (x := a1) (y := v2) (by omega) (by omega) (by omega)
        refine And.intro (show 41 ≠ 0 by omega) ?_
        have e4 := (jmd (x := (jw64 (a1.tdiv v2))) (y := 41) (by omega) (by omega)).2
        have e5 : jw32 ((jw64 (a1.tdiv v2)).tmod 41) = (jw64 (a1.tdiv v2)).tmod 41 := j32e (by omega) (by omega)
        refine st_gr jo_97 jr_97_2 ?_
        refine And.intro (fun c6 => ?_) (fun c6 => ?_)
        · replace c6 : ¬ jw32 ((jw64 (a1.tdiv v2)).tmod 41) = 40 := c6
          show jGo E l 112 229 229 _ 61 [.inr (.inr (.inl 97)), .inr (.inl a1), .inr (.inr (.inr ())), .inl a2, .inl x4, .inl (jw32 ((jw64 (a1.tdiv v2)).tmod 41))] [.inl x4, .inr (.inr (.inl 98))] 229 jr0 g
          refine jGo_blk qX6_readOff_61 ?_
          show jGo E l 112 229 229 _ 63 [.inr (.inr (.inl 97)), .inr (.inl a1), .inr (.inr (.inr ())), .inl a2, .inl x4, .inl (jw32 ((jw64 (a1.tdiv v2)).tmod 41))] [.inl (jw32 ((jw64 (a1.tdiv v2)).tmod 41)), .inl x4, .inr (.inr (.inl 98))] 229 jr0 g
          refine jGo_blk qX6_readOff_63 ?_
          refine st_si jo_98 (show 0 ≤ x4 by omega) (show x4 < ((6 : Nat) : Int) by omega) (fun hx => (jba_98 _ _).2 (show (0 ≤ jw32 ((jw64 (a1.tdiv v2)).tmod 41) ∧ jw32 ((jw64 (a1.tdiv v2)).tmod 41) ≤ 39) ∨ jw32 ((jw64 (a1.tdiv v2)).tmod 41) = -9 by omega)) (fun g7 eg7 => ?_)
          replace eg7 : g7 = jup g 98 x4 (jw32 ((jw64 (a1.tdiv v2)).tmod 41)) := eg7
          have fg7 : jfr w_X6_readOff h g7 := jfr_up hf eg7 (by unfold w_X6_readOff; omega)
          have e8 : g7 98 x4 = jw32 ((jw64 (a1.tdiv v2)).tmod 41) := jup_s eg7
          refine And.intro (fun c9 => ?_) (fun c9 => ?_)
          · replace c9 : jw32 ((jw64 (a1.tdiv v2)).tmod 41) = 40 := c9
            exfalso; omega
          · replace c9 : ¬ jw32 ((jw64 (a1.tdiv v2)).tmod 41) = 40 := by first | exact c9 | exact Int.not_le.mp c9 | exact Int.not_lt.mp c9 | exact Decidable.not_not.mp c9
            refine st_gi jo_97 (fun v10 ev10 b11 => ?_)
            replace ev10 : v10 = g7 97 0 := ev10
            replace b11 := (jbf_6_0 jo_97 _).1 b11
            have e12 : g7 97 0 = g 97 0 := jup_o eg7 (by omega)
            refine st_pi jo_97 (fun hx => (jbf_6_0 jo_97 _).2 hx) (fun g13 eg13 => ?_)
            replace eg13 : g13 = jup g7 97 0 (jw32 (v10 + 1)) := eg13
            have fg13 : jfr w_X6_readOff h g13 := jfr_up fg7 eg13 (by unfold w_X6_readOff; omega)
            have e14 : g13 97 0 = jw32 (v10 + 1) := jup_s eg13
            show jGo E l 112 229 229 _ 81 [.inr (.inr (.inl 97)), .inr (.inl a1), .inr (.inr (.inr ())), .inl a2, .inl x4, .inl (jw32 ((jw64 (a1.tdiv v2)).tmod 41))] [] 229 jr0 g13
            refine jGo_blk qX6_readOff_81 ?_
            have e15 : jw32 (x4 + 1) = x4 + 1 := j32e (by omega) (by omega)
            show jGo E l 112 229 229 _ 22 [.inr (.inr (.inl 97)), .inr (.inl a1), .inr (.inr (.inr ())), .inl a2, .inl (jw32 (x4 + 1)), .inl (jw32 ((jw64 (a1.tdiv v2)).tmod 41))] [] 229 jr0 g13
            exact ih (jw32 (x4 + 1)) (.inl (jw32 ((jw64 (a1.tdiv v2)).tmod 41))) g13 (by omega) fg13 (by omega)
        · replace c6 : jw32 ((jw64 (a1.tdiv v2)).tmod 41) = 40 := by first | exact c6 | exact Int.not_le.mp c6 | exact Int.not_lt.mp c6 | exact Decidable.not_not.mp c6
          show jGo E l 112 229 229 _ 63 [.inr (.inr (.inl 97)), .inr (.inl a1), .inr (.inr (.inr ())), .inl a2, .inl x4, .inl (jw32 ((jw64 (a1.tdiv v2)).tmod 41))] [.inl (-9), .inl x4, .inr (.inr (.inl 98))] 229 jr0 g
          refine jGo_blk qX6_readOff_63 ?_
          refine st_si jo_98 (show 0 ≤ x4 by omega) (show x4 < ((6 : Nat) : Int) by omega) (fun hx => (jba_98 _ _).2 (show (0 ≤ (-9) ∧ (-9) ≤ 39) ∨ (-9) = -9 by omega)) (fun g16 eg16 => ?_)
          replace eg16 : g16 = jup g 98 x4 (-9) := eg16
          have fg16 : jfr w_X6_readOff h g16 := jfr_up hf eg16 (by unfold w_X6_readOff; omega)
          have e17 : g16 98 x4 = (-9) := jup_s eg16
          refine And.intro (fun c18 => ?_) (fun c18 => ?_)
          · replace c18 : jw32 ((jw64 (a1.tdiv v2)).tmod 41) = 40 := c18
            show jGo E l 112 229 229 _ 81 [.inr (.inr (.inl 97)), .inr (.inl a1), .inr (.inr (.inr ())), .inl a2, .inl x4, .inl (jw32 ((jw64 (a1.tdiv v2)).tmod 41))] [] 229 jr0 g16
            refine jGo_blk qX6_readOff_81 ?_
            have e19 : jw32 (x4 + 1) = x4 + 1 := j32e (by omega) (by omega)
            show jGo E l 112 229 229 _ 22 [.inr (.inr (.inl 97)), .inr (.inl a1), .inr (.inr (.inr ())), .inl a2, .inl (jw32 (x4 + 1)), .inl (jw32 ((jw64 (a1.tdiv v2)).tmod 41))] [] 229 jr0 g16
            exact ih (jw32 (x4 + 1)) (.inl (jw32 ((jw64 (a1.tdiv v2)).tmod 41))) g16 (by omega) fg16 (by omega)
          · replace c18 : ¬ jw32 ((jw64 (a1.tdiv v2)).tmod 41) = 40 := by first | exact c18 | exact Int.not_le.mp c18 | exact Int.not_lt.mp c18 | exact Decidable.not_not.mp c18
            exfalso; omega
  refine jGo_blk qX6_readOff_0 ?_
  refine And.intro (show 4750104241 ≠ 0 by omega) ?_
  have e20 := j64d (x := a1) (y := 4750104241) (by omega) (by omega) (by omega)
  refine And.intro (show 4096 ≠ 0 by omega) ?_
  have e21 := (jmd (x := (jw64 (a1.tdiv 4750104241))) (y := 4096) (by omega) (by omega)).2
  have e22 : jw32 ((jw64 (a1.tdiv 4750104241)).tmod 4096) = (jw64 (a1.tdiv 4750104241)).tmod 4096 := j32e (by omega) (by omega)
  refine st_pi jo_97 (fun hx => (jbf_6_1 jo_97 _).2 hx) (fun g23 eg23 => ?_)
  replace eg23 : g23 = jup h 97 1 (jw32 ((jw64 (a1.tdiv 4750104241)).tmod 4096)) := eg23
  have fg23 : jfr w_X6_readOff h g23 := jfr_up f0 eg23 (by unfold w_X6_readOff; omega)
  have e24 : g23 97 1 = jw32 ((jw64 (a1.tdiv 4750104241)).tmod 4096) := jup_s eg23
  refine st_pi jo_97 (fun hx => (jbf_6_0 jo_97 _).2 hx) (fun g25 eg25 => ?_)
  replace eg25 : g25 = jup g23 97 0 0 := eg25
  have fg25 : jfr w_X6_readOff h g25 := jfr_up fg23 eg25 (by unfold w_X6_readOff; omega)
  have e26 : g25 97 0 = 0 := jup_s eg25
  show jGo E l 112 229 229 _ 22 [.inr (.inr (.inl 97)), .inr (.inl a1), .inr (.inr (.inr ())), .inl a2, .inl 0, .inr (.inr (.inr ()))] [] 229 jr0 g25
  exact (key 1000000000000) 0 (.inr (.inr (.inr ()))) g25 (by omega) fg25 (by omega)

def w_X6_solve (i k : Int) : Prop := (98 ≤ i ∧ i ≤ 100) ∨ (i = 97 ∧ 0 ≤ k ∧ k ≤ 1)
def k_X6_solve (a3 : Int) (h : JH) (v : Option JV) (r' g : JH) : Prop := r' = jr0 ∧ jfr w_X6_solve h g ∧ v = none ∧ (True)
set_option maxHeartbeats 4000000 in
theorem c_X6_solve {E : JE} {l : Launch} (a3 : Int) (h : JH) (p3 : 0 ≤ a3 ∧ a3 ≤ 2) (q0 : jGok h) : jMt E l 113 [.inr (.inr (.inl 97)), .inr (.inr (.inl 84)), .inr (.inr (.inl 91)), .inl a3] 229 jr0 h (k_X6_solve a3 h) := by
  refine jMt0 (nL := 9) (ls := [.inr (.inr (.inl 97)), .inr (.inr (.inl 84)), .inr (.inr (.inl 91)), .inl a3, .inr (.inr (.inr ())), .inr (.inr (.inr ())), .inr (.inr (.inr ())), .inr (.inr (.inr ())), .inr (.inr (.inr ()))]) (by decide +kernel) (by decide +kernel) (by decide +kernel) rfl rfl ?_
  have f0 : jfr w_X6_solve h h := jfr_rf _ _
  refine jGo_bd (fun hbd => ?_)
  have hb0 := (jba_92 a3 _).1 (hbd 92 a3)
  have key : ∀ N : Nat, (∀ (x4 : Int) (x5 : Int) (x6 : Int) (g : JH), (0 ≤ x4 ∧ x4 ≤ 6 ∧ 1 ≤ x5 ∧ x5 ≤ 64 ∧ 0 ≤ x6 ∧ x6 ≤ 6) → ((∀ s : Int, 1 ≤ s → s ≤ 63 → g 99 s = 4611686018427387904) ∧ g 99 0 = jLi x6) → (x5 = jshl 1 x4) → (x4 = h 92 a3 ∧ x6 ≤ x4) → jfr w_X6_solve h g → (6 - x6) + 40000 < (N : Int) → jGo E l 113 229 229 (jRK (k_X6_solve a3 h)) 34 [.inr (.inr (.inl 97)), .inr (.inr (.inl 84)), .inr (.inr (.inl 91)), .inl a3, .inl x4, .inl x5, .inl x6, .inr (.inr (.inr ())), .inr (.inr (.inr ()))] [] 229 jr0 g) ∧
      (∀ (x4 : Int) (x5 : Int) (x6 : Int) (g : JH), (0 ≤ x4 ∧ x4 ≤ 6 ∧ 1 ≤ x5 ∧ x5 ≤ 64 ∧ 0 ≤ x6 ∧ x6 ≤ 40) → (jLok x5 g) → (x5 = jshl 1 x4) → (x4 = h 92 a3) → jfr w_X6_solve h g → (40 - x6) + 20000 < (N : Int) → jGo E l 113 229 229 (jRK (k_X6_solve a3 h)) 64 [.inr (.inr (.inl 97)), .inr (.inr (.inl 84)), .inr (.inr (.inl 91)), .inl a3, .inl x4, .inl x5, .inl x6, .inr (.inr (.inr ())), .inr (.inr (.inr ()))] [] 229 jr0 g) ∧
      (∀ (x4 : Int) (x5 : Int) (x6 : Int) (x8 : Int) (g : JH), (0 ≤ x4 ∧ x4 ≤ 6 ∧ 1 ≤ x5 ∧ x5 ≤ 64 ∧ 1 ≤ x8 ∧ x8 ≤ 64) → (jLok x5 g) → (x5 = jshl 1 x4) → (0 ≤ x6 ∧ x6 ≤ 4611686018427387904) → jfr w_X6_solve h g → (64 - x8) < (N : Int) → jGo E l 113 229 229 (jRK (k_X6_solve a3 h)) 114 [.inr (.inr (.inl 97)), .inr (.inr (.inl 84)), .inr (.inr (.inl 91)), .inl a3, .inl x4, .inl x5, .inr (.inl x6), .inr (.inr (.inr ())), .inl x8] [] 229 jr0 g) := by
    intro N
    induction N with
    | zero => exact ⟨fun _ _ _ _ hi hx0 hx1 hx2 _ hN => absurd hN (by omega), fun _ _ _ _ hi hx0 hx1 hx2 _ hN => absurd hN (by omega), fun _ _ _ _ _ hi hx0 hx1 hx2 _ hN => absurd hN (by omega)⟩
    | succ N ih =>
      refine ⟨?_, ?_, ?_⟩
      · intro x4 x5 x6 g hi hx0 hx1 hx2 hf hN
        refine jGo_blk qX6_solve_34 ?_
        refine And.intro (fun c1 => ?_) (fun c1 => ?_)
        · replace c1 : x4 ≤ x6 := c1
          show jGo E l 113 229 229 _ 61 [.inr (.inr (.inl 97)), .inr (.inr (.inl 84)), .inr (.inr (.inl 91)), .inl a3, .inl x4, .inl x5, .inl x6, .inr (.inr (.inr ())), .inr (.inr (.inr ()))] [] 229 jr0 g
          refine jGo_blk qX6_solve_61 ?_
          show jGo E l 113 229 229 _ 64 [.inr (.inr (.inl 97)), .inr (.inr (.inl 84)), .inr (.inr (.inl 91)), .inl a3, .inl x4, .inl x5, .inl 0, .inr (.inr (.inr ())), .inr (.inr (.inr ()))] [] 229 jr0 g
          exact ih.2.1 x4 x5 0 g (by omega) (by have hq : x6 = x4 := (by omega); rw [hx1]; exact jL0 (by omega) (by omega) (by rw [← hq]; exact hx0.2) hx0.1) (by first | rfl | assumption | omega) (by omega) hf (by omega)
        · replace c1 : x6 < x4 := by first | exact c1 | exact Int.not_le.mp c1 | exact Int.not_lt.mp c1 | exact Decidable.not_not.mp c1
          refine st_gr jo_97 jr_97_3 ?_
          refine st_li jo_99 (show 0 ≤ 0 by omega) (show 0 < ((64 : Nat) : Int) by omega) (fun v2 ev2 b3 => ?_)
          replace ev2 : v2 = g 99 0 := ev2
          refine st_cs (na := 1) (st := [.inl x6, .inr (.inl v2), .inl 0, .inr (.inr (.inl 99))]) rfl rfl rfl (c_X6_lackingNumber x6 g (by omega)) rfl ?_
          rintro _ _ _ ⟨rfl, rfl, t4, rfl, ht4, zt4⟩ kt4
          replace kt4 : -9223372036854775808 ≤ t4 ∧ t4 ≤ 9223372036854775807 := kt4
          replace ht4 : 19456426971176 ≤ t4 ∧ t4 ≤ 19461061219176 := ht4
          replace zt4 : t4 = jlk x6 := zt4
          have hlb := jLi_b x6 (by omega) (by omega)
          have hkb := jlk_b x6 (by omega) (by omega)
          have hF0 := hx0.2
          have e6 : jw64 (v2 + t4) = v2 + t4 := j64e (by omega) (by omega)
          refine st_sl jo_99 (show 0 ≤ 0 by omega) (show 0 < ((64 : Nat) : Int) by omega) (fun hx => (jba_99 _ _).2 hx) (fun g7 eg7 => ?_)
          replace eg7 : g7 = jup g 99 0 (jw64 (v2 + t4)) := eg7
          have fg7 : jfr w_X6_solve h g7 := jfr_up hf eg7 (by unfold w_X6_solve; omega)
          have e8 : jw32 (x6 + 1) = x6 + 1 := j32e (by omega) (by omega)
          show jGo E l 113 229 229 _ 34 [.inr (.inr (.inl 97)), .inr (.inr (.inl 84)), .inr (.inr (.inl 91)), .inl a3, .inl x4, .inl x5, .inl (jw32 (x6 + 1)), .inr (.inr (.inr ())), .inr (.inr (.inr ()))] [] 229 jr0 g7
          have hc9 : (∀ s : Int, 1 ≤ s → s ≤ 63 → g7 99 s = 4611686018427387904) ∧ g7 99 0 = jLi (jw32 (x6 + 1)) := by
            have hL := ((jm_sets 6 (by decide) (by decide)).2.2.2 x6 (by omega) (by omega)).2
            refine ⟨fun s h0 h1 => ?_, ?_⟩
            · rw [jup_o eg7 (by omega)]; exact hx0.1 s h0 h1
            · rw [jup_s eg7, show jw32 (x6 + 1) = x6 + 1 from j32e (by omega) (by omega), hL]; omega
          exact ih.1 x4 x5 (jw32 (x6 + 1)) g7 (by omega) (by exact hc9) (by first | rfl | assumption | omega) (by omega) fg7 (by omega)
      · intro x4 x5 x6 g hi hx0 hx1 hx2 hf hN
        have hz0 : g 92 a3 = h 92 a3 := hf 92 a3 (by unfold w_X6_solve; omega)
        have hx2x : g 92 a3 = x4 := by omega
        refine jGo_blk qX6_solve_64 ?_
        refine st_gi jo_84 (fun v10 ev10 b11 => ?_)
        replace ev10 : v10 = g 84 0 := ev10
        replace b11 := (jbf_3_0 jo_84 _).1 b11
        refine And.intro (fun c12 => ?_) (fun c12 => ?_)
        · replace c12 : v10 ≤ x6 := c12
          show jGo E l 113 229 229 _ 103 [.inr (.inr (.inl 97)), .inr (.inr (.inl 84)), .inr (.inr (.inl 91)), .inl a3, .inl x4, .inl x5, .inl x6, .inr (.inr (.inr ())), .inr (.inr (.inr ()))] [] 229 jr0 g
          refine jGo_blk qX6_solve_103 ?_
          refine st_gr jo_97 jr_97_3 ?_
          refine st_li jo_99 (show 0 ≤ 0 by omega) (show 0 < ((64 : Nat) : Int) by omega) (fun v13 ev13 b14 => ?_)
          replace ev13 : v13 = g 99 0 := ev13
          have hl0 := hx0 0 (by decide) (by decide); have hlb0 := jLs_b x5 0 (by rw [hx1]; exact (jm_sets x4 (by omega) (by omega)).1) (by decide) (by decide)
          show jGo E l 113 229 229 _ 114 [.inr (.inr (.inl 97)), .inr (.inr (.inl 84)), .inr (.inr (.inl 91)), .inl a3, .inl x4, .inl x5, .inr (.inl v13), .inr (.inr (.inr ())), .inl 1] [] 229 jr0 g
          exact ih.2.2 x4 x5 v13 1 g (by omega) (by exact hx0) (by first | rfl | assumption | omega) (by omega) hf (by omega)
        · replace c12 : x6 < v10 := by first | exact c12 | exact Int.not_le.mp c12 | exact Int.not_lt.mp c12 | exact Decidable.not_not.mp c12
          refine st_cv (na := 1) (st := [.inl x6, .inr (.inr (.inl 84))]) jo_84 rfl rfl rfl (c_X3_stands x6 g (by omega)) rfl ?_
          rintro _ _ _ ⟨rfl, rfl, t15, rfl, ht15, zt15⟩ kt15
          replace kt15 : -2147483648 ≤ t15 ∧ t15 ≤ 2147483647 := kt15
          replace ht15 : 0 ≤ t15 ∧ t15 ≤ 1 := ht15
          replace zt15 : (t15 = 1 ∧ g 88 x6 = -9) ∨ (t15 = 0 ∧ ¬ g 88 x6 = -9) := zt15
          refine And.intro (fun c17 => ?_) (fun c17 => ?_)
          · replace c17 : t15 = 0 := c17
            show jGo E l 113 229 229 _ 97 [.inr (.inr (.inl 97)), .inr (.inr (.inl 84)), .inr (.inr (.inl 91)), .inl a3, .inl x4, .inl x5, .inl x6, .inr (.inr (.inr ())), .inr (.inr (.inr ()))] [] 229 jr0 g
            refine jGo_blk qX6_solve_97 ?_
            have e18 : jw32 (x6 + 1) = x6 + 1 := j32e (by omega) (by omega)
            show jGo E l 113 229 229 _ 64 [.inr (.inr (.inl 97)), .inr (.inr (.inl 84)), .inr (.inr (.inl 91)), .inl a3, .inl x4, .inl x5, .inl (jw32 (x6 + 1)), .inr (.inr (.inr ())), .inr (.inr (.inr ()))] [] 229 jr0 g
            exact ih.2.1 x4 x5 (jw32 (x6 + 1)) g (by omega) (by exact hx0) (by first | rfl | assumption | omega) (by omega) hf (by omega)
          · replace c17 : ¬ t15 = 0 := by first | exact c17 | exact Int.not_le.mp c17 | exact Int.not_lt.mp c17 | exact Decidable.not_not.mp c17
            refine st_cv (na := 4) (st := [.inl a3, .inr (.inr (.inl 91)), .inl x6, .inr (.inr (.inl 84)), .inr (.inr (.inl 97)), .inr (.inr (.inl 97))]) jo_97 rfl rfl rfl (c_X6_fitting x6 a3 g (by omega) (by omega) (jGok_fr q0 (fun s => hf 87 s (by unfold w_X6_solve; omega)))) rfl ?_
            rintro _ _ g20 ⟨rfl, ft19, t19, rfl, ht19, zt19⟩ kt19
            replace kt19 : -2147483648 ≤ t19 ∧ t19 ≤ 2147483647 := kt19
            replace ht19 : 0 ≤ t19 ∧ t19 ≤ 63 := ht19
            have fg20 : jfr w_X6_solve h g20 := jfr_tr hf ft19 (fun i k q => by unfold w_X6_fitting at q; unfold w_X6_solve; omega)
            replace zt19 : jCok t19 (g 92 a3) g20 := zt19
            refine st_cv (na := 2) (st := [.inl x5, .inl t19, .inr (.inr (.inl 97))]) jo_97 rfl rfl rfl (c_X6_offer t19 x5 g20 (by omega) (by omega) (by rw [hx1]; exact (jm_sets x4 (by omega) (by omega)).1) (jLok_fr hx0 (fun s => ft19 99 s (by unfold w_X6_fitting; omega))) (by rw [hx1]; refine jCD (by omega) (by omega) ?_; rw [← hx2x]; exact zt19)) rfl ?_
            rintro _ _ g22 ⟨rfl, ft21, rfl, zt21⟩ kt21
            have fg22 : jfr w_X6_solve h g22 := jfr_tr fg20 ft21 (fun i k q => by unfold w_X6_offer at q; unfold w_X6_solve; omega)
            replace zt21 : jLok x5 g22 := zt21
            have hl23 : jLok x5 g22 := zt21
            show jGo E l 113 229 229 _ 97 [.inr (.inr (.inl 97)), .inr (.inr (.inl 84)), .inr (.inr (.inl 91)), .inl a3, .inl x4, .inl x5, .inl x6, .inr (.inr (.inr ())), .inr (.inr (.inr ()))] [] 229 jr0 g22
            refine jGo_blk qX6_solve_97 ?_
            have e24 : jw32 (x6 + 1) = x6 + 1 := j32e (by omega) (by omega)
            show jGo E l 113 229 229 _ 64 [.inr (.inr (.inl 97)), .inr (.inr (.inl 84)), .inr (.inr (.inl 91)), .inl a3, .inl x4, .inl x5, .inl (jw32 (x6 + 1)), .inr (.inr (.inr ())), .inr (.inr (.inr ()))] [] 229 jr0 g22
            exact ih.2.1 x4 x5 (jw32 (x6 + 1)) g22 (by omega) (by assumption) (by first | rfl | assumption | omega) (by omega) fg22 (by omega)
      · intro x4 x5 x6 x8 g hi hx0 hx1 hx2 hf hN
        refine jGo_blk qX6_solve_114 ?_
        refine And.intro (fun c25 => ?_) (fun c25 => ?_)
        · replace c25 : x5 ≤ x8 := c25
          show jGo E l 113 229 229 _ 141 [.inr (.inr (.inl 97)), .inr (.inr (.inl 84)), .inr (.inr (.inl 91)), .inl a3, .inl x4, .inl x5, .inr (.inl x6), .inr (.inr (.inr ())), .inl x8] [] 229 jr0 g
          refine jGo_blk qX6_solve_141 ?_
          refine st_cv (na := 2) (st := [.inl x4, .inr (.inl x6), .inr (.inr (.inl 97))]) jo_97 rfl rfl rfl (c_X6_readOff x6 x4 g (by omega) (by omega)) rfl ?_
          rintro _ _ g27 ⟨rfl, ft26, rfl, zt26⟩ kt26
          have fg27 : jfr w_X6_solve h g27 := jfr_tr hf ft26 (fun i k q => by unfold w_X6_readOff at q; unfold w_X6_solve; omega)
          exact ⟨rfl, rfl, fg27, rfl, trivial⟩
        · replace c25 : x8 < x5 := by first | exact c25 | exact Int.not_le.mp c25 | exact Int.not_lt.mp c25 | exact Decidable.not_not.mp c25
          refine st_gr jo_97 jr_97_3 ?_
          refine st_li jo_99 (show 0 ≤ x8 by omega) (show x8 < ((64 : Nat) : Int) by omega) (fun v28 ev28 b29 => ?_)
          replace ev28 : v28 = g 99 x8 := ev28
          have hl0 := hx0 x8 (by omega) (by omega); have hlb0 := jLs_b x5 x8 (by rw [hx1]; exact (jm_sets x4 (by omega) (by omega)).1) (by omega) (by omega)
          refine st_m3 rfl (fun v30 m1v30 m2v30 m3v30 => ?_)
          replace m1v30 : v30 ≤ x6 := m1v30; replace m2v30 : v30 ≤ v28 := m2v30; replace m3v30 : v30 = x6 ∨ v30 = v28 := m3v30
          have e31 : jw32 (x8 + 1) = x8 + 1 := j32e (by omega) (by omega)
          show jGo E l 113 229 229 _ 114 [.inr (.inr (.inl 97)), .inr (.inr (.inl 84)), .inr (.inr (.inl 91)), .inl a3, .inl x4, .inl x5, .inr (.inl v30), .inr (.inr (.inr ())), .inl (jw32 (x8 + 1))] [] 229 jr0 g
          exact ih.2.2 x4 x5 v30 (jw32 (x8 + 1)) g (by omega) (by exact hx0) (by first | rfl | assumption | omega) (by omega) hf (by omega)
  refine jGo_blk qX6_solve_0 ?_
  refine st_gr jo_91 jr_91_0 ?_
  refine st_ai jo_92 (show 0 ≤ a3 by omega) (show a3 < ((3 : Nat) : Int) by omega) (fun v32 ev32 b33 => ?_)
  replace ev32 : v32 = h 92 a3 := ev32
  replace b33 := (jba_92 a3 _).1 b33
  have e34 := jshl1_6 v32 (by omega) (by omega)
  refine st_gr jo_97 jr_97_3 ?_
  refine st_cs (na := 2) (st := [.inr (.inl 4611686018427387904), .inr (.inr (.inl 99))]) rfl rfl rfl (c_fillL 99 4611686018427387904 h jo_99 (by decide) (fun k hx => (jba_99 _ _).2 hx)) rfl ?_
  rintro _ _ g36 ⟨rfl, ft35, rfl, zt35⟩ kt35
  have fg36 : jfr w_X6_solve h g36 := jfr_tr f0 ft35 (fun i k q => by unfold w_fill at q; unfold w_X6_solve; omega)
  refine st_gr jo_97 jr_97_3 ?_
  refine st_sl jo_99 (show 0 ≤ 0 by omega) (show 0 < ((64 : Nat) : Int) by omega) (fun hx => (jba_99 _ _).2 hx) (fun g37 eg37 => ?_)
  replace eg37 : g37 = jup g36 99 0 0 := eg37
  have fg37 : jfr w_X6_solve h g37 := jfr_up fg36 eg37 (by unfold w_X6_solve; omega)
  show jGo E l 113 229 229 _ 34 [.inr (.inr (.inl 97)), .inr (.inr (.inl 84)), .inr (.inr (.inl 91)), .inl a3, .inl v32, .inl (jshl 1 v32), .inl 0, .inr (.inr (.inr ())), .inr (.inr (.inr ()))] [] 229 jr0 g37
  have hc38 : (∀ s : Int, 1 ≤ s → s ≤ 63 → g37 99 s = 4611686018427387904) ∧ g37 99 0 = jLi 0 := by
    refine ⟨fun s h0 h1 => ?_, ?_⟩
    · rw [jup_o eg37 (by omega)]; exact zt35 s (by omega) (show s < ((64 : Nat) : Int) by omega)
    · rw [jup_s eg37]; decide +kernel
  exact (key 1000000000000).1 v32 (jshl 1 v32) 0 g37 (by omega) (by exact hc38) (by first | rfl | assumption | omega) (by omega) fg37 (by omega)

def w_X11_match (i k : Int) : Prop := (i = 1) ∨ (98 ≤ i ∧ i ≤ 100) ∨ (i = 97 ∧ 0 ≤ k ∧ k ≤ 1)
def k_X11_match (a1 : Int) (a2 : Int) (h : JH) (v : Option JV) (r' g : JH) : Prop := r' = jr0 ∧ jfr w_X11_match h g ∧ ∃ x : Int, v = some (.inl x) ∧ (True) ∧ (True)
set_option maxHeartbeats 4000000 in
theorem c_X11_match {E : JE} {l : Launch} (a1 : Int) (a2 : Int) (h : JH) (q0 : jGok h) : jMt E l 114 [.inr (.inr (.inl 0)), .inl a1, .inl a2] 229 jr0 h (k_X11_match a1 a2 h) := by
  refine jMt0 (nL := 4) (ls := [.inr (.inr (.inl 0)), .inl a1, .inl a2, .inr (.inr (.inr ()))]) (by decide +kernel) (by decide +kernel) (by decide +kernel) rfl rfl ?_
  have f0 : jfr w_X11_match h h := jfr_rf _ _
  refine jGo_blk qX11_match_0 ?_
  refine st_cs (na := 2) (st := [.inl 3, .inl a1]) rfl rfl rfl (c_X11_within a1 3 h) rfl ?_
  rintro _ _ _ ⟨rfl, rfl, t1, rfl, ht1, zt1⟩ kt1
  replace kt1 : -2147483648 ≤ t1 ∧ t1 ≤ 2147483647 := kt1
  replace ht1 : 0 ≤ t1 ∧ t1 ≤ 1 := ht1
  replace zt1 : (t1 = 1 ∧ 0 ≤ a1 ∧ a1 < (3 : Int)) ∨ (t1 = 0 ∧ ¬ (0 ≤ a1 ∧ a1 < (3 : Int))) := zt1
  refine And.intro (fun c3 => ?_) (fun c3 => ?_)
  · replace c3 : ¬ t1 = 0 := c3
    show jGo E l 114 229 229 _ 12 [.inr (.inr (.inl 0)), .inl a1, .inl a2, .inr (.inr (.inr ()))] [] 229 jr0 h
    refine jGo_blk qX11_match_12 ?_
    refine st_gr jo_0 jr_0_7 ?_
    refine st_gr jo_91 jr_91_0 ?_
    refine st_ai jo_92 (show 0 ≤ a1 by omega) (show a1 < ((3 : Nat) : Int) by omega) (fun v4 ev4 b5 => ?_)
    replace ev4 : v4 = h 92 a1 := ev4
    replace b5 := (jba_92 a1 _).1 b5
    have e6 : jw32 (2 + v4) = 2 + v4 := j32e (by omega) (by omega)
    refine st_cs (na := 2) (st := [.inl (jw32 (2 + v4)), .inl a2]) rfl rfl rfl (c_X11_within a2 (jw32 (2 + v4)) h) rfl ?_
    rintro _ _ _ ⟨rfl, rfl, t7, rfl, ht7, zt7⟩ kt7
    replace kt7 : -2147483648 ≤ t7 ∧ t7 ≤ 2147483647 := kt7
    replace ht7 : 0 ≤ t7 ∧ t7 ≤ 1 := ht7
    replace zt7 : (t7 = 1 ∧ 0 ≤ a2 ∧ a2 < (jw32 (2 + v4))) ∨ (t7 = 0 ∧ ¬ (0 ≤ a2 ∧ a2 < (jw32 (2 + v4)))) := zt7
    refine And.intro (fun c9 => ?_) (fun c9 => ?_)
    · replace c9 : ¬ t7 = 0 := c9
      show jGo E l 114 229 229 _ 35 [.inr (.inr (.inl 0)), .inl a1, .inl a2, .inr (.inr (.inr ()))] [] 229 jr0 h
      refine jGo_blk qX11_match_35 ?_
      show jGo E l 114 229 229 _ 36 [.inr (.inr (.inl 0)), .inl a1, .inl a2, .inr (.inr (.inr ()))] [.inl 0] 229 jr0 h
      refine jGo_blk qX11_match_36 ?_
      refine And.intro (fun c10 => ?_) (fun c10 => ?_)
      · replace c10 : (0 : Int) = 0 := c10
        show jGo E l 114 229 229 _ 47 [.inr (.inr (.inl 0)), .inl a1, .inl a2, .inl 0] [] 229 jr0 h
        refine jGo_blk qX11_match_47 ?_
        refine st_gr jo_0 jr_0_8 ?_
        refine st_gr jo_0 jr_0_6 ?_
        refine st_gr jo_0 jr_0_7 ?_
        refine st_cv (na := 3) (st := [.inl a1, .inr (.inr (.inl 91)), .inr (.inr (.inl 84)), .inr (.inr (.inl 97))]) jo_97 rfl rfl rfl (c_X6_solve a1 h (by omega) (jGok_fr q0 (fun s => f0 87 s (by unfold w_X11_match; omega)))) rfl ?_
        rintro _ _ g12 ⟨rfl, ft11, rfl, zt11⟩ kt11
        have fg12 : jfr w_X11_match h g12 := jfr_tr f0 ft11 (fun i k q => by unfold w_X6_solve at q; unfold w_X11_match; omega)
        refine And.intro (fun c14 => ?_) (fun c14 => And.intro (fun c15 => ?_) (fun c15 => ?_))
        · replace c14 : a2 = 0 := c14
          show jGo E l 114 229 229 _ 92 [.inr (.inr (.inl 0)), .inl a1, .inl a2, .inl 0] [] 229 jr0 g12
          refine jGo_blk qX11_match_92 ?_
          refine st_gr jo_0 jr_0_8 ?_
          refine st_gi jo_97 (fun v16 ev16 b17 => ?_)
          replace ev16 : v16 = g12 97 0 := ev16
          replace b17 := (jbf_6_0 jo_97 _).1 b17
          exact st_r0 (ls := []) ⟨rfl, rfl, fg12, v16, rfl, trivial, trivial⟩
        · replace c15 : a2 = 1 := c15
          show jGo E l 114 229 229 _ 100 [.inr (.inr (.inl 0)), .inl a1, .inl a2, .inl 0] [] 229 jr0 g12
          refine jGo_blk qX11_match_100 ?_
          refine st_gr jo_0 jr_0_8 ?_
          refine st_gi jo_97 (fun v18 ev18 b19 => ?_)
          replace ev18 : v18 = g12 97 1 := ev18
          replace b19 := (jbf_6_1 jo_97 _).1 b19
          exact st_r0 (ls := []) ⟨rfl, rfl, fg12, v18, rfl, trivial, trivial⟩
        · replace c14 : ¬ a2 = 0 := c14; replace c15 : ¬ a2 = 1 := c15
          show jGo E l 114 229 229 _ 108 [.inr (.inr (.inl 0)), .inl a1, .inl a2, .inl 0] [] 229 jr0 g12
          refine jGo_blk qX11_match_108 ?_
          refine st_gr jo_0 jr_0_8 ?_
          refine st_gr jo_97 jr_97_2 ?_
          have e20 : jw32 (a2 - 2) = a2 - 2 := j32e (by omega) (by omega)
          refine st_ai jo_98 (show 0 ≤ jw32 (a2 - 2) by omega) (show jw32 (a2 - 2) < ((6 : Nat) : Int) by omega) (fun v21 ev21 b22 => ?_)
          replace ev21 : v21 = g12 98 (jw32 (a2 - 2)) := ev21
          replace b22 := (jba_98 (jw32 (a2 - 2)) _).1 b22
          exact st_r0 (ls := []) ⟨rfl, rfl, fg12, v21, rfl, trivial, trivial⟩
      · replace c10 : ¬ (0 : Int) = 0 := by first | exact c10 | exact Int.not_le.mp c10 | exact Int.not_lt.mp c10 | exact Decidable.not_not.mp c10
        exfalso; omega
    · replace c9 : t7 = 0 := by first | exact c9 | exact Int.not_le.mp c9 | exact Int.not_lt.mp c9 | exact Decidable.not_not.mp c9
      show jGo E l 114 229 229 _ 36 [.inr (.inr (.inl 0)), .inl a1, .inl a2, .inr (.inr (.inr ()))] [.inl (-2)] 229 jr0 h
      refine jGo_blk qX11_match_36 ?_
      refine And.intro (fun c23 => ?_) (fun c23 => ?_)
      · replace c23 : (-2 : Int) = 0 := c23
        exfalso; omega
      · replace c23 : ¬ (-2 : Int) = 0 := by first | exact c23 | exact Int.not_le.mp c23 | exact Int.not_lt.mp c23 | exact Decidable.not_not.mp c23
        refine st_cv (na := 1) (st := [.inl (-2), .inr (.inr (.inl 0))]) jo_0 rfl rfl rfl (c_X11_refused (-2) h (by omega)) rfl ?_
        rintro _ _ g25 ⟨rfl, ft24, t24, rfl, ht24, zt24⟩ kt24
        replace kt24 : -2147483648 ≤ t24 ∧ t24 ≤ 2147483647 := kt24
        replace ht24 : -7 ≤ t24 ∧ t24 ≤ -1 := ht24
        have fg25 : jfr w_X11_match h g25 := jfr_tr f0 ft24 (fun i k q => by unfold w_X11_refused at q; unfold w_X11_match; omega)
        replace zt24 : t24 = (-2 : Int) := zt24
        exact st_r0 (ls := []) ⟨rfl, rfl, fg25, t24, rfl, trivial, trivial⟩
  · replace c3 : t1 = 0 := by first | exact c3 | exact Int.not_le.mp c3 | exact Int.not_lt.mp c3 | exact Decidable.not_not.mp c3
    show jGo E l 114 229 229 _ 36 [.inr (.inr (.inl 0)), .inl a1, .inl a2, .inr (.inr (.inr ()))] [.inl (-1)] 229 jr0 h
    refine jGo_blk qX11_match_36 ?_
    refine And.intro (fun c26 => ?_) (fun c26 => ?_)
    · replace c26 : (-1 : Int) = 0 := c26
      exfalso; omega
    · replace c26 : ¬ (-1 : Int) = 0 := by first | exact c26 | exact Int.not_le.mp c26 | exact Int.not_lt.mp c26 | exact Decidable.not_not.mp c26
      refine st_cv (na := 1) (st := [.inl (-1), .inr (.inr (.inl 0))]) jo_0 rfl rfl rfl (c_X11_refused (-1) h (by omega)) rfl ?_
      rintro _ _ g28 ⟨rfl, ft27, t27, rfl, ht27, zt27⟩ kt27
      replace kt27 : -2147483648 ≤ t27 ∧ t27 ≤ 2147483647 := kt27
      replace ht27 : -7 ≤ t27 ∧ t27 ≤ -1 := ht27
      have fg28 : jfr w_X11_match h g28 := jfr_tr f0 ft27 (fun i k q => by unfold w_X11_refused at q; unfold w_X11_match; omega)
      replace zt27 : t27 = (-1 : Int) := zt27
      exact st_r0 (ls := []) ⟨rfl, rfl, fg28, t27, rfl, trivial, trivial⟩

def k_X12_ones (a0 : Int) (h : JH) (v : Option JV) (r' g : JH) : Prop := r' = jr0 ∧ h = g ∧ ∃ x : Int, v = some (.inl x) ∧ (True) ∧ (True)
set_option maxHeartbeats 4000000 in
theorem c_X12_ones {E : JE} {l : Launch} (a0 : Int) (h : JH) (p0 : 0 ≤ a0 ∧ a0 ≤ 63) : jMt E l 116 [.inl a0] 229 jr0 h (k_X12_ones a0 h) := by
  refine jMt0 (nL := 3) (ls := [.inl a0, .inr (.inr (.inr ())), .inr (.inr (.inr ()))]) (by decide +kernel) (by decide +kernel) (by decide +kernel) rfl rfl ?_
  have key : ∀ N : Nat, (∀ (x1 : Int) (x2 : Int), (0 ≤ x2 ∧ x2 ≤ 63) → x2 < (N : Int) → jGo E l 116 229 229 (jRK (k_X12_ones a0 h)) 4 [.inl a0, .inl x1, .inl x2] [] 229 jr0 h) := by
    intro N
    induction N with
    | zero => exact fun _ _ hi hN => absurd hN (by omega)
    | succ N ih =>
      intro x1 x2 hi hN
      refine jGo_ok (fun hls _ => ?_)
      have rx1 : -2147483648 ≤ x1 ∧ x1 ≤ 2147483647 := hls (.inl x1) (by simp)
      refine jGo_blk qX12_ones_4 ?_
      refine And.intro (fun c1 => ?_) (fun c1 => ?_)
      · replace c1 : x2 ≤ 0 := c1
        show jGo E l 116 229 229 _ 21 [.inl a0, .inl x1, .inl x2] [] 229 jr0 h
        refine jGo_blk qX12_ones_21 ?_
        exact st_r0 (ls := []) ⟨rfl, rfl, rfl, x1, rfl, trivial, trivial⟩
      · replace c1 : 0 < x2 := by first | exact c1 | exact Int.not_le.mp c1 | exact Int.not_lt.mp c1 | exact Decidable.not_not.mp c1
        refine And.intro (show 2 ≠ 0 by omega) ?_
        have e2 : x2.tmod 2 = x2 % 2 ∧ 0 ≤ x2.tmod 2 ∧ x2.tmod 2 < 2 := jmd (by omega) (by omega)
        refine And.intro (show 2 ≠ 0 by omega) ?_
        have e3 : jw32 (x2.tdiv 2) = x2 / 2 := j32d (by omega) (by omega) (by omega)
        show jGo E l 116 229 229 _ 4 [.inl a0, .inl (jw32 (x1 + (x2.tmod 2))), .inl (jw32 (x2.tdiv 2))] [] 229 jr0 h
        exact ih (jw32 (x1 + (x2.tmod 2))) (jw32 (x2.tdiv 2)) (by omega) (by omega)
  refine jGo_blk qX12_ones_0 ?_
  show jGo E l 116 229 229 _ 4 [.inl a0, .inl 0, .inl a0] [] 229 jr0 h
  exact (key 1000000000000) 0 a0 (by omega) (by omega)

def k_X12_fits (a1 : Int) (a2 : Int) (h : JH) (v : Option JV) (r' g : JH) : Prop := r' = jr0 ∧ h = g ∧ ∃ x : Int, v = some (.inl x) ∧ (0 ≤ x ∧ x ≤ 1) ∧ (True)
set_option maxHeartbeats 4000000 in
theorem c_X12_fits {E : JE} {l : Launch} (a1 : Int) (a2 : Int) (h : JH) (p1 : 0 ≤ a1 ∧ a1 ≤ 39) (p2 : 0 ≤ a2 ∧ a2 ≤ 17) : jMt E l 115 [.inr (.inr (.inl 176)), .inl a1, .inl a2] 229 jr0 h (k_X12_fits a1 a2 h) := by
  refine jMt0 (nL := 4) (ls := [.inr (.inr (.inl 176)), .inl a1, .inl a2, .inr (.inr (.inr ()))]) (by decide +kernel) (by decide +kernel) (by decide +kernel) rfl rfl ?_
  refine jGo_blk qX12_fits_0 ?_
  refine st_gr jo_176 jr_176_36 ?_
  refine st_ai jo_206 (show 0 ≤ a1 by omega) (show a1 < ((40 : Nat) : Int) by omega) (fun v1 ev1 b2 => ?_)
  replace ev1 : v1 = h 206 a1 := ev1
  replace b2 := (jba_206 a1 _).1 b2
  refine st_gr jo_176 jr_176_42 ?_
  refine st_ai jo_212 (show 0 ≤ a2 by omega) (show a2 < ((18 : Nat) : Int) by omega) (fun v3 ev3 b4 => ?_)
  replace ev3 : v3 = h 212 a2 := ev3
  replace b4 := (jba_212 a2 _).1 b4
  have e5 : jw32 (v1 - v3) = v1 - v3 := j32e (by omega) (by omega)
  refine st_gr jo_176 jr_176_38 ?_
  refine st_ai jo_208 (show 0 ≤ a1 by omega) (show a1 < ((40 : Nat) : Int) by omega) (fun v6 ev6 b7 => ?_)
  replace ev6 : v6 = h 208 a1 := ev6
  replace b7 := (jba_208 a1 _).1 b7
  refine And.intro (fun c8 => ?_) (fun c8 => ?_)
  · replace c8 : 0 ≤ v6 := c8
    show jGo E l 115 229 229 _ 78 [.inr (.inr (.inl 176)), .inl a1, .inl a2, .inl (jw32 (v1 - v3))] [] 229 jr0 h
    refine jGo_blk qX12_fits_78 ?_
    show jGo E l 115 229 229 _ 79 [.inr (.inr (.inl 176)), .inl a1, .inl a2, .inl (jw32 (v1 - v3))] [.inl 0] 229 jr0 h
    refine jGo_blk qX12_fits_79 ?_
    exact st_r1 (ls := []) (show (0 : Int) = 0 ∨ (0 : Int) = 1 by omega) ⟨rfl, rfl, rfl, 0, rfl, (by omega), trivial⟩
  · replace c8 : v6 < 0 := by first | exact c8 | exact Int.not_le.mp c8 | exact Int.not_lt.mp c8 | exact Decidable.not_not.mp c8
    refine st_gr jo_176 jr_176_35 ?_
    refine st_ai jo_205 (show 0 ≤ a1 by omega) (show a1 < ((40 : Nat) : Int) by omega) (fun v9 ev9 b10 => ?_)
    replace ev9 : v9 = h 205 a1 := ev9
    replace b10 := (jba_205 a1 _).1 b10
    refine st_gr jo_176 jr_176_41 ?_
    refine st_ai jo_211 (show 0 ≤ a2 by omega) (show a2 < ((18 : Nat) : Int) by omega) (fun v11 ev11 b12 => ?_)
    replace ev11 : v11 = h 211 a2 := ev11
    replace b12 := (jba_211 a2 _).1 b12
    refine And.intro (fun c13 => ?_) (fun c13 => ?_)
    · replace c13 : ¬ v9 = v11 := c13
      show jGo E l 115 229 229 _ 78 [.inr (.inr (.inl 176)), .inl a1, .inl a2, .inl (jw32 (v1 - v3))] [] 229 jr0 h
      refine jGo_blk qX12_fits_78 ?_
      show jGo E l 115 229 229 _ 79 [.inr (.inr (.inl 176)), .inl a1, .inl a2, .inl (jw32 (v1 - v3))] [.inl 0] 229 jr0 h
      refine jGo_blk qX12_fits_79 ?_
      exact st_r1 (ls := []) (show (0 : Int) = 0 ∨ (0 : Int) = 1 by omega) ⟨rfl, rfl, rfl, 0, rfl, (by omega), trivial⟩
    · replace c13 : v9 = v11 := by first | exact c13 | exact Int.not_le.mp c13 | exact Int.not_lt.mp c13 | exact Decidable.not_not.mp c13
      refine st_gr jo_176 jr_176_43 ?_
      refine st_ai jo_213 (show 0 ≤ a2 by omega) (show a2 < ((18 : Nat) : Int) by omega) (fun v14 ev14 b15 => ?_)
      replace ev14 : v14 = h 213 a2 := ev14
      replace b15 := (jba_213 a2 _).1 b15
      refine And.intro (fun c16 => ?_) (fun c16 => ?_)
      · replace c16 : v14 < jw32 (v1 - v3) := c16
        show jGo E l 115 229 229 _ 78 [.inr (.inr (.inl 176)), .inl a1, .inl a2, .inl (jw32 (v1 - v3))] [] 229 jr0 h
        refine jGo_blk qX12_fits_78 ?_
        show jGo E l 115 229 229 _ 79 [.inr (.inr (.inl 176)), .inl a1, .inl a2, .inl (jw32 (v1 - v3))] [.inl 0] 229 jr0 h
        refine jGo_blk qX12_fits_79 ?_
        exact st_r1 (ls := []) (show (0 : Int) = 0 ∨ (0 : Int) = 1 by omega) ⟨rfl, rfl, rfl, 0, rfl, (by omega), trivial⟩
      · replace c16 : jw32 (v1 - v3) ≤ v14 := by first | exact c16 | exact Int.not_le.mp c16 | exact Int.not_lt.mp c16 | exact Decidable.not_not.mp c16
        have e17 : jw32 (-(jw32 (v1 - v3))) = -(jw32 (v1 - v3)) := j32e (by omega) (by omega)
        refine st_gr jo_176 jr_176_43 ?_
        refine st_ai jo_213 (show 0 ≤ a2 by omega) (show a2 < ((18 : Nat) : Int) by omega) (fun v18 ev18 b19 => ?_)
        replace ev18 : v18 = h 213 a2 := ev18
        replace b19 := (jba_213 a2 _).1 b19
        refine And.intro (fun c20 => ?_) (fun c20 => ?_)
        · replace c20 : v18 < jw32 (-(jw32 (v1 - v3))) := c20
          show jGo E l 115 229 229 _ 78 [.inr (.inr (.inl 176)), .inl a1, .inl a2, .inl (jw32 (v1 - v3))] [] 229 jr0 h
          refine jGo_blk qX12_fits_78 ?_
          show jGo E l 115 229 229 _ 79 [.inr (.inr (.inl 176)), .inl a1, .inl a2, .inl (jw32 (v1 - v3))] [.inl 0] 229 jr0 h
          refine jGo_blk qX12_fits_79 ?_
          exact st_r1 (ls := []) (show (0 : Int) = 0 ∨ (0 : Int) = 1 by omega) ⟨rfl, rfl, rfl, 0, rfl, (by omega), trivial⟩
        · replace c20 : jw32 (-(jw32 (v1 - v3))) ≤ v18 := by first | exact c20 | exact Int.not_le.mp c20 | exact Int.not_lt.mp c20 | exact Decidable.not_not.mp c20
          refine st_gr jo_176 jr_176_37 ?_
          refine st_ai jo_207 (show 0 ≤ a1 by omega) (show a1 < ((40 : Nat) : Int) by omega) (fun v21 ev21 b22 => ?_)
          replace ev21 : v21 = h 207 a1 := ev21
          replace b22 := (jba_207 a1 _).1 b22
          refine st_gr jo_176 jr_176_44 ?_
          refine st_ai jo_214 (show 0 ≤ a2 by omega) (show a2 < ((18 : Nat) : Int) by omega) (fun v23 ev23 b24 => ?_)
          replace ev23 : v23 = h 214 a2 := ev23
          replace b24 := (jba_214 a2 _).1 b24
          refine And.intro (fun c25 => ?_) (fun c25 => ?_)
          · replace c25 : v21 < v23 := c25
            show jGo E l 115 229 229 _ 78 [.inr (.inr (.inl 176)), .inl a1, .inl a2, .inl (jw32 (v1 - v3))] [] 229 jr0 h
            refine jGo_blk qX12_fits_78 ?_
            show jGo E l 115 229 229 _ 79 [.inr (.inr (.inl 176)), .inl a1, .inl a2, .inl (jw32 (v1 - v3))] [.inl 0] 229 jr0 h
            refine jGo_blk qX12_fits_79 ?_
            exact st_r1 (ls := []) (show (0 : Int) = 0 ∨ (0 : Int) = 1 by omega) ⟨rfl, rfl, rfl, 0, rfl, (by omega), trivial⟩
          · replace c25 : v23 ≤ v21 := by first | exact c25 | exact Int.not_le.mp c25 | exact Int.not_lt.mp c25 | exact Decidable.not_not.mp c25
            show jGo E l 115 229 229 _ 79 [.inr (.inr (.inl 176)), .inl a1, .inl a2, .inl (jw32 (v1 - v3))] [.inl 1] 229 jr0 h
            refine jGo_blk qX12_fits_79 ?_
            exact st_r1 (ls := []) (show (1 : Int) = 0 ∨ (1 : Int) = 1 by omega) ⟨rfl, rfl, rfl, 1, rfl, (by omega), trivial⟩
