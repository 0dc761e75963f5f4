def w_X6_readOff (i k : Int) : Prop := (i = 98) ∨ (i = 97 ∧ 0 ≤ k ∧ k ≤ 1)
def k_X6_readOff (a1 : Int) (a2 : Int) (h : JH) (v : Option JV) (r' g : JH) : Prop := r' = jr0 ∧ jfr w_X6_readOff h g ∧ v = none ∧ (True)
set_option maxHeartbeats 4000000 in
theorem c_X6_readOff {E : JE} {l : Launch} (a1 : Int) (a2 : Int) (h : JH) (p1 : 0 ≤ a1 ∧ a1 ≤ 9223372036854775807) (p2 : 0 ≤ a2 ∧ a2 ≤ 6) : jMt E l 112 [.inr (.inr (.inl 97)), .inr (.inl a1), .inl a2] 229 jr0 h (k_X6_readOff a1 a2 h) := by
  refine jMt0 (nL := 6) (ls := [.inr (.inr (.inl 97)), .inr (.inl a1), .inr (.inr (.inr ())), .inl a2, .inr (.inr (.inr ())), .inr (.inr (.inr ()))]) (by decide +kernel) (by decide +kernel) (by decide +kernel) rfl rfl ?_
  have f0 : jfr w_X6_readOff h h := jfr_rf _ _
  have key : ∀ N : Nat, (∀ (x4 : Int) (x5 : JV) (g : JH), (0 ≤ x4 ∧ x4 ≤ 6) → jfr w_X6_readOff h g → (6 - x4) < (N : Int) → jGo E l 112 229 229 (jRK (k_X6_readOff a1 a2 h)) 22 [.inr (.inr (.inl 97)), .inr (.inl a1), .inr (.inr (.inr ())), .inl a2, .inl x4, x5] [] 229 jr0 g) := by
    intro N
    induction N with
    | zero => exact fun _ _ _ hi _ hN => absurd hN (by omega)
    | succ N ih =>
      intro x4 x5 g hi hf hN
      refine jGo_blk qX6_readOff_22 ?_
      refine And.intro (fun c1 => ?_) (fun c1 => ?_)
      · have c1 : a2 ≤ x4 := c1
        show jGo E l 112 229 229 _ 87 [.inr (.inr (.inl 97)), .inr (.inl a1), .inr (.inr (.inr ())), .inl a2, .inl x4, x5] [] 229 jr0 g
        refine jGo_blk qX6_readOff_87 ?_
        exact ⟨rfl, rfl, hf, rfl, trivial⟩
      · have c1 : x4 < a2 := by first | exact c1 | exact Int.not_le.mp c1 | exact Int.not_lt.mp c1 | exact Decidable.not_not.mp c1
        refine st_xl (by decide) jx_k6 (jx_l6 E) (show 0 ≤ x4 by omega) (show x4 < ((6 : Nat) : Int) by omega) (fun v2 ev2 => ?_)
        have bv2 : 1 ≤ v2 ∧ v2 ≤ 115856201 := by rw [ev2]; exact jx_w6 E x4 (by omega) (by omega)
        have ev2 : v2 = jxv E (-6) x4 := ev2
        refine And.intro (show v2 ≠ 0 by omega) ?_
        have e3 := j64d (x := a1) (y := v2) (by omega) (by omega) (by omega)
        refine And.intro (show 41 ≠ 0 by omega) ?_
        have e4 := (jmd (x := (jw64 (a1.tdiv v2))) (y := 41) (by omega) (by omega)).2
        have e5 : jw32 ((jw64 (a1.tdiv v2)).tmod 41) = (jw64 (a1.tdiv v2)).tmod 41 := j32e (by omega) (by omega)
        refine st_gr jo_97 jr_97_2 ?_
        refine And.intro (fun c6 => ?_) (fun c6 => ?_)
        · have c6 : ¬ jw32 ((jw64 (a1.tdiv v2)).tmod 41) = 40 := c6
          show jGo E l 112 229 229 _ 61 [.inr (.inr (.inl 97)), .inr (.inl a1), .inr (.inr (.inr ())), .inl a2, .inl x4, .inl (jw32 ((jw64 (a1.tdiv v2)).tmod 41))] [.inl x4, .inr (.inr (.inl 98))] 229 jr0 g
          refine jGo_blk qX6_readOff_61 ?_
          show jGo E l 112 229 229 _ 63 [.inr (.inr (.inl 97)), .inr (.inl a1), .inr (.inr (.inr ())), .inl a2, .inl x4, .inl (jw32 ((jw64 (a1.tdiv v2)).tmod 41))] [.inl (jw32 ((jw64 (a1.tdiv v2)).tmod 41)), .inl x4, .inr (.inr (.inl 98))] 229 jr0 g
          refine jGo_blk qX6_readOff_63 ?_
          refine st_si jo_98 (show 0 ≤ x4 by omega) (show x4 < ((6 : Nat) : Int) by omega) (fun hx => (jba_98 _ _).2 (show -9 ≤ jw32 ((jw64 (a1.tdiv v2)).tmod 41) ∧ jw32 ((jw64 (a1.tdiv v2)).tmod 41) ≤ 39 by omega)) (fun g7 eg7 => ?_)
          have eg7 : g7 = jup g 98 x4 (jw32 ((jw64 (a1.tdiv v2)).tmod 41)) := eg7
          have fg7 : jfr w_X6_readOff h g7 := jfr_up hf eg7 (by unfold w_X6_readOff; omega)
          have e8 : g7 98 x4 = jw32 ((jw64 (a1.tdiv v2)).tmod 41) := jup_s eg7
          refine And.intro (fun c9 => ?_) (fun c9 => ?_)
          · have c9 : jw32 ((jw64 (a1.tdiv v2)).tmod 41) = 40 := c9
            exfalso; omega
          · have c9 : ¬ jw32 ((jw64 (a1.tdiv v2)).tmod 41) = 40 := by first | exact c9 | exact Int.not_le.mp c9 | exact Int.not_lt.mp c9 | exact Decidable.not_not.mp c9
            refine st_gi jo_97 (fun v10 ev10 b11 => ?_)
            have ev10 : v10 = g7 97 0 := ev10
            have b11 := (jbf_6_0 jo_97 _).1 b11
            have e12 : g7 97 0 = g 97 0 := jup_o eg7 (by omega)
            refine st_pi jo_97 (fun hx => (jbf_6_0 jo_97 _).2 hx) (fun g13 eg13 => ?_)
            have eg13 : g13 = jup g7 97 0 (jw32 (v10 + 1)) := eg13
            have fg13 : jfr w_X6_readOff h g13 := jfr_up fg7 eg13 (by unfold w_X6_readOff; omega)
            have e14 : g13 97 0 = jw32 (v10 + 1) := jup_s eg13
            show jGo E l 112 229 229 _ 81 [.inr (.inr (.inl 97)), .inr (.inl a1), .inr (.inr (.inr ())), .inl a2, .inl x4, .inl (jw32 ((jw64 (a1.tdiv v2)).tmod 41))] [] 229 jr0 g13
            refine jGo_blk qX6_readOff_81 ?_
            have e15 : jw32 (x4 + 1) = x4 + 1 := j32e (by omega) (by omega)
            show jGo E l 112 229 229 _ 22 [.inr (.inr (.inl 97)), .inr (.inl a1), .inr (.inr (.inr ())), .inl a2, .inl (jw32 (x4 + 1)), .inl (jw32 ((jw64 (a1.tdiv v2)).tmod 41))] [] 229 jr0 g13
            exact ih (jw32 (x4 + 1)) (.inl (jw32 ((jw64 (a1.tdiv v2)).tmod 41))) g13 (by omega) fg13 (by omega)
        · have c6 : jw32 ((jw64 (a1.tdiv v2)).tmod 41) = 40 := by first | exact c6 | exact Int.not_le.mp c6 | exact Int.not_lt.mp c6 | exact Decidable.not_not.mp c6
          show jGo E l 112 229 229 _ 63 [.inr (.inr (.inl 97)), .inr (.inl a1), .inr (.inr (.inr ())), .inl a2, .inl x4, .inl (jw32 ((jw64 (a1.tdiv v2)).tmod 41))] [.inl (-9), .inl x4, .inr (.inr (.inl 98))] 229 jr0 g
          refine jGo_blk qX6_readOff_63 ?_
          refine st_si jo_98 (show 0 ≤ x4 by omega) (show x4 < ((6 : Nat) : Int) by omega) (fun hx => (jba_98 _ _).2 (show -9 ≤ (-9) ∧ (-9) ≤ 39 by omega)) (fun g16 eg16 => ?_)
          have eg16 : g16 = jup g 98 x4 (-9) := eg16
          have fg16 : jfr w_X6_readOff h g16 := jfr_up hf eg16 (by unfold w_X6_readOff; omega)
          have e17 : g16 98 x4 = (-9) := jup_s eg16
          refine And.intro (fun c18 => ?_) (fun c18 => ?_)
          · have c18 : jw32 ((jw64 (a1.tdiv v2)).tmod 41) = 40 := c18
            show jGo E l 112 229 229 _ 81 [.inr (.inr (.inl 97)), .inr (.inl a1), .inr (.inr (.inr ())), .inl a2, .inl x4, .inl (jw32 ((jw64 (a1.tdiv v2)).tmod 41))] [] 229 jr0 g16
            refine jGo_blk qX6_readOff_81 ?_
            have e19 : jw32 (x4 + 1) = x4 + 1 := j32e (by omega) (by omega)
            show jGo E l 112 229 229 _ 22 [.inr (.inr (.inl 97)), .inr (.inl a1), .inr (.inr (.inr ())), .inl a2, .inl (jw32 (x4 + 1)), .inl (jw32 ((jw64 (a1.tdiv v2)).tmod 41))] [] 229 jr0 g16
            exact ih (jw32 (x4 + 1)) (.inl (jw32 ((jw64 (a1.tdiv v2)).tmod 41))) g16 (by omega) fg16 (by omega)
          · have c18 : ¬ jw32 ((jw64 (a1.tdiv v2)).tmod 41) = 40 := by first | exact c18 | exact Int.not_le.mp c18 | exact Int.not_lt.mp c18 | exact Decidable.not_not.mp c18
            exfalso; omega
  refine jGo_blk qX6_readOff_0 ?_
  refine And.intro (show 4750104241 ≠ 0 by omega) ?_
  have e20 := j64d (x := a1) (y := 4750104241) (by omega) (by omega) (by omega)
  refine And.intro (show 4096 ≠ 0 by omega) ?_
  have e21 := (jmd (x := (jw64 (a1.tdiv 4750104241))) (y := 4096) (by omega) (by omega)).2
  have e22 : jw32 ((jw64 (a1.tdiv 4750104241)).tmod 4096) = (jw64 (a1.tdiv 4750104241)).tmod 4096 := j32e (by omega) (by omega)
  refine st_pi jo_97 (fun hx => (jbf_6_1 jo_97 _).2 hx) (fun g23 eg23 => ?_)
  have eg23 : g23 = jup h 97 1 (jw32 ((jw64 (a1.tdiv 4750104241)).tmod 4096)) := eg23
  have fg23 : jfr w_X6_readOff h g23 := jfr_up f0 eg23 (by unfold w_X6_readOff; omega)
  have e24 : g23 97 1 = jw32 ((jw64 (a1.tdiv 4750104241)).tmod 4096) := jup_s eg23
  refine st_pi jo_97 (fun hx => (jbf_6_0 jo_97 _).2 hx) (fun g25 eg25 => ?_)
  have eg25 : g25 = jup g23 97 0 0 := eg25
  have fg25 : jfr w_X6_readOff h g25 := jfr_up fg23 eg25 (by unfold w_X6_readOff; omega)
  have e26 : g25 97 0 = 0 := jup_s eg25
  show jGo E l 112 229 229 _ 22 [.inr (.inr (.inl 97)), .inr (.inl a1), .inr (.inr (.inr ())), .inl a2, .inl 0, .inr (.inr (.inr ()))] [] 229 jr0 g25
  exact (key 1000000000000) 0 (.inr (.inr (.inr ()))) g25 (by omega) fg25 (by omega)

def w_X6_solve (i k : Int) : Prop := (98 ≤ i ∧ i ≤ 100) ∨ (i = 97 ∧ 0 ≤ k ∧ k ≤ 1)
def k_X6_solve (a3 : Int) (h : JH) (v : Option JV) (r' g : JH) : Prop := r' = jr0 ∧ jfr w_X6_solve h g ∧ v = none ∧ (True)
set_option maxHeartbeats 4000000 in
theorem c_X6_solve {E : JE} {l : Launch} (a3 : Int) (h : JH) (p3 : 0 ≤ a3 ∧ a3 ≤ 2) : jMt E l 113 [.inr (.inr (.inl 97)), .inr (.inr (.inl 84)), .inr (.inr (.inl 91)), .inl a3] 229 jr0 h (k_X6_solve a3 h) := by
  refine jMt0 (nL := 9) (ls := [.inr (.inr (.inl 97)), .inr (.inr (.inl 84)), .inr (.inr (.inl 91)), .inl a3, .inr (.inr (.inr ())), .inr (.inr (.inr ())), .inr (.inr (.inr ())), .inr (.inr (.inr ())), .inr (.inr (.inr ()))]) (by decide +kernel) (by decide +kernel) (by decide +kernel) rfl rfl ?_
  have f0 : jfr w_X6_solve h h := jfr_rf _ _
  have key : ∀ N : Nat, (∀ (x4 : Int) (x5 : Int) (x6 : Int) (g : JH), (0 ≤ x4 ∧ x4 ≤ 6 ∧ 1 ≤ x5 ∧ x5 ≤ 64 ∧ 0 ≤ x6 ∧ x6 ≤ 6) → jfr w_X6_solve h g → (6 - x6) + 40000 < (N : Int) → jGo E l 113 229 229 (jRK (k_X6_solve a3 h)) 34 [.inr (.inr (.inl 97)), .inr (.inr (.inl 84)), .inr (.inr (.inl 91)), .inl a3, .inl x4, .inl x5, .inl x6, .inr (.inr (.inr ())), .inr (.inr (.inr ()))] [] 229 jr0 g) ∧
      (∀ (x4 : Int) (x5 : Int) (x6 : Int) (g : JH), (0 ≤ x4 ∧ x4 ≤ 6 ∧ 1 ≤ x5 ∧ x5 ≤ 64 ∧ 0 ≤ x6 ∧ x6 ≤ 40) → jfr w_X6_solve h g → (40 - x6) + 20000 < (N : Int) → jGo E l 113 229 229 (jRK (k_X6_solve a3 h)) 64 [.inr (.inr (.inl 97)), .inr (.inr (.inl 84)), .inr (.inr (.inl 91)), .inl a3, .inl x4, .inl x5, .inl x6, .inr (.inr (.inr ())), .inr (.inr (.inr ()))] [] 229 jr0 g) ∧
      (∀ (x4 : Int) (x5 : Int) (x6 : Int) (x8 : Int) (g : JH), (0 ≤ x4 ∧ x4 ≤ 6 ∧ 1 ≤ x5 ∧ x5 ≤ 64 ∧ 1 ≤ x8 ∧ x8 ≤ 64) → jfr w_X6_solve h g → (64 - x8) < (N : Int) → jGo E l 113 229 229 (jRK (k_X6_solve a3 h)) 114 [.inr (.inr (.inl 97)), .inr (.inr (.inl 84)), .inr (.inr (.inl 91)), .inl a3, .inl x4, .inl x5, .inr (.inl x6), .inr (.inr (.inr ())), .inl x8] [] 229 jr0 g) := by
    intro N
    induction N with
    | zero => exact ⟨fun _ _ _ _ hi _ hN => absurd hN (by omega), fun _ _ _ _ hi _ hN => absurd hN (by omega), fun _ _ _ _ _ hi _ hN => absurd hN (by omega)⟩
    | succ N ih =>
      refine ⟨?_, ?_, ?_⟩
      · intro x4 x5 x6 g hi hf hN
        refine jGo_blk qX6_solve_34 ?_
        refine And.intro (fun c1 => ?_) (fun c1 => ?_)
        · have c1 : x4 ≤ x6 := c1
          show jGo E l 113 229 229 _ 61 [.inr (.inr (.inl 97)), .inr (.inr (.inl 84)), .inr (.inr (.inl 91)), .inl a3, .inl x4, .inl x5, .inl x6, .inr (.inr (.inr ())), .inr (.inr (.inr ()))] [] 229 jr0 g
          refine jGo_blk qX6_solve_61 ?_
          show jGo E l 113 229 229 _ 64 [.inr (.inr (.inl 97)), .inr (.inr (.inl 84)), .inr (.inr (.inl 91)), .inl a3, .inl x4, .inl x5, .inl 0, .inr (.inr (.inr ())), .inr (.inr (.inr ()))] [] 229 jr0 g
          exact ih.2.1 x4 x5 0 g (by omega) hf (by omega)
        · have c1 : x6 < x4 := by first | exact c1 | exact Int.not_le.mp c1 | exact Int.not_lt.mp c1 | exact Decidable.not_not.mp c1
          refine st_gr jo_97 jr_97_3 ?_
          refine st_li jo_99 (show 0 ≤ 0 by omega) (show 0 < ((64 : Nat) : Int) by omega) (fun v2 ev2 b3 => ?_)
          have ev2 : v2 = g 99 0 := ev2
          refine st_cs (na := 1) (st := [.inl x6, .inr (.inl v2), .inl 0, .inr (.inr (.inl 99))]) rfl rfl rfl (c_X6_lackingNumber x6 g (by omega)) rfl ?_
          rintro _ _ _ ⟨rfl, rfl, t4, rfl, ht4, zt4⟩ kt4
          have kt4 : -9223372036854775808 ≤ t4 ∧ t4 ≤ 9223372036854775807 := kt4
          have ht4 : 19456426971176 ≤ t4 ∧ t4 ≤ 19461061219176 := ht4
          refine st_sl jo_99 (show 0 ≤ 0 by omega) (show 0 < ((64 : Nat) : Int) by omega) (fun hx => (jba_99 _ _).2 hx) (fun g6 eg6 => ?_)
          have eg6 : g6 = jup g 99 0 (jw64 (v2 + t4)) := eg6
          have fg6 : jfr w_X6_solve h g6 := jfr_up hf eg6 (by unfold w_X6_solve; omega)
          have e7 : jw32 (x6 + 1) = x6 + 1 := j32e (by omega) (by omega)
          show jGo E l 113 229 229 _ 34 [.inr (.inr (.inl 97)), .inr (.inr (.inl 84)), .inr (.inr (.inl 91)), .inl a3, .inl x4, .inl x5, .inl (jw32 (x6 + 1)), .inr (.inr (.inr ())), .inr (.inr (.inr ()))] [] 229 jr0 g6
          exact ih.1 x4 x5 (jw32 (x6 + 1)) g6 (by omega) fg6 (by omega)
      · intro x4 x5 x6 g hi hf hN
        refine jGo_blk qX6_solve_64 ?_
        refine st_gi jo_84 (fun v8 ev8 b9 => ?_)
        have ev8 : v8 = g 84 0 := ev8
        have b9 := (jbf_3_0 jo_84 _).1 b9
        refine And.intro (fun c10 => ?_) (fun c10 => ?_)
        · have c10 : v8 ≤ x6 := c10
          show jGo E l 113 229 229 _ 103 [.inr (.inr (.inl 97)), .inr (.inr (.inl 84)), .inr (.inr (.inl 91)), .inl a3, .inl x4, .inl x5, .inl x6, .inr (.inr (.inr ())), .inr (.inr (.inr ()))] [] 229 jr0 g
          refine jGo_blk qX6_solve_103 ?_
          refine st_gr jo_97 jr_97_3 ?_
          refine st_li jo_99 (show 0 ≤ 0 by omega) (show 0 < ((64 : Nat) : Int) by omega) (fun v11 ev11 b12 => ?_)
          have ev11 : v11 = g 99 0 := ev11
          show jGo E l 113 229 229 _ 114 [.inr (.inr (.inl 97)), .inr (.inr (.inl 84)), .inr (.inr (.inl 91)), .inl a3, .inl x4, .inl x5, .inr (.inl v11), .inr (.inr (.inr ())), .inl 1] [] 229 jr0 g
          exact ih.2.2 x4 x5 v11 1 g (by omega) hf (by omega)
        · have c10 : x6 < v8 := by first | exact c10 | exact Int.not_le.mp c10 | exact Int.not_lt.mp c10 | exact Decidable.not_not.mp c10
          refine st_cv (na := 1) (st := [.inl x6, .inr (.inr (.inl 84))]) jo_84 rfl rfl rfl (c_X3_stands x6 g (by omega)) rfl ?_
          rintro _ _ _ ⟨rfl, rfl, t13, rfl, ht13, zt13⟩ kt13
          have kt13 : -2147483648 ≤ t13 ∧ t13 ≤ 2147483647 := kt13
          have ht13 : 0 ≤ t13 ∧ t13 ≤ 1 := ht13
          refine And.intro (fun c15 => ?_) (fun c15 => ?_)
          · have c15 : t13 = 0 := c15
            show jGo E l 113 229 229 _ 97 [.inr (.inr (.inl 97)), .inr (.inr (.inl 84)), .inr (.inr (.inl 91)), .inl a3, .inl x4, .inl x5, .inl x6, .inr (.inr (.inr ())), .inr (.inr (.inr ()))] [] 229 jr0 g
            refine jGo_blk qX6_solve_97 ?_
            have e16 : jw32 (x6 + 1) = x6 + 1 := j32e (by omega) (by omega)
            show jGo E l 113 229 229 _ 64 [.inr (.inr (.inl 97)), .inr (.inr (.inl 84)), .inr (.inr (.inl 91)), .inl a3, .inl x4, .inl x5, .inl (jw32 (x6 + 1)), .inr (.inr (.inr ())), .inr (.inr (.inr ()))] [] 229 jr0 g
            exact ih.2.1 x4 x5 (jw32 (x6 + 1)) g (by omega) hf (by omega)
          · have c15 : ¬ t13 = 0 := by first | exact c15 | exact Int.not_le.mp c15 | exact Int.not_lt.mp c15 | exact Decidable.not_not.mp c15
            refine st_cv (na := 4) (st := [.inl a3, .inr (.inr (.inl 91)), .inl x6, .inr (.inr (.inl 84)), .inr (.inr (.inl 97)), .inr (.inr (.inl 97))]) jo_97 rfl rfl rfl (c_X6_fitting x6 a3 g (by omega) (by omega)) rfl ?_
            rintro _ _ g18 ⟨rfl, ft17, t17, rfl, ht17, zt17⟩ kt17
            have kt17 : -2147483648 ≤ t17 ∧ t17 ≤ 2147483647 := kt17
            have ht17 : 0 ≤ t17 ∧ t17 ≤ 63 := ht17
            have fg18 : jfr w_X6_solve h g18 := jfr_tr hf ft17 (fun i k q => by unfold w_X6_fitting at q; unfold w_X6_solve; omega)
            refine st_cv (na := 2) (st := [.inl x5, .inl t17, .inr (.inr (.inl 97))]) jo_97 rfl rfl rfl (c_X6_offer t17 x5 g18 (by omega) (by omega)) rfl ?_
            rintro _ _ g20 ⟨rfl, ft19, rfl, zt19⟩ kt19
            have fg20 : jfr w_X6_solve h g20 := jfr_tr fg18 ft19 (fun i k q => by unfold w_X6_offer at q; unfold w_X6_solve; omega)
            show jGo E l 113 229 229 _ 97 [.inr (.inr (.inl 97)), .inr (.inr (.inl 84)), .inr (.inr (.inl 91)), .inl a3, .inl x4, .inl x5, .inl x6, .inr (.inr (.inr ())), .inr (.inr (.inr ()))] [] 229 jr0 g20
            refine jGo_blk qX6_solve_97 ?_
            have e21 : jw32 (x6 + 1) = x6 + 1 := j32e (by omega) (by omega)
            show jGo E l 113 229 229 _ 64 [.inr (.inr (.inl 97)), .inr (.inr (.inl 84)), .inr (.inr (.inl 91)), .inl a3, .inl x4, .inl x5, .inl (jw32 (x6 + 1)), .inr (.inr (.inr ())), .inr (.inr (.inr ()))] [] 229 jr0 g20
            exact ih.2.1 x4 x5 (jw32 (x6 + 1)) g20 (by omega) fg20 (by omega)
      · intro x4 x5 x6 x8 g hi hf hN
        refine jGo_blk qX6_solve_114 ?_
        refine And.intro (fun c22 => ?_) (fun c22 => ?_)
        · have c22 : x5 ≤ x8 := c22
          show jGo E l 113 229 229 _ 141 [.inr (.inr (.inl 97)), .inr (.inr (.inl 84)), .inr (.inr (.inl 91)), .inl a3, .inl x4, .inl x5, .inr (.inl x6), .inr (.inr (.inr ())), .inl x8] [] 229 jr0 g
          refine jGo_blk qX6_solve_141 ?_
          refine st_cv (na := 2) (st := [.inl x4, .inr (.inl x6), .inr (.inr (.inl 97))]) jo_97 rfl rfl rfl (c_X6_readOff x6 x4 g (by omega) (by omega)) rfl ?_
          rintro _ _ g24 ⟨rfl, ft23, rfl, zt23⟩ kt23
          have fg24 : jfr w_X6_solve h g24 := jfr_tr hf ft23 (fun i k q => by unfold w_X6_readOff at q; unfold w_X6_solve; omega)
          exact ⟨rfl, rfl, fg24, rfl, trivial⟩
        · have c22 : x8 < x5 := by first | exact c22 | exact Int.not_le.mp c22 | exact Int.not_lt.mp c22 | exact Decidable.not_not.mp c22
          refine st_gr jo_97 jr_97_3 ?_
          refine st_li jo_99 (show 0 ≤ x8 by omega) (show x8 < ((64 : Nat) : Int) by omega) (fun v25 ev25 b26 => ?_)
          have ev25 : v25 = g 99 x8 := ev25
          refine st_m3 rfl (fun v27 m1v27 m2v27 m3v27 => ?_)
          have m1v27 : v27 ≤ x6 := m1v27; have m2v27 : v27 ≤ v25 := m2v27; have m3v27 : v27 = x6 ∨ v27 = v25 := m3v27
          have e28 : jw32 (x8 + 1) = x8 + 1 := j32e (by omega) (by omega)
          show jGo E l 113 229 229 _ 114 [.inr (.inr (.inl 97)), .inr (.inr (.inl 84)), .inr (.inr (.inl 91)), .inl a3, .inl x4, .inl x5, .inr (.inl v27), .inr (.inr (.inr ())), .inl (jw32 (x8 + 1))] [] 229 jr0 g
          exact ih.2.2 x4 x5 v27 (jw32 (x8 + 1)) g (by omega) hf (by omega)
  refine jGo_blk qX6_solve_0 ?_
  refine st_gr jo_91 jr_91_0 ?_
  refine st_ai jo_92 (show 0 ≤ a3 by omega) (show a3 < ((3 : Nat) : Int) by omega) (fun v29 ev29 b30 => ?_)
  have ev29 : v29 = h 92 a3 := ev29
  have b30 := (jba_92 a3 _).1 b30
  have e31 := jshl1_6 v29 (by omega) (by omega)
  refine st_gr jo_97 jr_97_3 ?_
  refine st_cs (na := 2) (st := [.inr (.inl 4611686018427387904), .inr (.inr (.inl 99))]) rfl rfl rfl (c_fillL 99 4611686018427387904 h jo_99 (by decide) (fun k hx => (jba_99 _ _).2 hx)) rfl ?_
  rintro _ _ g33 ⟨rfl, ft32, rfl, zt32⟩ kt32
  have fg33 : jfr w_X6_solve h g33 := jfr_tr f0 ft32 (fun i k q => by unfold w_fill at q; unfold w_X6_solve; omega)
  refine st_gr jo_97 jr_97_3 ?_
  refine st_sl jo_99 (show 0 ≤ 0 by omega) (show 0 < ((64 : Nat) : Int) by omega) (fun hx => (jba_99 _ _).2 hx) (fun g34 eg34 => ?_)
  have eg34 : g34 = jup g33 99 0 0 := eg34
  have fg34 : jfr w_X6_solve h g34 := jfr_up fg33 eg34 (by unfold w_X6_solve; omega)
  show jGo E l 113 229 229 _ 34 [.inr (.inr (.inl 97)), .inr (.inr (.inl 84)), .inr (.inr (.inl 91)), .inl a3, .inl v29, .inl (jshl 1 v29), .inl 0, .inr (.inr (.inr ())), .inr (.inr (.inr ()))] [] 229 jr0 g34
  exact (key 1000000000000).1 v29 (jshl 1 v29) 0 g34 (by omega) fg34 (by omega)

def w_X11_match (i k : Int) : Prop := (i = 1) ∨ (98 ≤ i ∧ i ≤ 100) ∨ (i = 97 ∧ 0 ≤ k ∧ k ≤ 1)
def k_X11_match (a1 : Int) (a2 : Int) (h : JH) (v : Option JV) (r' g : JH) : Prop := r' = jr0 ∧ jfr w_X11_match h g ∧ ∃ x : Int, v = some (.inl x) ∧ (True) ∧ (True)
set_option maxHeartbeats 4000000 in
theorem c_X11_match {E : JE} {l : Launch} (a1 : Int) (a2 : Int) (h : JH) : jMt E l 114 [.inr (.inr (.inl 0)), .inl a1, .inl a2] 229 jr0 h (k_X11_match a1 a2 h) := by
  refine jMt0 (nL := 4) (ls := [.inr (.inr (.inl 0)), .inl a1, .inl a2, .inr (.inr (.inr ()))]) (by decide +kernel) (by decide +kernel) (by decide +kernel) rfl rfl ?_
  have f0 : jfr w_X11_match h h := jfr_rf _ _
  refine jGo_blk qX11_match_0 ?_
  refine st_cs (na := 2) (st := [.inl 3, .inl a1]) rfl rfl rfl (c_X11_within a1 3 h) rfl ?_
  rintro _ _ _ ⟨rfl, rfl, t1, rfl, ht1, zt1⟩ kt1
  have kt1 : -2147483648 ≤ t1 ∧ t1 ≤ 2147483647 := kt1
  have ht1 : 0 ≤ t1 ∧ t1 ≤ 1 := ht1
  have zt1 : (t1 = 1 ∧ 0 ≤ a1 ∧ a1 < (3 : Int)) ∨ (t1 = 0 ∧ ¬ (0 ≤ a1 ∧ a1 < (3 : Int))) := zt1
  refine And.intro (fun c3 => ?_) (fun c3 => ?_)
  · have c3 : ¬ t1 = 0 := c3
    show jGo E l 114 229 229 _ 12 [.inr (.inr (.inl 0)), .inl a1, .inl a2, .inr (.inr (.inr ()))] [] 229 jr0 h
    refine jGo_blk qX11_match_12 ?_
    refine st_gr jo_0 jr_0_7 ?_
    refine st_gr jo_91 jr_91_0 ?_
    refine st_ai jo_92 (show 0 ≤ a1 by omega) (show a1 < ((3 : Nat) : Int) by omega) (fun v4 ev4 b5 => ?_)
    have ev4 : v4 = h 92 a1 := ev4
    have b5 := (jba_92 a1 _).1 b5
    have e6 : jw32 (2 + v4) = 2 + v4 := j32e (by omega) (by omega)
    refine st_cs (na := 2) (st := [.inl (jw32 (2 + v4)), .inl a2]) rfl rfl rfl (c_X11_within a2 (jw32 (2 + v4)) h) rfl ?_
    rintro _ _ _ ⟨rfl, rfl, t7, rfl, ht7, zt7⟩ kt7
    have kt7 : -2147483648 ≤ t7 ∧ t7 ≤ 2147483647 := kt7
    have ht7 : 0 ≤ t7 ∧ t7 ≤ 1 := ht7
    have zt7 : (t7 = 1 ∧ 0 ≤ a2 ∧ a2 < (jw32 (2 + v4))) ∨ (t7 = 0 ∧ ¬ (0 ≤ a2 ∧ a2 < (jw32 (2 + v4)))) := zt7
    refine And.intro (fun c9 => ?_) (fun c9 => ?_)
    · have c9 : ¬ t7 = 0 := c9
      show jGo E l 114 229 229 _ 35 [.inr (.inr (.inl 0)), .inl a1, .inl a2, .inr (.inr (.inr ()))] [] 229 jr0 h
      refine jGo_blk qX11_match_35 ?_
      show jGo E l 114 229 229 _ 36 [.inr (.inr (.inl 0)), .inl a1, .inl a2, .inr (.inr (.inr ()))] [.inl 0] 229 jr0 h
      refine jGo_blk qX11_match_36 ?_
      refine And.intro (fun c10 => ?_) (fun c10 => ?_)
      · have c10 : (0 : Int) = 0 := c10
        show jGo E l 114 229 229 _ 47 [.inr (.inr (.inl 0)), .inl a1, .inl a2, .inl 0] [] 229 jr0 h
        refine jGo_blk qX11_match_47 ?_
        refine st_gr jo_0 jr_0_8 ?_
        refine st_gr jo_0 jr_0_6 ?_
        refine st_gr jo_0 jr_0_7 ?_
        refine st_cv (na := 3) (st := [.inl a1, .inr (.inr (.inl 91)), .inr (.inr (.inl 84)), .inr (.inr (.inl 97))]) jo_97 rfl rfl rfl (c_X6_solve a1 h (by omega)) rfl ?_
        rintro _ _ g12 ⟨rfl, ft11, rfl, zt11⟩ kt11
        have fg12 : jfr w_X11_match h g12 := jfr_tr f0 ft11 (fun i k q => by unfold w_X6_solve at q; unfold w_X11_match; omega)
        refine And.intro (fun c14 => ?_) (fun c14 => And.intro (fun c15 => ?_) (fun c15 => ?_))
        · have c14 : a2 = 0 := c14
          show jGo E l 114 229 229 _ 92 [.inr (.inr (.inl 0)), .inl a1, .inl a2, .inl 0] [] 229 jr0 g12
          refine jGo_blk qX11_match_92 ?_
          refine st_gr jo_0 jr_0_8 ?_
          refine st_gi jo_97 (fun v16 ev16 b17 => ?_)
          have ev16 : v16 = g12 97 0 := ev16
          have b17 := (jbf_6_0 jo_97 _).1 b17
          exact st_r0 (ls := []) ⟨rfl, rfl, fg12, v16, rfl, trivial, trivial⟩
        · have c15 : a2 = 1 := c15
          show jGo E l 114 229 229 _ 100 [.inr (.inr (.inl 0)), .inl a1, .inl a2, .inl 0] [] 229 jr0 g12
          refine jGo_blk qX11_match_100 ?_
          refine st_gr jo_0 jr_0_8 ?_
          refine st_gi jo_97 (fun v18 ev18 b19 => ?_)
          have ev18 : v18 = g12 97 1 := ev18
          have b19 := (jbf_6_1 jo_97 _).1 b19
          exact st_r0 (ls := []) ⟨rfl, rfl, fg12, v18, rfl, trivial, trivial⟩
        · have c14 : ¬ a2 = 0 := c14; have c15 : ¬ a2 = 1 := c15
          show jGo E l 114 229 229 _ 108 [.inr (.inr (.inl 0)), .inl a1, .inl a2, .inl 0] [] 229 jr0 g12
          refine jGo_blk qX11_match_108 ?_
          refine st_gr jo_0 jr_0_8 ?_
          refine st_gr jo_97 jr_97_2 ?_
          have e20 : jw32 (a2 - 2) = a2 - 2 := j32e (by omega) (by omega)
          refine st_ai jo_98 (show 0 ≤ jw32 (a2 - 2) by omega) (show jw32 (a2 - 2) < ((6 : Nat) : Int) by omega) (fun v21 ev21 b22 => ?_)
          have ev21 : v21 = g12 98 (jw32 (a2 - 2)) := ev21
          have b22 := (jba_98 (jw32 (a2 - 2)) _).1 b22
          exact st_r0 (ls := []) ⟨rfl, rfl, fg12, v21, rfl, trivial, trivial⟩
      · have c10 : ¬ (0 : Int) = 0 := by first | exact c10 | exact Int.not_le.mp c10 | exact Int.not_lt.mp c10 | exact Decidable.not_not.mp c10
        exfalso; omega
    · have c9 : t7 = 0 := by first | exact c9 | exact Int.not_le.mp c9 | exact Int.not_lt.mp c9 | exact Decidable.not_not.mp c9
      show jGo E l 114 229 229 _ 36 [.inr (.inr (.inl 0)), .inl a1, .inl a2, .inr (.inr (.inr ()))] [.inl (-2)] 229 jr0 h
      refine jGo_blk qX11_match_36 ?_
      refine And.intro (fun c23 => ?_) (fun c23 => ?_)
      · have c23 : (-2 : Int) = 0 := c23
        exfalso; omega
      · have c23 : ¬ (-2 : Int) = 0 := by first | exact c23 | exact Int.not_le.mp c23 | exact Int.not_lt.mp c23 | exact Decidable.not_not.mp c23
        refine st_cv (na := 1) (st := [.inl (-2), .inr (.inr (.inl 0))]) jo_0 rfl rfl rfl (c_X11_refused (-2) h (by omega)) rfl ?_
        rintro _ _ g25 ⟨rfl, ft24, t24, rfl, ht24, zt24⟩ kt24
        have kt24 : -2147483648 ≤ t24 ∧ t24 ≤ 2147483647 := kt24
        have ht24 : -7 ≤ t24 ∧ t24 ≤ -1 := ht24
        have fg25 : jfr w_X11_match h g25 := jfr_tr f0 ft24 (fun i k q => by unfold w_X11_refused at q; unfold w_X11_match; omega)
        have zt24 : t24 = (-2 : Int) := zt24
        exact st_r0 (ls := []) ⟨rfl, rfl, fg25, t24, rfl, trivial, trivial⟩
  · have c3 : t1 = 0 := by first | exact c3 | exact Int.not_le.mp c3 | exact Int.not_lt.mp c3 | exact Decidable.not_not.mp c3
    show jGo E l 114 229 229 _ 36 [.inr (.inr (.inl 0)), .inl a1, .inl a2, .inr (.inr (.inr ()))] [.inl (-1)] 229 jr0 h
    refine jGo_blk qX11_match_36 ?_
    refine And.intro (fun c26 => ?_) (fun c26 => ?_)
    · have c26 : (-1 : Int) = 0 := c26
      exfalso; omega
    · have c26 : ¬ (-1 : Int) = 0 := by first | exact c26 | exact Int.not_le.mp c26 | exact Int.not_lt.mp c26 | exact Decidable.not_not.mp c26
      refine st_cv (na := 1) (st := [.inl (-1), .inr (.inr (.inl 0))]) jo_0 rfl rfl rfl (c_X11_refused (-1) h (by omega)) rfl ?_
      rintro _ _ g28 ⟨rfl, ft27, t27, rfl, ht27, zt27⟩ kt27
      have kt27 : -2147483648 ≤ t27 ∧ t27 ≤ 2147483647 := kt27
      have ht27 : -7 ≤ t27 ∧ t27 ≤ -1 := ht27
      have fg28 : jfr w_X11_match h g28 := jfr_tr f0 ft27 (fun i k q => by unfold w_X11_refused at q; unfold w_X11_match; omega)
      have zt27 : t27 = (-1 : Int) := zt27
      exact st_r0 (ls := []) ⟨rfl, rfl, fg28, t27, rfl, trivial, trivial⟩

def k_X12_ones (a0 : Int) (h : JH) (v : Option JV) (r' g : JH) : Prop := r' = jr0 ∧ h = g ∧ ∃ x : Int, v = some (.inl x) ∧ (True) ∧ (True)
set_option maxHeartbeats 4000000 in
theorem c_X12_ones {E : JE} {l : Launch} (a0 : Int) (h : JH) (p0 : 0 ≤ a0 ∧ a0 ≤ 63) : jMt E l 116 [.inl a0] 229 jr0 h (k_X12_ones a0 h) := by
  refine jMt0 (nL := 3) (ls := [.inl a0, .inr (.inr (.inr ())), .inr (.inr (.inr ()))]) (by decide +kernel) (by decide +kernel) (by decide +kernel) rfl rfl ?_
  have key : ∀ N : Nat, (∀ (x1 : Int) (x2 : Int), (0 ≤ x2 ∧ x2 ≤ 63) → x2 < (N : Int) → jGo E l 116 229 229 (jRK (k_X12_ones a0 h)) 4 [.inl a0, .inl x1, .inl x2] [] 229 jr0 h) := by
    intro N
    induction N with
    | zero => exact fun _ _ hi hN => absurd hN (by omega)
    | succ N ih =>
      intro x1 x2 hi hN
      refine jGo_ok (fun hls _ => ?_)
      have rx1 : -2147483648 ≤ x1 ∧ x1 ≤ 2147483647 := hls (.inl x1) (by simp)
      refine jGo_blk qX12_ones_4 ?_
      refine And.intro (fun c1 => ?_) (fun c1 => ?_)
      · have c1 : x2 ≤ 0 := c1
        show jGo E l 116 229 229 _ 21 [.inl a0, .inl x1, .inl x2] [] 229 jr0 h
        refine jGo_blk qX12_ones_21 ?_
        exact st_r0 (ls := []) ⟨rfl, rfl, rfl, x1, rfl, trivial, trivial⟩
      · have c1 : 0 < x2 := by first | exact c1 | exact Int.not_le.mp c1 | exact Int.not_lt.mp c1 | exact Decidable.not_not.mp c1
        refine And.intro (show 2 ≠ 0 by omega) ?_
        have e2 : x2.tmod 2 = x2 % 2 ∧ 0 ≤ x2.tmod 2 ∧ x2.tmod 2 < 2 := jmd (by omega) (by omega)
        refine And.intro (show 2 ≠ 0 by omega) ?_
        have e3 : jw32 (x2.tdiv 2) = x2 / 2 := j32d (by omega) (by omega) (by omega)
        show jGo E l 116 229 229 _ 4 [.inl a0, .inl (jw32 (x1 + (x2.tmod 2))), .inl (jw32 (x2.tdiv 2))] [] 229 jr0 h
        exact ih (jw32 (x1 + (x2.tmod 2))) (jw32 (x2.tdiv 2)) (by omega) (by omega)
  refine jGo_blk qX12_ones_0 ?_
  show jGo E l 116 229 229 _ 4 [.inl a0, .inl 0, .inl a0] [] 229 jr0 h
  exact (key 1000000000000) 0 a0 (by omega) (by omega)

def k_X12_fits (a1 : Int) (a2 : Int) (h : JH) (v : Option JV) (r' g : JH) : Prop := r' = jr0 ∧ h = g ∧ ∃ x : Int, v = some (.inl x) ∧ (0 ≤ x ∧ x ≤ 1) ∧ (True)
set_option maxHeartbeats 4000000 in
theorem c_X12_fits {E : JE} {l : Launch} (a1 : Int) (a2 : Int) (h : JH) (p1 : 0 ≤ a1 ∧ a1 ≤ 39) (p2 : 0 ≤ a2 ∧ a2 ≤ 17) : jMt E l 115 [.inr (.inr (.inl 176)), .inl a1, .inl a2] 229 jr0 h (k_X12_fits a1 a2 h) := by
  refine jMt0 (nL := 4) (ls := [.inr (.inr (.inl 176)), .inl a1, .inl a2, .inr (.inr (.inr ()))]) (by decide +kernel) (by decide +kernel) (by decide +kernel) rfl rfl ?_
  refine jGo_blk qX12_fits_0 ?_
  refine st_gr jo_176 jr_176_36 ?_
  refine st_ai jo_206 (show 0 ≤ a1 by omega) (show a1 < ((40 : Nat) : Int) by omega) (fun v1 ev1 b2 => ?_)
  have ev1 : v1 = h 206 a1 := ev1
  have b2 := (jba_206 a1 _).1 b2
  refine st_gr jo_176 jr_176_42 ?_
  refine st_ai jo_212 (show 0 ≤ a2 by omega) (show a2 < ((18 : Nat) : Int) by omega) (fun v3 ev3 b4 => ?_)
  have ev3 : v3 = h 212 a2 := ev3
  have b4 := (jba_212 a2 _).1 b4
  have e5 : jw32 (v1 - v3) = v1 - v3 := j32e (by omega) (by omega)
  refine st_gr jo_176 jr_176_38 ?_
  refine st_ai jo_208 (show 0 ≤ a1 by omega) (show a1 < ((40 : Nat) : Int) by omega) (fun v6 ev6 b7 => ?_)
  have ev6 : v6 = h 208 a1 := ev6
  have b7 := (jba_208 a1 _).1 b7
  refine And.intro (fun c8 => ?_) (fun c8 => ?_)
  · have c8 : 0 ≤ v6 := c8
    show jGo E l 115 229 229 _ 78 [.inr (.inr (.inl 176)), .inl a1, .inl a2, .inl (jw32 (v1 - v3))] [] 229 jr0 h
    refine jGo_blk qX12_fits_78 ?_
    show jGo E l 115 229 229 _ 79 [.inr (.inr (.inl 176)), .inl a1, .inl a2, .inl (jw32 (v1 - v3))] [.inl 0] 229 jr0 h
    refine jGo_blk qX12_fits_79 ?_
    exact st_r1 (ls := []) (show (0 : Int) = 0 ∨ (0 : Int) = 1 by omega) ⟨rfl, rfl, rfl, 0, rfl, (by omega), trivial⟩
  · have c8 : v6 < 0 := by first | exact c8 | exact Int.not_le.mp c8 | exact Int.not_lt.mp c8 | exact Decidable.not_not.mp c8
    refine st_gr jo_176 jr_176_35 ?_
    refine st_ai jo_205 (show 0 ≤ a1 by omega) (show a1 < ((40 : Nat) : Int) by omega) (fun v9 ev9 b10 => ?_)
    have ev9 : v9 = h 205 a1 := ev9
    have b10 := (jba_205 a1 _).1 b10
    refine st_gr jo_176 jr_176_41 ?_
    refine st_ai jo_211 (show 0 ≤ a2 by omega) (show a2 < ((18 : Nat) : Int) by omega) (fun v11 ev11 b12 => ?_)
    have ev11 : v11 = h 211 a2 := ev11
    have b12 := (jba_211 a2 _).1 b12
    refine And.intro (fun c13 => ?_) (fun c13 => ?_)
    · have c13 : ¬ v9 = v11 := c13
      show jGo E l 115 229 229 _ 78 [.inr (.inr (.inl 176)), .inl a1, .inl a2, .inl (jw32 (v1 - v3))] [] 229 jr0 h
      refine jGo_blk qX12_fits_78 ?_
      show jGo E l 115 229 229 _ 79 [.inr (.inr (.inl 176)), .inl a1, .inl a2, .inl (jw32 (v1 - v3))] [.inl 0] 229 jr0 h
      refine jGo_blk qX12_fits_79 ?_
      exact st_r1 (ls := []) (show (0 : Int) = 0 ∨ (0 : Int) = 1 by omega) ⟨rfl, rfl, rfl, 0, rfl, (by omega), trivial⟩
    · have c13 : v9 = v11 := by first | exact c13 | exact Int.not_le.mp c13 | exact Int.not_lt.mp c13 | exact Decidable.not_not.mp c13
      refine st_gr jo_176 jr_176_43 ?_
      refine st_ai jo_213 (show 0 ≤ a2 by omega) (show a2 < ((18 : Nat) : Int) by omega) (fun v14 ev14 b15 => ?_)
      have ev14 : v14 = h 213 a2 := ev14
      have b15 := (jba_213 a2 _).1 b15
      refine And.intro (fun c16 => ?_) (fun c16 => ?_)
      · have c16 : v14 < jw32 (v1 - v3) := c16
        show jGo E l 115 229 229 _ 78 [.inr (.inr (.inl 176)), .inl a1, .inl a2, .inl (jw32 (v1 - v3))] [] 229 jr0 h
        refine jGo_blk qX12_fits_78 ?_
        show jGo E l 115 229 229 _ 79 [.inr (.inr (.inl 176)), .inl a1, .inl a2, .inl (jw32 (v1 - v3))] [.inl 0] 229 jr0 h
        refine jGo_blk qX12_fits_79 ?_
        exact st_r1 (ls := []) (show (0 : Int) = 0 ∨ (0 : Int) = 1 by omega) ⟨rfl, rfl, rfl, 0, rfl, (by omega), trivial⟩
      · have c16 : jw32 (v1 - v3) ≤ v14 := by first | exact c16 | exact Int.not_le.mp c16 | exact Int.not_lt.mp c16 | exact Decidable.not_not.mp c16
        have e17 : jw32 (-(jw32 (v1 - v3))) = -(jw32 (v1 - v3)) := j32e (by omega) (by omega)
        refine st_gr jo_176 jr_176_43 ?_
        refine st_ai jo_213 (show 0 ≤ a2 by omega) (show a2 < ((18 : Nat) : Int) by omega) (fun v18 ev18 b19 => ?_)
        have ev18 : v18 = h 213 a2 := ev18
        have b19 := (jba_213 a2 _).1 b19
        refine And.intro (fun c20 => ?_) (fun c20 => ?_)
        · have c20 : v18 < jw32 (-(jw32 (v1 - v3))) := c20
          show jGo E l 115 229 229 _ 78 [.inr (.inr (.inl 176)), .inl a1, .inl a2, .inl (jw32 (v1 - v3))] [] 229 jr0 h
          refine jGo_blk qX12_fits_78 ?_
          show jGo E l 115 229 229 _ 79 [.inr (.inr (.inl 176)), .inl a1, .inl a2, .inl (jw32 (v1 - v3))] [.inl 0] 229 jr0 h
          refine jGo_blk qX12_fits_79 ?_
          exact st_r1 (ls := []) (show (0 : Int) = 0 ∨ (0 : Int) = 1 by omega) ⟨rfl, rfl, rfl, 0, rfl, (by omega), trivial⟩
        · have c20 : jw32 (-(jw32 (v1 - v3))) ≤ v18 := by first | exact c20 | exact Int.not_le.mp c20 | exact Int.not_lt.mp c20 | exact Decidable.not_not.mp c20
          refine st_gr jo_176 jr_176_37 ?_
          refine st_ai jo_207 (show 0 ≤ a1 by omega) (show a1 < ((40 : Nat) : Int) by omega) (fun v21 ev21 b22 => ?_)
          have ev21 : v21 = h 207 a1 := ev21
          have b22 := (jba_207 a1 _).1 b22
          refine st_gr jo_176 jr_176_44 ?_
          refine st_ai jo_214 (show 0 ≤ a2 by omega) (show a2 < ((18 : Nat) : Int) by omega) (fun v23 ev23 b24 => ?_)
          have ev23 : v23 = h 214 a2 := ev23
          have b24 := (jba_214 a2 _).1 b24
          refine And.intro (fun c25 => ?_) (fun c25 => ?_)
          · have c25 : v21 < v23 := c25
            show jGo E l 115 229 229 _ 78 [.inr (.inr (.inl 176)), .inl a1, .inl a2, .inl (jw32 (v1 - v3))] [] 229 jr0 h
            refine jGo_blk qX12_fits_78 ?_
            show jGo E l 115 229 229 _ 79 [.inr (.inr (.inl 176)), .inl a1, .inl a2, .inl (jw32 (v1 - v3))] [.inl 0] 229 jr0 h
            refine jGo_blk qX12_fits_79 ?_
            exact st_r1 (ls := []) (show (0 : Int) = 0 ∨ (0 : Int) = 1 by omega) ⟨rfl, rfl, rfl, 0, rfl, (by omega), trivial⟩
          · have c25 : v23 ≤ v21 := by first | exact c25 | exact Int.not_le.mp c25 | exact Int.not_lt.mp c25 | exact Decidable.not_not.mp c25
            show jGo E l 115 229 229 _ 79 [.inr (.inr (.inl 176)), .inl a1, .inl a2, .inl (jw32 (v1 - v3))] [.inl 1] 229 jr0 h
            refine jGo_blk qX12_fits_79 ?_
            exact st_r1 (ls := []) (show (1 : Int) = 0 ∨ (1 : Int) = 1 by omega) ⟨rfl, rfl, rfl, 1, rfl, (by omega), trivial⟩

def w_X12_solve (i k : Int) : Prop := (i = 223) ∨ (i = 176 ∧ 55 ≤ k ∧ k ≤ 56)
def k_X12_solve (a1 : Int) (a2 : Int) (h : JH) (v : Option JV) (r' g : JH) : Prop := r' = jr0 ∧ jfr w_X12_solve h g ∧ v = none ∧ (True)
set_option maxHeartbeats 4000000 in
theorem c_X12_solve {E : JE} {l : Launch} (a1 : Int) (a2 : Int) (h : JH) (p1 : 0 ≤ a1 ∧ a1 ≤ 2) (p2 : 0 ≤ a2 ∧ a2 ≤ 6) : jMt E l 117 [.inr (.inr (.inl 176)), .inl a1, .inl a2] 229 jr0 h (k_X12_solve a1 a2 h) := by
  refine jMt0 (nL := 8) (ls := [.inr (.inr (.inl 176)), .inl a1, .inl a2, .inr (.inr (.inr ())), .inr (.inr (.inr ())), .inr (.inr (.inr ())), .inr (.inr (.inr ())), .inr (.inr (.inr ()))]) (by decide +kernel) (by decide +kernel) (by decide +kernel) rfl rfl ?_
  have f0 : jfr w_X12_solve h h := jfr_rf _ _
  have key : ∀ N : Nat, (∀ (x3 : Int) (g : JH), (0 ≤ x3 ∧ x3 ≤ 64) → jfr w_X12_solve h g → ((64 - x3) + 40000) * 1000000000000 + 999999999999 < (N : Int) → jGo E l 117 229 229 (jRK (k_X12_solve a1 a2 h)) 2 [.inr (.inr (.inl 176)), .inl a1, .inl a2, .inl x3, .inr (.inr (.inr ())), .inr (.inr (.inr ())), .inr (.inr (.inr ())), .inr (.inr (.inr ()))] [] 229 jr0 g) ∧
      (∀ (x3 : Int) (x4 : JV) (x5 : JV) (x6 : JV) (x7 : JV) (g : JH), (0 ≤ x3 ∧ x3 ≤ 40) → jfr w_X12_solve h g → ((40 - x3) + 20000) * 1000000000000 + 999999999999 < (N : Int) → jGo E l 117 229 229 (jRK (k_X12_solve a1 a2 h)) 32 [.inr (.inr (.inl 176)), .inl a1, .inl a2, .inl x3, x4, x5, x6, x7] [] 229 jr0 g) ∧
      (∀ (x3 : Int) (x4 : Int) (x5 : JV) (x6 : JV) (x7 : JV) (g : JH), (0 ≤ x3 ∧ x3 ≤ 39 ∧ 0 ≤ x4 ∧ x4 ≤ 63) → jfr w_X12_solve h g → ((40 - x3) + 20000) * 1000000000000 + (x4 - 0) * 1000000 + 999999 < (N : Int) → jGo E l 117 229 229 (jRK (k_X12_solve a1 a2 h)) 56 [.inr (.inr (.inl 176)), .inl a1, .inl a2, .inl x3, .inl x4, x5, x6, x7] [] 229 jr0 g) ∧
      (∀ (x3 : Int) (x4 : Int) (x5 : Int) (x6 : JV) (x7 : JV) (g : JH), (0 ≤ x3 ∧ x3 ≤ 39 ∧ 1 ≤ x4 ∧ x4 ≤ 63 ∧ 0 ≤ x5 ∧ x5 ≤ 6) → jfr w_X12_solve h g → ((40 - x3) + 20000) * 1000000000000 + (x4 - 0) * 1000000 + (6 - x5) < (N : Int) → jGo E l 117 229 229 (jRK (k_X12_solve a1 a2 h)) 64 [.inr (.inr (.inl 176)), .inl a1, .inl a2, .inl x3, .inl x4, .inl x5, x6, x7] [] 229 jr0 g) ∧
      (∀ (x3 : Int) (x4 : JV) (x5 : JV) (x6 : JV) (x7 : JV) (g : JH), (1 ≤ x3 ∧ x3 ≤ 64) → jfr w_X12_solve h g → (64 - x3) * 1000000000000 + 999999999999 < (N : Int) → jGo E l 117 229 229 (jRK (k_X12_solve a1 a2 h)) 210 [.inr (.inr (.inl 176)), .inl a1, .inl a2, .inl x3, x4, x5, x6, x7] [] 229 jr0 g) := by
    intro N
    induction N with
    | zero => exact ⟨fun _ _ hi _ hN => absurd hN (by omega), fun _ _ _ _ _ _ hi _ hN => absurd hN (by omega), fun _ _ _ _ _ _ hi _ hN => absurd hN (by omega), fun _ _ _ _ _ _ hi _ hN => absurd hN (by omega), fun _ _ _ _ _ _ hi _ hN => absurd hN (by omega)⟩
    | succ N ih =>
      refine ⟨?_, ?_, ?_, ?_, ?_⟩
      · intro x3 g hi hf hN
        refine jGo_blk qX12_solve_2 ?_
        refine And.intro (fun c1 => ?_) (fun c1 => ?_)
        · have c1 : 64 ≤ x3 := c1
          show jGo E l 117 229 229 _ 30 [.inr (.inr (.inl 176)), .inl a1, .inl a2, .inl x3, .inr (.inr (.inr ())), .inr (.inr (.inr ())), .inr (.inr (.inr ())), .inr (.inr (.inr ()))] [] 229 jr0 g
          refine jGo_blk qX12_solve_30 ?_
          show jGo E l 117 229 229 _ 32 [.inr (.inr (.inl 176)), .inl a1, .inl a2, .inl 0, .inr (.inr (.inr ())), .inr (.inr (.inr ())), .inr (.inr (.inr ())), .inr (.inr (.inr ()))] [] 229 jr0 g
          exact ih.2.1 0 (.inr (.inr (.inr ()))) (.inr (.inr (.inr ()))) (.inr (.inr (.inr ()))) (.inr (.inr (.inr ()))) g (by omega) hf (by omega)
        · have c1 : x3 < 64 := by first | exact c1 | exact Int.not_le.mp c1 | exact Int.not_lt.mp c1 | exact Decidable.not_not.mp c1
          refine st_gr jo_176 jr_176_54 ?_
          refine And.intro (fun c2 => ?_) (fun c2 => ?_)
          · have c2 : ¬ x3 = 0 := c2
            show jGo E l 117 229 229 _ 21 [.inr (.inr (.inl 176)), .inl a1, .inl a2, .inl x3, .inr (.inr (.inr ())), .inr (.inr (.inr ())), .inr (.inr (.inr ())), .inr (.inr (.inr ()))] [.inl x3, .inr (.inr (.inl 223))] 229 jr0 g
            refine jGo_blk qX12_solve_21 ?_
            show jGo E l 117 229 229 _ 23 [.inr (.inr (.inl 176)), .inl a1, .inl a2, .inl x3, .inr (.inr (.inr ())), .inr (.inr (.inr ())), .inr (.inr (.inr ())), .inr (.inr (.inr ()))] [.inl 2000000000, .inl x3, .inr (.inr (.inl 223))] 229 jr0 g
            refine jGo_blk qX12_solve_23 ?_
            refine st_si jo_223 (show 0 ≤ x3 by omega) (show x3 < ((64 : Nat) : Int) by omega) (fun hx => (jba_223 _ _).2 hx) (fun g3 eg3 => ?_)
            have eg3 : g3 = jup g 223 x3 2000000000 := eg3
            have fg3 : jfr w_X12_solve h g3 := jfr_up hf eg3 (by unfold w_X12_solve; omega)
            have e4 : g3 223 x3 = 2000000000 := jup_s eg3
            have e5 : jw32 (x3 + 1) = x3 + 1 := j32e (by omega) (by omega)
            show jGo E l 117 229 229 _ 2 [.inr (.inr (.inl 176)), .inl a1, .inl a2, .inl (jw32 (x3 + 1)), .inr (.inr (.inr ())), .inr (.inr (.inr ())), .inr (.inr (.inr ())), .inr (.inr (.inr ()))] [] 229 jr0 g3
            exact ih.1 (jw32 (x3 + 1)) g3 (by omega) fg3 (by omega)
          · have c2 : x3 = 0 := by first | exact c2 | exact Int.not_le.mp c2 | exact Int.not_lt.mp c2 | exact Decidable.not_not.mp c2
            show jGo E l 117 229 229 _ 23 [.inr (.inr (.inl 176)), .inl a1, .inl a2, .inl x3, .inr (.inr (.inr ())), .inr (.inr (.inr ())), .inr (.inr (.inr ())), .inr (.inr (.inr ()))] [.inl 0, .inl x3, .inr (.inr (.inl 223))] 229 jr0 g
            refine jGo_blk qX12_solve_23 ?_
            refine st_si jo_223 (show 0 ≤ x3 by omega) (show x3 < ((64 : Nat) : Int) by omega) (fun hx => (jba_223 _ _).2 hx) (fun g6 eg6 => ?_)
            have eg6 : g6 = jup g 223 x3 0 := eg6
            have fg6 : jfr w_X12_solve h g6 := jfr_up hf eg6 (by unfold w_X12_solve; omega)
            have e7 : g6 223 x3 = 0 := jup_s eg6
            have e8 : jw32 (x3 + 1) = x3 + 1 := j32e (by omega) (by omega)
            show jGo E l 117 229 229 _ 2 [.inr (.inr (.inl 176)), .inl a1, .inl a2, .inl (jw32 (x3 + 1)), .inr (.inr (.inr ())), .inr (.inr (.inr ())), .inr (.inr (.inr ())), .inr (.inr (.inr ()))] [] 229 jr0 g6
            exact ih.1 (jw32 (x3 + 1)) g6 (by omega) fg6 (by omega)
      · intro x3 x4 x5 x6 x7 g hi hf hN
        refine jGo_blk qX12_solve_32 ?_
        refine st_gi jo_176 (fun v9 ev9 b10 => ?_)
        have ev9 : v9 = g 176 34 := ev9
        have b10 := (jbf_12_34 jo_176 _).1 b10
        refine And.intro (fun c11 => ?_) (fun c11 => ?_)
        · have c11 : v9 ≤ x3 := c11
          show jGo E l 117 229 229 _ 198 [.inr (.inr (.inl 176)), .inl a1, .inl a2, .inl x3, x4, x5, x6, x7] [] 229 jr0 g
          refine jGo_blk qX12_solve_198 ?_
          refine st_pi jo_176 (fun hx => (jbf_12_55 jo_176 _).2 hx) (fun g12 eg12 => ?_)
          have eg12 : g12 = jup g 176 55 0 := eg12
          have fg12 : jfr w_X12_solve h g12 := jfr_up hf eg12 (by unfold w_X12_solve; omega)
          have e13 : g12 176 55 = 0 := jup_s eg12
          refine st_pi jo_176 (fun hx => (jbf_12_56 jo_176 _).2 hx) (fun g14 eg14 => ?_)
          have eg14 : g14 = jup g12 176 56 0 := eg14
          have fg14 : jfr w_X12_solve h g14 := jfr_up fg12 eg14 (by unfold w_X12_solve; omega)
          have e15 : g14 176 56 = 0 := jup_s eg14
          show jGo E l 117 229 229 _ 210 [.inr (.inr (.inl 176)), .inl a1, .inl a2, .inl 1, x4, x5, x6, x7] [] 229 jr0 g14
          exact ih.2.2.2.2 1 x4 x5 x6 x7 g14 (by omega) fg14 (by omega)
        · have c11 : x3 < v9 := by first | exact c11 | exact Int.not_le.mp c11 | exact Int.not_lt.mp c11 | exact Decidable.not_not.mp c11
          refine st_gr jo_176 jr_176_52 ?_
          refine st_bi jo_221 (show 0 ≤ x3 by omega) (show x3 < ((40 : Nat) : Int) by omega) (fun v16 ev16 b17 => ?_)
          have ev16 : v16 = g 221 x3 := ev16
          have b17 := (jba_221 x3 _).1 b17
          refine And.intro (fun c18 => ?_) (fun c18 => ?_)
          · have c18 : v16 = 0 := c18
            show jGo E l 117 229 229 _ 52 [.inr (.inr (.inl 176)), .inl a1, .inl a2, .inl x3, x4, x5, x6, x7] [] 229 jr0 g
            refine jGo_blk qX12_solve_52 ?_
            show jGo E l 117 229 229 _ 56 [.inr (.inr (.inl 176)), .inl a1, .inl a2, .inl x3, .inl 63, x5, x6, x7] [] 229 jr0 g
            exact ih.2.2.1 x3 63 x5 x6 x7 g (by omega) hf (by omega)
          · have c18 : ¬ v16 = 0 := by first | exact c18 | exact Int.not_le.mp c18 | exact Int.not_lt.mp c18 | exact Decidable.not_not.mp c18
            show jGo E l 117 229 229 _ 192 [.inr (.inr (.inl 176)), .inl a1, .inl a2, .inl x3, x4, x5, x6, x7] [] 229 jr0 g
            refine jGo_blk qX12_solve_192 ?_
            have e19 : jw32 (x3 + 1) = x3 + 1 := j32e (by omega) (by omega)
            show jGo E l 117 229 229 _ 32 [.inr (.inr (.inl 176)), .inl a1, .inl a2, .inl (jw32 (x3 + 1)), x4, x5, x6, x7] [] 229 jr0 g
            exact ih.2.1 (jw32 (x3 + 1)) x4 x5 x6 x7 g (by omega) hf (by omega)
      · intro x3 x4 x5 x6 x7 g hi hf hN
        refine jGo_blk qX12_solve_56 ?_
        refine And.intro (fun c20 => ?_) (fun c20 => ?_)
        · have c20 : x4 ≤ 0 := c20
          show jGo E l 117 229 229 _ 192 [.inr (.inr (.inl 176)), .inl a1, .inl a2, .inl x3, .inl x4, x5, x6, x7] [] 229 jr0 g
          refine jGo_blk qX12_solve_192 ?_
          have e21 : jw32 (x3 + 1) = x3 + 1 := j32e (by omega) (by omega)
          show jGo E l 117 229 229 _ 32 [.inr (.inr (.inl 176)), .inl a1, .inl a2, .inl (jw32 (x3 + 1)), .inl x4, x5, x6, x7] [] 229 jr0 g
          exact ih.2.1 (jw32 (x3 + 1)) (.inl x4) x5 x6 x7 g (by omega) hf (by omega)
        · have c20 : 0 < x4 := by first | exact c20 | exact Int.not_le.mp c20 | exact Int.not_lt.mp c20 | exact Decidable.not_not.mp c20
          show jGo E l 117 229 229 _ 64 [.inr (.inr (.inl 176)), .inl a1, .inl a2, .inl x3, .inl x4, .inl a2, x6, x7] [] 229 jr0 g
          exact ih.2.2.2.1 x3 x4 a2 x6 x7 g (by omega) hf (by omega)
      · intro x3 x4 x5 x6 x7 g hi hf hN
        refine jGo_blk qX12_solve_64 ?_
        refine st_gr jo_176 jr_176_40 ?_
        refine st_ai jo_210 (show 0 ≤ a1 by omega) (show a1 < ((3 : Nat) : Int) by omega) (fun v22 ev22 b23 => ?_)
        have ev22 : v22 = g 210 a1 := ev22
        have b23 := (jba_210 a1 _).1 b23
        refine And.intro (fun c24 => ?_) (fun c24 => ?_)
        · have c24 : v22 ≤ x5 := c24
          show jGo E l 117 229 229 _ 186 [.inr (.inr (.inl 176)), .inl a1, .inl a2, .inl x3, .inl x4, .inl x5, x6, x7] [] 229 jr0 g
          refine jGo_blk qX12_solve_186 ?_
          have e25 : jw32 (x4 + (-1)) = x4 + (-1) := j32e (by omega) (by omega)
          show jGo E l 117 229 229 _ 56 [.inr (.inr (.inl 176)), .inl a1, .inl a2, .inl x3, .inl (jw32 (x4 + (-1))), .inl x5, x6, x7] [] 229 jr0 g
          exact ih.2.2.1 x3 (jw32 (x4 + (-1))) (.inl x5) x6 x7 g (by omega) hf (by omega)
        · have c24 : x5 < v22 := by first | exact c24 | exact Int.not_le.mp c24 | exact Int.not_lt.mp c24 | exact Decidable.not_not.mp c24
          have e26 := jshl1_5 x5 (by omega) (by omega)
          have e27 := jand_le x4 (jxor (jshl 1 x5) (-1)) (by omega) (by omega)
          refine And.intro (fun c28 => ?_) (fun c28 => ?_)
          · have c28 : jand x4 (jxor (jshl 1 x5) (-1)) = x4 := c28
            show jGo E l 117 229 229 _ 180 [.inr (.inr (.inl 176)), .inl a1, .inl a2, .inl x3, .inl x4, .inl x5, .inl (jand x4 (jxor (jshl 1 x5) (-1))), x7] [] 229 jr0 g
            refine jGo_blk qX12_solve_180 ?_
            have e29 : jw32 (x5 + 1) = x5 + 1 := j32e (by omega) (by omega)
            show jGo E l 117 229 229 _ 64 [.inr (.inr (.inl 176)), .inl a1, .inl a2, .inl x3, .inl x4, .inl (jw32 (x5 + 1)), .inl (jand x4 (jxor (jshl 1 x5) (-1))), x7] [] 229 jr0 g
            exact ih.2.2.2.1 x3 x4 (jw32 (x5 + 1)) (.inl (jand x4 (jxor (jshl 1 x5) (-1)))) x7 g (by omega) hf (by omega)
          · have c28 : ¬ jand x4 (jxor (jshl 1 x5) (-1)) = x4 := by first | exact c28 | exact Int.not_le.mp c28 | exact Int.not_lt.mp c28 | exact Decidable.not_not.mp c28
            refine st_gr jo_176 jr_176_54 ?_
            refine st_ai jo_223 (show 0 ≤ jand x4 (jxor (jshl 1 x5) (-1)) by omega) (show jand x4 (jxor (jshl 1 x5) (-1)) < ((64 : Nat) : Int) by omega) (fun v30 ev30 b31 => ?_)
            have ev30 : v30 = g 223 (jand x4 (jxor (jshl 1 x5) (-1))) := ev30
            have b31 := (jba_223 (jand x4 (jxor (jshl 1 x5) (-1))) _).1 b31
            refine And.intro (fun c32 => ?_) (fun c32 => ?_)
            · have c32 : 2000000000 ≤ v30 := c32
              show jGo E l 117 229 229 _ 180 [.inr (.inr (.inl 176)), .inl a1, .inl a2, .inl x3, .inl x4, .inl x5, .inl (jand x4 (jxor (jshl 1 x5) (-1))), x7] [] 229 jr0 g
              refine jGo_blk qX12_solve_180 ?_
              have e33 : jw32 (x5 + 1) = x5 + 1 := j32e (by omega) (by omega)
              show jGo E l 117 229 229 _ 64 [.inr (.inr (.inl 176)), .inl a1, .inl a2, .inl x3, .inl x4, .inl (jw32 (x5 + 1)), .inl (jand x4 (jxor (jshl 1 x5) (-1))), x7] [] 229 jr0 g
              exact ih.2.2.2.1 x3 x4 (jw32 (x5 + 1)) (.inl (jand x4 (jxor (jshl 1 x5) (-1)))) x7 g (by omega) hf (by omega)
            · have c32 : v30 < 2000000000 := by first | exact c32 | exact Int.not_le.mp c32 | exact Int.not_lt.mp c32 | exact Decidable.not_not.mp c32
              have e34 : jw32 (6 * a1) = 6 * a1 := j32e (by omega) (by omega)
              have e35 : jw32 ((jw32 (6 * a1)) + x5) = (jw32 (6 * a1)) + x5 := j32e (by omega) (by omega)
              refine st_cv (na := 2) (st := [.inl (jw32 ((jw32 (6 * a1)) + x5)), .inl x3, .inr (.inr (.inl 176))]) jo_176 rfl rfl rfl (c_X12_fits x3 (jw32 ((jw32 (6 * a1)) + x5)) g (by omega) (by omega)) rfl ?_
              rintro _ _ _ ⟨rfl, rfl, t36, rfl, ht36, zt36⟩ kt36
              have kt36 : -2147483648 ≤ t36 ∧ t36 ≤ 2147483647 := kt36
              have ht36 : 0 ≤ t36 ∧ t36 ≤ 1 := ht36
              refine And.intro (fun c38 => ?_) (fun c38 => ?_)
              · have c38 : t36 = 0 := c38
                show jGo E l 117 229 229 _ 180 [.inr (.inr (.inl 176)), .inl a1, .inl a2, .inl x3, .inl x4, .inl x5, .inl (jand x4 (jxor (jshl 1 x5) (-1))), x7] [] 229 jr0 g
                refine jGo_blk qX12_solve_180 ?_
                have e39 : jw32 (x5 + 1) = x5 + 1 := j32e (by omega) (by omega)
                show jGo E l 117 229 229 _ 64 [.inr (.inr (.inl 176)), .inl a1, .inl a2, .inl x3, .inl x4, .inl (jw32 (x5 + 1)), .inl (jand x4 (jxor (jshl 1 x5) (-1))), x7] [] 229 jr0 g
                exact ih.2.2.2.1 x3 x4 (jw32 (x5 + 1)) (.inl (jand x4 (jxor (jshl 1 x5) (-1)))) x7 g (by omega) hf (by omega)
              · have c38 : ¬ t36 = 0 := by first | exact c38 | exact Int.not_le.mp c38 | exact Int.not_lt.mp c38 | exact Decidable.not_not.mp c38
                refine st_gr jo_176 jr_176_54 ?_
                refine st_ai jo_223 (show 0 ≤ jand x4 (jxor (jshl 1 x5) (-1)) by omega) (show jand x4 (jxor (jshl 1 x5) (-1)) < ((64 : Nat) : Int) by omega) (fun v40 ev40 b41 => ?_)
                have ev40 : v40 = g 223 (jand x4 (jxor (jshl 1 x5) (-1))) := ev40
                have b41 := (jba_223 (jand x4 (jxor (jshl 1 x5) (-1))) _).1 b41
                refine st_gr jo_176 jr_176_37 ?_
                refine st_ai jo_207 (show 0 ≤ x3 by omega) (show x3 < ((40 : Nat) : Int) by omega) (fun v42 ev42 b43 => ?_)
                have ev42 : v42 = g 207 x3 := ev42
                have b43 := (jba_207 x3 _).1 b43
                refine st_gr jo_176 jr_176_44 ?_
                have e44 : jw32 (6 * a1) = 6 * a1 := j32e (by omega) (by omega)
                have e45 : jw32 ((jw32 (6 * a1)) + x5) = (jw32 (6 * a1)) + x5 := j32e (by omega) (by omega)
                refine st_ai jo_214 (show 0 ≤ jw32 ((jw32 (6 * a1)) + x5) by omega) (show jw32 ((jw32 (6 * a1)) + x5) < ((18 : Nat) : Int) by omega) (fun v46 ev46 b47 => ?_)
                have ev46 : v46 = g 214 (jw32 ((jw32 (6 * a1)) + x5)) := ev46
                have b47 := (jba_214 (jw32 ((jw32 (6 * a1)) + x5)) _).1 b47
                refine st_gr jo_176 jr_176_54 ?_
                refine st_gr jo_176 jr_176_54 ?_
                refine st_ai jo_223 (show 0 ≤ x4 by omega) (show x4 < ((64 : Nat) : Int) by omega) (fun v48 ev48 b49 => ?_)
                have ev48 : v48 = g 223 x4 := ev48
                have b49 := (jba_223 x4 _).1 b49
                refine And.intro (fun c50 => ?_) (fun c50 => ?_)
                · have c50 : v48 ≤ jw32 ((jw32 (v40 + v42)) - v46) := c50
                  show jGo E l 117 229 229 _ 172 [.inr (.inr (.inl 176)), .inl a1, .inl a2, .inl x3, .inl x4, .inl x5, .inl (jand x4 (jxor (jshl 1 x5) (-1))), .inl (jw32 ((jw32 (v40 + v42)) - v46))] [.inl x4, .inr (.inr (.inl 223))] 229 jr0 g
                  refine jGo_blk qX12_solve_172 ?_
                  refine st_gr jo_176 jr_176_54 ?_
                  refine st_ai jo_223 (show 0 ≤ x4 by omega) (show x4 < ((64 : Nat) : Int) by omega) (fun v51 ev51 b52 => ?_)
                  have ev51 : v51 = g 223 x4 := ev51
                  have b52 := (jba_223 x4 _).1 b52
                  show jGo E l 117 229 229 _ 179 [.inr (.inr (.inl 176)), .inl a1, .inl a2, .inl x3, .inl x4, .inl x5, .inl (jand x4 (jxor (jshl 1 x5) (-1))), .inl (jw32 ((jw32 (v40 + v42)) - v46))] [.inl v51, .inl x4, .inr (.inr (.inl 223))] 229 jr0 g
                  refine jGo_blk qX12_solve_179 ?_
                  refine st_si jo_223 (show 0 ≤ x4 by omega) (show x4 < ((64 : Nat) : Int) by omega) (fun hx => (jba_223 _ _).2 hx) (fun g53 eg53 => ?_)
                  have eg53 : g53 = jup g 223 x4 v51 := eg53
                  have fg53 : jfr w_X12_solve h g53 := jfr_up hf eg53 (by unfold w_X12_solve; omega)
                  have e54 : g53 223 x4 = v51 := jup_s eg53
                  show jGo E l 117 229 229 _ 180 [.inr (.inr (.inl 176)), .inl a1, .inl a2, .inl x3, .inl x4, .inl x5, .inl (jand x4 (jxor (jshl 1 x5) (-1))), .inl (jw32 ((jw32 (v40 + v42)) - v46))] [] 229 jr0 g53
                  refine jGo_blk qX12_solve_180 ?_
                  have e55 : jw32 (x5 + 1) = x5 + 1 := j32e (by omega) (by omega)
                  show jGo E l 117 229 229 _ 64 [.inr (.inr (.inl 176)), .inl a1, .inl a2, .inl x3, .inl x4, .inl (jw32 (x5 + 1)), .inl (jand x4 (jxor (jshl 1 x5) (-1))), .inl (jw32 ((jw32 (v40 + v42)) - v46))] [] 229 jr0 g53
                  exact ih.2.2.2.1 x3 x4 (jw32 (x5 + 1)) (.inl (jand x4 (jxor (jshl 1 x5) (-1)))) (.inl (jw32 ((jw32 (v40 + v42)) - v46))) g53 (by omega) fg53 (by omega)
                · have c50 : jw32 ((jw32 (v40 + v42)) - v46) < v48 := by first | exact c50 | exact Int.not_le.mp c50 | exact Int.not_lt.mp c50 | exact Decidable.not_not.mp c50
                  show jGo E l 117 229 229 _ 179 [.inr (.inr (.inl 176)), .inl a1, .inl a2, .inl x3, .inl x4, .inl x5, .inl (jand x4 (jxor (jshl 1 x5) (-1))), .inl (jw32 ((jw32 (v40 + v42)) - v46))] [.inl (jw32 ((jw32 (v40 + v42)) - v46)), .inl x4, .inr (.inr (.inl 223))] 229 jr0 g
                  refine jGo_blk qX12_solve_179 ?_
                  refine st_si jo_223 (show 0 ≤ x4 by omega) (show x4 < ((64 : Nat) : Int) by omega) (fun hx => (jba_223 _ _).2 hx) (fun g56 eg56 => ?_)
                  have eg56 : g56 = jup g 223 x4 (jw32 ((jw32 (v40 + v42)) - v46)) := eg56
                  have fg56 : jfr w_X12_solve h g56 := jfr_up hf eg56 (by unfold w_X12_solve; omega)
                  have e57 : g56 223 x4 = jw32 ((jw32 (v40 + v42)) - v46) := jup_s eg56
                  show jGo E l 117 229 229 _ 180 [.inr (.inr (.inl 176)), .inl a1, .inl a2, .inl x3, .inl x4, .inl x5, .inl (jand x4 (jxor (jshl 1 x5) (-1))), .inl (jw32 ((jw32 (v40 + v42)) - v46))] [] 229 jr0 g56
                  refine jGo_blk qX12_solve_180 ?_
                  have e58 : jw32 (x5 + 1) = x5 + 1 := j32e (by omega) (by omega)
                  show jGo E l 117 229 229 _ 64 [.inr (.inr (.inl 176)), .inl a1, .inl a2, .inl x3, .inl x4, .inl (jw32 (x5 + 1)), .inl (jand x4 (jxor (jshl 1 x5) (-1))), .inl (jw32 ((jw32 (v40 + v42)) - v46))] [] 229 jr0 g56
                  exact ih.2.2.2.1 x3 x4 (jw32 (x5 + 1)) (.inl (jand x4 (jxor (jshl 1 x5) (-1)))) (.inl (jw32 ((jw32 (v40 + v42)) - v46))) g56 (by omega) fg56 (by omega)
      · intro x3 x4 x5 x6 x7 g hi hf hN
        refine jGo_blk qX12_solve_210 ?_
        refine And.intro (fun c59 => ?_) (fun c59 => ?_)
        · have c59 : 64 ≤ x3 := c59
          show jGo E l 117 229 229 _ 298 [.inr (.inr (.inl 176)), .inl a1, .inl a2, .inl x3, x4, x5, x6, x7] [] 229 jr0 g
          refine jGo_blk qX12_solve_298 ?_
          exact ⟨rfl, rfl, hf, rfl, trivial⟩
        · have c59 : x3 < 64 := by first | exact c59 | exact Int.not_le.mp c59 | exact Int.not_lt.mp c59 | exact Decidable.not_not.mp c59
          refine st_gr jo_176 jr_176_54 ?_
          refine st_ai jo_223 (show 0 ≤ x3 by omega) (show x3 < ((64 : Nat) : Int) by omega) (fun v60 ev60 b61 => ?_)
          have ev60 : v60 = g 223 x3 := ev60
          have b61 := (jba_223 x3 _).1 b61
          refine And.intro (fun c62 => ?_) (fun c62 => ?_)
          · have c62 : 2000000000 ≤ v60 := c62
            show jGo E l 117 229 229 _ 231 [.inr (.inr (.inl 176)), .inl a1, .inl a2, .inl x3, x4, x5, x6, x7] [] 229 jr0 g
            refine jGo_blk qX12_solve_231 ?_
            show jGo E l 117 229 229 _ 232 [.inr (.inr (.inl 176)), .inl a1, .inl a2, .inl x3, x4, x5, x6, x7] [.inl 0] 229 jr0 g
            refine jGo_blk qX12_solve_232 ?_
            refine st_cs (na := 1) (st := [.inl x3]) rfl rfl rfl (c_X12_ones x3 g (by omega)) rfl ?_
            rintro _ _ _ ⟨rfl, rfl, t63, rfl, ht63, zt63⟩ kt63
            have kt63 : -2147483648 ≤ t63 ∧ t63 ≤ 2147483647 := kt63
            refine And.intro (fun c65 => ?_) (fun c65 => ?_)
            · have c65 : (0 : Int) = 0 := c65
              show jGo E l 117 229 229 _ 292 [.inr (.inr (.inl 176)), .inl a1, .inl a2, .inl x3, .inl 0, .inl t63, x6, x7] [] 229 jr0 g
              refine jGo_blk qX12_solve_292 ?_
              have e66 : jw32 (x3 + 1) = x3 + 1 := j32e (by omega) (by omega)
              show jGo E l 117 229 229 _ 210 [.inr (.inr (.inl 176)), .inl a1, .inl a2, .inl (jw32 (x3 + 1)), .inl 0, .inl t63, x6, x7] [] 229 jr0 g
              exact ih.2.2.2.2 (jw32 (x3 + 1)) (.inl 0) (.inl t63) x6 x7 g (by omega) hf (by omega)
            · have c65 : ¬ (0 : Int) = 0 := by first | exact c65 | exact Int.not_le.mp c65 | exact Int.not_lt.mp c65 | exact Decidable.not_not.mp c65
              exfalso; omega
          · have c62 : v60 < 2000000000 := by first | exact c62 | exact Int.not_le.mp c62 | exact Int.not_lt.mp c62 | exact Decidable.not_not.mp c62
            show jGo E l 117 229 229 _ 232 [.inr (.inr (.inl 176)), .inl a1, .inl a2, .inl x3, x4, x5, x6, x7] [.inl 1] 229 jr0 g
            refine jGo_blk qX12_solve_232 ?_
            refine st_cs (na := 1) (st := [.inl x3]) rfl rfl rfl (c_X12_ones x3 g (by omega)) rfl ?_
            rintro _ _ _ ⟨rfl, rfl, t67, rfl, ht67, zt67⟩ kt67
            have kt67 : -2147483648 ≤ t67 ∧ t67 ≤ 2147483647 := kt67
            refine And.intro (fun c69 => ?_) (fun c69 => ?_)
            · have c69 : (1 : Int) = 0 := c69
              exfalso; omega
            · have c69 : ¬ (1 : Int) = 0 := by first | exact c69 | exact Int.not_le.mp c69 | exact Int.not_lt.mp c69 | exact Decidable.not_not.mp c69
              refine st_gi jo_176 (fun v70 ev70 b71 => ?_)
              have ev70 : v70 = g 176 55 := ev70
              have b71 := (jbf_12_55 jo_176 _).1 b71
              refine And.intro (fun c72 => ?_) (fun c72 => ?_)
              · have c72 : v70 < t67 := c72
                show jGo E l 117 229 229 _ 276 [.inr (.inr (.inl 176)), .inl a1, .inl a2, .inl x3, .inl 1, .inl t67, x6, x7] [] 229 jr0 g
                refine jGo_blk qX12_solve_276 ?_
                refine st_pi jo_176 (fun hx => (jbf_12_55 jo_176 _).2 hx) (fun g73 eg73 => ?_)
                have eg73 : g73 = jup g 176 55 t67 := eg73
                have fg73 : jfr w_X12_solve h g73 := jfr_up hf eg73 (by unfold w_X12_solve; omega)
                have e74 : g73 176 55 = t67 := jup_s eg73
                refine st_gr jo_176 jr_176_54 ?_
                refine st_ai jo_223 (show 0 ≤ x3 by omega) (show x3 < ((64 : Nat) : Int) by omega) (fun v75 ev75 b76 => ?_)
                have ev75 : v75 = g73 223 x3 := ev75
                have b76 := (jba_223 x3 _).1 b76
                refine st_pi jo_176 (fun hx => (jbf_12_56 jo_176 _).2 hx) (fun g77 eg77 => ?_)
                have eg77 : g77 = jup g73 176 56 v75 := eg77
                have fg77 : jfr w_X12_solve h g77 := jfr_up fg73 eg77 (by unfold w_X12_solve; omega)
                have e78 : g77 176 56 = v75 := jup_s eg77
                show jGo E l 117 229 229 _ 292 [.inr (.inr (.inl 176)), .inl a1, .inl a2, .inl x3, .inl 1, .inl t67, x6, x7] [] 229 jr0 g77
                refine jGo_blk qX12_solve_292 ?_
                have e79 : jw32 (x3 + 1) = x3 + 1 := j32e (by omega) (by omega)
                show jGo E l 117 229 229 _ 210 [.inr (.inr (.inl 176)), .inl a1, .inl a2, .inl (jw32 (x3 + 1)), .inl 1, .inl t67, x6, x7] [] 229 jr0 g77
                exact ih.2.2.2.2 (jw32 (x3 + 1)) (.inl 1) (.inl t67) x6 x7 g77 (by omega) fg77 (by omega)
              · have c72 : t67 ≤ v70 := by first | exact c72 | exact Int.not_le.mp c72 | exact Int.not_lt.mp c72 | exact Decidable.not_not.mp c72
                refine st_gi jo_176 (fun v80 ev80 b81 => ?_)
                have ev80 : v80 = g 176 55 := ev80
                have b81 := (jbf_12_55 jo_176 _).1 b81
                refine And.intro (fun c82 => ?_) (fun c82 => ?_)
                · have c82 : ¬ t67 = v80 := c82
                  show jGo E l 117 229 229 _ 292 [.inr (.inr (.inl 176)), .inl a1, .inl a2, .inl x3, .inl 1, .inl t67, x6, x7] [] 229 jr0 g
                  refine jGo_blk qX12_solve_292 ?_
                  have e83 : jw32 (x3 + 1) = x3 + 1 := j32e (by omega) (by omega)
                  show jGo E l 117 229 229 _ 210 [.inr (.inr (.inl 176)), .inl a1, .inl a2, .inl (jw32 (x3 + 1)), .inl 1, .inl t67, x6, x7] [] 229 jr0 g
                  exact ih.2.2.2.2 (jw32 (x3 + 1)) (.inl 1) (.inl t67) x6 x7 g (by omega) hf (by omega)
                · have c82 : t67 = v80 := by first | exact c82 | exact Int.not_le.mp c82 | exact Int.not_lt.mp c82 | exact Decidable.not_not.mp c82
                  refine st_gr jo_176 jr_176_54 ?_
                  refine st_ai jo_223 (show 0 ≤ x3 by omega) (show x3 < ((64 : Nat) : Int) by omega) (fun v84 ev84 b85 => ?_)
                  have ev84 : v84 = g 223 x3 := ev84
                  have b85 := (jba_223 x3 _).1 b85
                  refine st_gi jo_176 (fun v86 ev86 b87 => ?_)
                  have ev86 : v86 = g 176 56 := ev86
                  have b87 := (jbf_12_56 jo_176 _).1 b87
                  refine And.intro (fun c88 => ?_) (fun c88 => ?_)
                  · have c88 : v86 ≤ v84 := c88
                    show jGo E l 117 229 229 _ 292 [.inr (.inr (.inl 176)), .inl a1, .inl a2, .inl x3, .inl 1, .inl t67, x6, x7] [] 229 jr0 g
                    refine jGo_blk qX12_solve_292 ?_
                    have e89 : jw32 (x3 + 1) = x3 + 1 := j32e (by omega) (by omega)
                    show jGo E l 117 229 229 _ 210 [.inr (.inr (.inl 176)), .inl a1, .inl a2, .inl (jw32 (x3 + 1)), .inl 1, .inl t67, x6, x7] [] 229 jr0 g
                    exact ih.2.2.2.2 (jw32 (x3 + 1)) (.inl 1) (.inl t67) x6 x7 g (by omega) hf (by omega)
                  · have c88 : v84 < v86 := by first | exact c88 | exact Int.not_le.mp c88 | exact Int.not_lt.mp c88 | exact Decidable.not_not.mp c88
                    show jGo E l 117 229 229 _ 276 [.inr (.inr (.inl 176)), .inl a1, .inl a2, .inl x3, .inl 1, .inl t67, x6, x7] [] 229 jr0 g
                    refine jGo_blk qX12_solve_276 ?_
                    refine st_pi jo_176 (fun hx => (jbf_12_55 jo_176 _).2 hx) (fun g90 eg90 => ?_)
                    have eg90 : g90 = jup g 176 55 t67 := eg90
                    have fg90 : jfr w_X12_solve h g90 := jfr_up hf eg90 (by unfold w_X12_solve; omega)
                    have e91 : g90 176 55 = t67 := jup_s eg90
                    refine st_gr jo_176 jr_176_54 ?_
                    refine st_ai jo_223 (show 0 ≤ x3 by omega) (show x3 < ((64 : Nat) : Int) by omega) (fun v92 ev92 b93 => ?_)
                    have ev92 : v92 = g90 223 x3 := ev92
                    have b93 := (jba_223 x3 _).1 b93
                    refine st_pi jo_176 (fun hx => (jbf_12_56 jo_176 _).2 hx) (fun g94 eg94 => ?_)
                    have eg94 : g94 = jup g90 176 56 v92 := eg94
                    have fg94 : jfr w_X12_solve h g94 := jfr_up fg90 eg94 (by unfold w_X12_solve; omega)
                    have e95 : g94 176 56 = v92 := jup_s eg94
                    show jGo E l 117 229 229 _ 292 [.inr (.inr (.inl 176)), .inl a1, .inl a2, .inl x3, .inl 1, .inl t67, x6, x7] [] 229 jr0 g94
                    refine jGo_blk qX12_solve_292 ?_
                    have e96 : jw32 (x3 + 1) = x3 + 1 := j32e (by omega) (by omega)
                    show jGo E l 117 229 229 _ 210 [.inr (.inr (.inl 176)), .inl a1, .inl a2, .inl (jw32 (x3 + 1)), .inl 1, .inl t67, x6, x7] [] 229 jr0 g94
                    exact ih.2.2.2.2 (jw32 (x3 + 1)) (.inl 1) (.inl t67) x6 x7 g94 (by omega) fg94 (by omega)
  refine jGo_blk qX12_solve_0 ?_
  show jGo E l 117 229 229 _ 2 [.inr (.inr (.inl 176)), .inl a1, .inl a2, .inl 0, .inr (.inr (.inr ())), .inr (.inr (.inr ())), .inr (.inr (.inr ())), .inr (.inr (.inr ()))] [] 229 jr0 h
  exact (key 1000000000000000000000000).1 0 h (by omega) f0 (by omega)
