def RR_X1_init_2 (r : JH) : JH := jup (jnw (jup (jmu (jnw (jup (jnw (jup (jnw (r) 3 1 (-1)) 2 0 3) 4 1 (-1)) 2 1 4) 5 5 (-1)) 5 4) 2 2 5) 10 1 (-1)) 2 3 10
set_option maxHeartbeats 4000000 in
set_option maxRecDepth 20000 in
theorem n_X1_init_2 {E : JE} {l : Launch} (r h : JH) : jMt E l 1 [.inr (.inr (.inl 2))] 3 r h (fun v r' h' => v = none ∧ r' = RR_X1_init_2 r ∧ jst 3 h 11 h') := by
  refine jMtn (nL := 1) (n1 := 11) (ls := [.inr (.inr (.inl 2))]) (by decide +kernel) (by decide +kernel) (by decide +kernel) (by decide) rfl rfl ?_
  have q0 := jst_rf 3 h
  refine jGo_blk qX1_init_0 ?_
  refine st_ob (by decide) rfl ?_
  refine st_na (t := 1) (c := 4) (by decide) (by decide) rfl (by decide +kernel) (fun h1 eh1 => ?_)
  have qh1 := jst_new (c := 1) q0 eh1
  refine st_pr (jo_sum (n := 4) (i := 2) (t := 0) (N := 1) (by decide +kernel)) (by decide) ?_
  refine st_na (t := 1) (c := 4) (by decide) (by decide) rfl (by decide +kernel) (fun h2 eh2 => ?_)
  have qh2 := jst_new (c := 1) qh1 eh2
  refine st_pr (jo_sum (n := 5) (i := 2) (t := 0) (N := 1) (by decide +kernel)) (by decide) ?_
  refine st_nm (c := 4) (k := 30) (by decide) (by decide) (by decide) (by decide) rfl (by decide +kernel) (by decide +kernel) (fun h3 eh3 => ?_)
  have qh3 := jst_new (c := 1 + (4 : Int).toNat) qh2 eh3
  refine st_pr (jo_sum (n := 10) (i := 2) (t := 0) (N := 1) (by decide +kernel)) (by decide) ?_
  refine st_na (t := 1) (c := 4) (by decide) (by decide) rfl (by decide +kernel) (fun h4 eh4 => ?_)
  have qh4 := jst_new (c := 1) qh3 eh4
  refine st_pr (jo_sum (n := 11) (i := 2) (t := 0) (N := 1) (by decide +kernel)) (by decide) ?_
  refine st_gr (v := 4) (jo_sum (n := 11) (i := 2) (t := 0) (N := 1) (by decide +kernel)) rfl ?_
  refine st_cs (na := 2) (st := [.inl (-1), .inr (.inr (.inl 4))]) rfl rfl rfl (c_fillG (n := 11) (by decide) 4 (-1) h4 (jo_sum (n := 11) (i := 4) (t := 1) (N := 4) (by decide +kernel)) (by decide) (fun k _ => (jba_4 _ _).2 (by decide))) rfl ?_
  rintro _ _ h5 ⟨rfl, fh5, rfl, zh5⟩ _
  have qh5 := jst_fr qh4 fh5 (by decide) (by unfold jWi; decide)
  refine st_gr (v := 10) (jo_sum (n := 11) (i := 2) (t := 0) (N := 1) (by decide +kernel)) rfl ?_
  refine st_cs (na := 2) (st := [.inl (-1), .inr (.inr (.inl 10))]) rfl rfl rfl (c_fillG (n := 11) (by decide) 10 (-1) h5 (jo_sum (n := 11) (i := 10) (t := 1) (N := 4) (by decide +kernel)) (by decide) (fun k _ => (jba_10 _ _).2 (by decide))) rfl ?_
  rintro _ _ h6 ⟨rfl, fh6, rfl, zh6⟩ _
  have qh6 := jst_fr qh5 fh6 (by decide) (by unfold jWi; decide)
  exact ⟨rfl, rfl, rfl, qh6⟩

def RR_X2_init_11 (r : JH) : JH := jup (jnw (jup (jnw (jup (jnw (jup (jnw (r) 12 1 (-1)) 11 1 12) 13 1 (-1)) 11 2 13) 14 1 (-1)) 11 3 14) 15 1 (-1)) 11 4 15
set_option maxHeartbeats 4000000 in
set_option maxRecDepth 20000 in
theorem n_X2_init_11 {E : JE} {l : Launch} (r h : JH) : jMt E l 2 [.inr (.inr (.inl 11))] 12 r h (fun v r' h' => v = none ∧ r' = RR_X2_init_11 r ∧ jst 12 h 16 h') := by
  refine jMtn (nL := 1) (n1 := 16) (ls := [.inr (.inr (.inl 11))]) (by decide +kernel) (by decide +kernel) (by decide +kernel) (by decide) rfl rfl ?_
  have q0 := jst_rf 12 h
  refine jGo_blk qX2_init_0 ?_
  refine st_ob (by decide) rfl ?_
  refine st_na (t := 1) (c := 40) (by decide) (by decide) rfl (by decide +kernel) (fun h1 eh1 => ?_)
  have qh1 := jst_new (c := 1) q0 eh1
  refine st_pr (jo_sum (n := 13) (i := 11) (t := 0) (N := 2) (by decide +kernel)) (by decide) ?_
  refine st_na (t := 1) (c := 40) (by decide) (by decide) rfl (by decide +kernel) (fun h2 eh2 => ?_)
  have qh2 := jst_new (c := 1) qh1 eh2
  refine st_pr (jo_sum (n := 14) (i := 11) (t := 0) (N := 2) (by decide +kernel)) (by decide) ?_
  refine st_na (t := 1) (c := 40) (by decide) (by decide) rfl (by decide +kernel) (fun h3 eh3 => ?_)
  have qh3 := jst_new (c := 1) qh2 eh3
  refine st_pr (jo_sum (n := 15) (i := 11) (t := 0) (N := 2) (by decide +kernel)) (by decide) ?_
  refine st_na (t := 1) (c := 10) (by decide) (by decide) rfl (by decide +kernel) (fun h4 eh4 => ?_)
  have qh4 := jst_new (c := 1) qh3 eh4
  refine st_pr (jo_sum (n := 16) (i := 11) (t := 0) (N := 2) (by decide +kernel)) (by decide) ?_
  exact ⟨rfl, rfl, rfl, qh4⟩

def RR_X9_init_16 (r : JH) : JH := jup (jmu (jnw (jup (jmu (jnw (jup (jmu (jnw (r) 17 4 (-1)) 17 3) 16 0 17) 21 4 (-1)) 21 3) 16 1 21) 25 4 (-1)) 25 3) 16 2 25
set_option maxHeartbeats 4000000 in
set_option maxRecDepth 20000 in
theorem n_X9_init_16 {E : JE} {l : Launch} (r h : JH) : jMt E l 3 [.inr (.inr (.inl 16))] 17 r h (fun v r' h' => v = none ∧ r' = RR_X9_init_16 r ∧ jst 17 h 29 h') := by
  refine jMtn (nL := 1) (n1 := 29) (ls := [.inr (.inr (.inl 16))]) (by decide +kernel) (by decide +kernel) (by decide +kernel) (by decide) rfl rfl ?_
  have q0 := jst_rf 17 h
  refine jGo_blk qX9_init_0 ?_
  refine st_ob (by decide) rfl ?_
  refine st_nm (c := 3) (k := 6) (by decide) (by decide) (by decide) (by decide) rfl (by decide +kernel) (by decide +kernel) (fun h1 eh1 => ?_)
  have qh1 := jst_new (c := 1 + (3 : Int).toNat) q0 eh1
  refine st_pr (jo_sum (n := 21) (i := 16) (t := 0) (N := 9) (by decide +kernel)) (by decide) ?_
  refine st_nm (c := 3) (k := 6) (by decide) (by decide) (by decide) (by decide) rfl (by decide +kernel) (by decide +kernel) (fun h2 eh2 => ?_)
  have qh2 := jst_new (c := 1 + (3 : Int).toNat) qh1 eh2
  refine st_pr (jo_sum (n := 25) (i := 16) (t := 0) (N := 9) (by decide +kernel)) (by decide) ?_
  refine st_nm (c := 3) (k := 36) (by decide) (by decide) (by decide) (by decide) rfl (by decide +kernel) (by decide +kernel) (fun h3 eh3 => ?_)
  have qh3 := jst_new (c := 1 + (3 : Int).toNat) qh2 eh3
  refine st_pr (jo_sum (n := 29) (i := 16) (t := 0) (N := 9) (by decide +kernel)) (by decide) ?_
  exact ⟨rfl, rfl, rfl, qh3⟩

def yR_29 (r : JH) : Nat → JH
  | 0 => r
  | k + 1 => jup (RR_hull (((36 + 3 * k : Nat)) : Int) (36 + 3 * k + 1) (jnw (yR_29 r k) (36 + 3 * k) 1 (-1))) 33 (k : Int) (((36 + 3 * k : Nat)) : Int)
theorem yR_29_3 (r : JH) : ∀ k : Nat, yR_29 r k 29 3 = r 29 3
  | 0 => rfl
  | k + 1 => by
    rw [yR_29, jup_ne (by omega), RR_hull]
    rw [jup_ne (by omega), jnw_o (by omega), jup_ne (by omega), jnw_o (by omega), jnw_o (by omega)]
    exact yR_29_3 r k
theorem yk_29 : ∀ k : Nat, k < 16 → jk (((36 + 3 * k : Nat)) : Int) = (0, 4) ∧ jk (((36 + 3 * k + 1 : Nat)) : Int) = (1, 6) ∧ jk (((36 + 3 * k + 1 + 1 : Nat)) : Int) = (1, 6) := by decide +kernel
def RS_X10_init_29 (r : JH) : JH := jup (jnw (jup (jnw (jup (jnw (jup (jnw (jup (jnw (jup (jnw r 30 1 (-1)) 29 0 30) 31 1 (-1)) 29 1 31) 32 1 (-1)) 29 2 32) 33 1 (-1)) 29 3 33) 34 1 (-1)) 29 5 34) 35 1 (-1)) 29 11 35
def RR_X10_init_29 (r : JH) : JH := yR_29 (RS_X10_init_29 r) 16
set_option maxHeartbeats 4000000 in
theorem yl_29 {E : JE} {l : Launch} (r0 h : JH) (hr : r0 29 3 = 33) : ∀ M k : Nat, k + M = 16 → ∀ h1 : JH, jst 30 h (36 + 3 * k) h1 → jGo E l 5 30 84 (jRn 84 (fun v r' h' => v = none ∧ r' = yR_29 r0 16 ∧ jst 30 h 84 h')) 62 [.inr (.inr (.inl 29)), .inl ((k : Nat) : Int)] [] (36 + 3 * k) (yR_29 r0 k) h1 := by
  intro M
  induction M with
  | zero =>
    intro k hk h1 q
    have hk16 : k = 16 := by omega
    subst hk16
    refine jGo_blk qX10_init_62 ?_
    refine And.intro (fun c1 => ?_) (fun c1 => absurd (show (16 : Int) ≤ ((16 : Nat) : Int) by decide) c1)
    show jGo E l 5 30 84 _ 87 [.inr (.inr (.inl 29)), .inl ((16 : Nat) : Int)] [] (36 + 3 * 16) (yR_29 r0 16) h1
    refine jGo_blk qX10_init_87 ?_
    exact ⟨rfl, rfl, rfl, q⟩
  | succ M ih =>
    intro k hk h1 q
    have hk16 : k < 16 := by omega
    obtain ⟨k1, k2, k3⟩ := yk_29 k hk16
    refine jGo_blk qX10_init_62 ?_
    refine And.intro (fun c1 => absurd (show (16 : Int) ≤ ((k : Nat) : Int) from c1) (by omega)) (fun _ => ?_)
    refine st_gr (v := 33) ⟨by decide, by omega, by decide +kernel⟩ ((yR_29_3 r0 k).trans hr) ?_
    refine st_nw (a := 4) (Nat.ble_eq_true_of_le (by omega)) k1 (fun h2 e2 => ?_)
    have q2 := jst_new (c := 1) q e2
    have oh : jF (36 + 3 * k + 1) (((36 + 3 * k : Nat)) : Int) 0 4 := ⟨by omega, by omega, k1⟩
    refine st_cv (c := 2) (na := 0) (st := [.inr (.inr (.inl (((36 + 3 * k : Nat)) : Int))), .inr (.inr (.inl (((36 + 3 * k : Nat)) : Int))), .inl ((k : Nat) : Int), .inr (.inr (.inl 33))]) oh rfl rfl (Nat.ble_eq_true_of_le (by omega)) (n_hull (((36 + 3 * k : Nat)) : Int) (36 + 3 * k + 1) (jnw (yR_29 r0 k) (36 + 3 * k) 1 (-1)) h2 oh (by omega) k2 k3) rfl ?_
    rintro _ _ h3 ⟨rfl, rfl, p3⟩ _
    have q3 := jst_tr q2 p3
    refine st_sr (N := 16) ⟨by decide, by omega, by decide +kernel⟩ (show (0 : Int) ≤ ((k : Nat) : Int) by omega) (show ((k : Nat) : Int) < ((16 : Nat) : Int) by omega) ⟨by omega, by omega, k1⟩ ?_
    have e1 : jw32 (((k : Nat) : Int) + 1) = ((k + 1 : Nat) : Int) := (j32e (by omega) (by omega)).trans (by omega)
    have e4 : 36 + 3 * k + 1 + 2 = 36 + 3 * (k + 1) := by omega
    show jGo E l 5 30 84 _ 62 [.inr (.inr (.inl 29)), .inl (jw32 (((k : Nat) : Int) + 1))] [] (36 + 3 * k + 1 + 2) (yR_29 r0 (k + 1)) h3
    rw [e1, e4]
    exact ih (k + 1) (by omega) h3 (by rw [← e4]; exact q3)
set_option maxHeartbeats 4000000 in
theorem n_X10_init_29 {E : JE} {l : Launch} (r h : JH) : jMt E l 5 [.inr (.inr (.inl 29))] 30 r h (fun v r' h' => v = none ∧ r' = RR_X10_init_29 r ∧ jst 30 h 84 h') := by
  refine jMtn (nL := 2) (n1 := 84) (ls := [.inr (.inr (.inl 29)), .inr (.inr (.inr ()))]) (by decide +kernel) (by decide +kernel) (by decide +kernel) (by decide) rfl rfl ?_
  have q0 := jst_rf 30 h
  refine jGo_blk qX10_init_0 ?_
  refine st_ob (by decide) rfl ?_
  refine st_na (t := 1) (c := 6) (by decide) (by decide) rfl (by decide +kernel) (fun h1 e1 => ?_)
  have q1 := jst_new (c := 1) q0 e1
  refine st_pr (jo_sum (n := 31) (i := 29) (t := 0) (N := 10) (by decide +kernel)) (by decide) ?_
  refine st_na (t := 1) (c := 6) (by decide) (by decide) rfl (by decide +kernel) (fun h2 e2 => ?_)
  have q2 := jst_new (c := 1) q1 e2
  refine st_pr (jo_sum (n := 32) (i := 29) (t := 0) (N := 10) (by decide +kernel)) (by decide) ?_
  refine st_na (t := 1) (c := 6) (by decide) (by decide) rfl (by decide +kernel) (fun h3 e3 => ?_)
  have q3 := jst_new (c := 1) q2 e3
  refine st_pr (jo_sum (n := 33) (i := 29) (t := 0) (N := 10) (by decide +kernel)) (by decide) ?_
  refine st_na (t := 4) (c := 16) (by decide) (by decide) rfl (by decide +kernel) (fun h4 e4 => ?_)
  have q4 := jst_new (c := 1) q3 e4
  refine st_pr (jo_sum (n := 34) (i := 29) (t := 0) (N := 10) (by decide +kernel)) (by decide) ?_
  refine st_na (t := 1) (c := 16) (by decide) (by decide) rfl (by decide +kernel) (fun h5 e5 => ?_)
  have q5 := jst_new (c := 1) q4 e5
  refine st_pr (jo_sum (n := 35) (i := 29) (t := 0) (N := 10) (by decide +kernel)) (by decide) ?_
  refine st_na (t := 1) (c := 4) (by decide) (by decide) rfl (by decide +kernel) (fun h6 e6 => ?_)
  have q6 := jst_new (c := 1) q5 e6
  refine st_pr (jo_sum (n := 36) (i := 29) (t := 0) (N := 10) (by decide +kernel)) (by decide) ?_
  refine st_gr (v := 31) (jo_sum (n := 36) (i := 29) (t := 0) (N := 10) (by decide +kernel)) rfl ?_
  refine st_cs (na := 2) (st := [.inl (-1), .inr (.inr (.inl 31))]) rfl rfl rfl (c_fillG (n := 36) (by decide) 31 (-1) h6 (jo_sum (n := 36) (i := 31) (t := 1) (N := 6) (by decide +kernel)) (by decide) (fun k _ => (jba_31 _ _).2 (by decide))) rfl ?_
  rintro _ _ h7 ⟨rfl, f7, rfl, z7⟩ _
  have q7 := jst_fr q6 f7 (by decide) (by unfold jWi; decide)
  show jGo E l 5 30 84 _ 62 [.inr (.inr (.inl 29)), .inl ((0 : Nat) : Int)] [] (36 + 3 * 0) (yR_29 (RS_X10_init_29 r) 0) h7
  exact yl_29 (RS_X10_init_29 r) h rfl 16 0 rfl h7 q7

def RR_X3_init_84 (r : JH) : JH := jup (jnw (jup (jnw (jup (jnw (jup (jnw (jup (jnw (jup (jnw (r) 85 1 (-1)) 84 1 85) 86 1 (-1)) 84 2 86) 87 1 (-1)) 84 3 87) 88 1 (-1)) 84 4 88) 89 1 (-1)) 84 5 89) 90 1 (-1)) 84 6 90
set_option maxHeartbeats 4000000 in
set_option maxRecDepth 20000 in
theorem n_X3_init_84 {E : JE} {l : Launch} (r h : JH) : jMt E l 6 [.inr (.inr (.inl 84))] 85 r h (fun v r' h' => v = none ∧ r' = RR_X3_init_84 r ∧ jst 85 h 91 h') := by
  refine jMtn (nL := 1) (n1 := 91) (ls := [.inr (.inr (.inl 84))]) (by decide +kernel) (by decide +kernel) (by decide +kernel) (by decide) rfl rfl ?_
  have q0 := jst_rf 85 h
  refine jGo_blk qX3_init_0 ?_
  refine st_ob (by decide) rfl ?_
  refine st_na (t := 1) (c := 40) (by decide) (by decide) rfl (by decide +kernel) (fun h1 eh1 => ?_)
  have qh1 := jst_new (c := 1) q0 eh1
  refine st_pr (jo_sum (n := 86) (i := 84) (t := 0) (N := 3) (by decide +kernel)) (by decide) ?_
  refine st_na (t := 1) (c := 40) (by decide) (by decide) rfl (by decide +kernel) (fun h2 eh2 => ?_)
  have qh2 := jst_new (c := 1) qh1 eh2
  refine st_pr (jo_sum (n := 87) (i := 84) (t := 0) (N := 3) (by decide +kernel)) (by decide) ?_
  refine st_na (t := 1) (c := 40) (by decide) (by decide) rfl (by decide +kernel) (fun h3 eh3 => ?_)
  have qh3 := jst_new (c := 1) qh2 eh3
  refine st_pr (jo_sum (n := 88) (i := 84) (t := 0) (N := 3) (by decide +kernel)) (by decide) ?_
  refine st_na (t := 1) (c := 40) (by decide) (by decide) rfl (by decide +kernel) (fun h4 eh4 => ?_)
  have qh4 := jst_new (c := 1) qh3 eh4
  refine st_pr (jo_sum (n := 89) (i := 84) (t := 0) (N := 3) (by decide +kernel)) (by decide) ?_
  refine st_na (t := 1) (c := 40) (by decide) (by decide) rfl (by decide +kernel) (fun h5 eh5 => ?_)
  have qh5 := jst_new (c := 1) qh4 eh5
  refine st_pr (jo_sum (n := 90) (i := 84) (t := 0) (N := 3) (by decide +kernel)) (by decide) ?_
  refine st_na (t := 1) (c := 3) (by decide) (by decide) rfl (by decide +kernel) (fun h6 eh6 => ?_)
  have qh6 := jst_new (c := 1) qh5 eh6
  refine st_pr (jo_sum (n := 91) (i := 84) (t := 0) (N := 3) (by decide +kernel)) (by decide) ?_
  exact ⟨rfl, rfl, rfl, qh6⟩

def RR_X8_init_91 (r : JH) : JH := jup (jnw (jup (jnw (jup (jnw (jup (jnw (jup (jnw (r) 92 1 (-1)) 91 0 92) 93 1 (-1)) 91 1 93) 94 1 (-1)) 91 2 94) 95 1 (-1)) 91 3 95) 96 1 (-1)) 91 4 96
set_option maxHeartbeats 4000000 in
set_option maxRecDepth 20000 in
theorem n_X8_init_91 {E : JE} {l : Launch} (r h : JH) : jMt E l 7 [.inr (.inr (.inl 91))] 92 r h (fun v r' h' => v = none ∧ r' = RR_X8_init_91 r ∧ jst 92 h 97 h') := by
  refine jMtn (nL := 1) (n1 := 97) (ls := [.inr (.inr (.inl 91))]) (by decide +kernel) (by decide +kernel) (by decide +kernel) (by decide) rfl rfl ?_
  have q0 := jst_rf 92 h
  refine jGo_blk qX8_init_0 ?_
  refine st_ob (by decide) rfl ?_
  refine st_na (t := 1) (c := 3) (by decide) (by decide) rfl (by decide +kernel) (fun h1 eh1 => ?_)
  have qh1 := jst_new (c := 1) q0 eh1
  refine st_pr (jo_sum (n := 93) (i := 91) (t := 0) (N := 8) (by decide +kernel)) (by decide) ?_
  refine st_na (t := 1) (c := 18) (by decide) (by decide) rfl (by decide +kernel) (fun h2 eh2 => ?_)
  have qh2 := jst_new (c := 1) qh1 eh2
  refine st_pr (jo_sum (n := 94) (i := 91) (t := 0) (N := 8) (by decide +kernel)) (by decide) ?_
  refine st_na (t := 1) (c := 18) (by decide) (by decide) rfl (by decide +kernel) (fun h3 eh3 => ?_)
  have qh3 := jst_new (c := 1) qh2 eh3
  refine st_pr (jo_sum (n := 95) (i := 91) (t := 0) (N := 8) (by decide +kernel)) (by decide) ?_
  refine st_na (t := 1) (c := 18) (by decide) (by decide) rfl (by decide +kernel) (fun h4 eh4 => ?_)
  have qh4 := jst_new (c := 1) qh3 eh4
  refine st_pr (jo_sum (n := 96) (i := 91) (t := 0) (N := 8) (by decide +kernel)) (by decide) ?_
  refine st_na (t := 1) (c := 18) (by decide) (by decide) rfl (by decide +kernel) (fun h5 eh5 => ?_)
  have qh5 := jst_new (c := 1) qh4 eh5
  refine st_pr (jo_sum (n := 97) (i := 91) (t := 0) (N := 8) (by decide +kernel)) (by decide) ?_
  exact ⟨rfl, rfl, rfl, qh5⟩

def RR_X6_init_97 (r : JH) : JH := jup (jnw (jup (jnw (jup (jnw (r) 98 1 (-1)) 97 2 98) 99 1 (-1)) 97 3 99) 100 1 (-1)) 97 4 100
set_option maxHeartbeats 4000000 in
set_option maxRecDepth 20000 in
theorem n_X6_init_97 {E : JE} {l : Launch} (r h : JH) : jMt E l 8 [.inr (.inr (.inl 97))] 98 r h (fun v r' h' => v = none ∧ r' = RR_X6_init_97 r ∧ jst 98 h 101 h') := by
  refine jMtn (nL := 1) (n1 := 101) (ls := [.inr (.inr (.inl 97))]) (by decide +kernel) (by decide +kernel) (by decide +kernel) (by decide) rfl rfl ?_
  have q0 := jst_rf 98 h
  refine jGo_blk qX6_init_0 ?_
  refine st_ob (by decide) rfl ?_
  refine st_na (t := 1) (c := 6) (by decide) (by decide) rfl (by decide +kernel) (fun h1 eh1 => ?_)
  have qh1 := jst_new (c := 1) q0 eh1
  refine st_pr (jo_sum (n := 99) (i := 97) (t := 0) (N := 6) (by decide +kernel)) (by decide) ?_
  refine st_na (t := 2) (c := 64) (by decide) (by decide) rfl (by decide +kernel) (fun h2 eh2 => ?_)
  have qh2 := jst_new (c := 1) qh1 eh2
  refine st_pr (jo_sum (n := 100) (i := 97) (t := 0) (N := 6) (by decide +kernel)) (by decide) ?_
  refine st_na (t := 2) (c := 6) (by decide) (by decide) rfl (by decide +kernel) (fun h3 eh3 => ?_)
  have qh3 := jst_new (c := 1) qh2 eh3
  refine st_pr (jo_sum (n := 101) (i := 97) (t := 0) (N := 6) (by decide +kernel)) (by decide) ?_
  exact ⟨rfl, rfl, rfl, qh3⟩

def RR_X5_init_101 (r : JH) : JH := jup (jnw (jup (jnw (jup (jnw (jup (jnw (r) 102 1 (-1)) 101 1 102) 103 1 (-1)) 101 2 103) 104 1 (-1)) 101 3 104) 105 1 (-1)) 101 4 105
set_option maxHeartbeats 4000000 in
set_option maxRecDepth 20000 in
theorem n_X5_init_101 {E : JE} {l : Launch} (r h : JH) : jMt E l 9 [.inr (.inr (.inl 101))] 102 r h (fun v r' h' => v = none ∧ r' = RR_X5_init_101 r ∧ jst 102 h 106 h') := by
  refine jMtn (nL := 1) (n1 := 106) (ls := [.inr (.inr (.inl 101))]) (by decide +kernel) (by decide +kernel) (by decide +kernel) (by decide) rfl rfl ?_
  have q0 := jst_rf 102 h
  refine jGo_blk qX5_init_0 ?_
  refine st_ob (by decide) rfl ?_
  refine st_na (t := 1) (c := 40) (by decide) (by decide) rfl (by decide +kernel) (fun h1 eh1 => ?_)
  have qh1 := jst_new (c := 1) q0 eh1
  refine st_pr (jo_sum (n := 103) (i := 101) (t := 0) (N := 5) (by decide +kernel)) (by decide) ?_
  refine st_na (t := 1) (c := 40) (by decide) (by decide) rfl (by decide +kernel) (fun h2 eh2 => ?_)
  have qh2 := jst_new (c := 1) qh1 eh2
  refine st_pr (jo_sum (n := 104) (i := 101) (t := 0) (N := 5) (by decide +kernel)) (by decide) ?_
  refine st_na (t := 1) (c := 40) (by decide) (by decide) rfl (by decide +kernel) (fun h3 eh3 => ?_)
  have qh3 := jst_new (c := 1) qh2 eh3
  refine st_pr (jo_sum (n := 105) (i := 101) (t := 0) (N := 5) (by decide +kernel)) (by decide) ?_
  refine st_na (t := 1) (c := 40) (by decide) (by decide) rfl (by decide +kernel) (fun h4 eh4 => ?_)
  have qh4 := jst_new (c := 1) qh3 eh4
  refine st_pr (jo_sum (n := 106) (i := 101) (t := 0) (N := 5) (by decide +kernel)) (by decide) ?_
  exact ⟨rfl, rfl, rfl, qh4⟩

def RR_X0_init_106 (r : JH) : JH := jup (jnw (jup (jnw (jup (jnw (jup (jnw (r) 107 1 (-1)) 106 0 107) 108 1 (-1)) 106 1 108) 109 1 (-1)) 106 2 109) 110 1 (-1)) 106 3 110
set_option maxHeartbeats 4000000 in
set_option maxRecDepth 20000 in
theorem n_X0_init_106 {E : JE} {l : Launch} (r h : JH) : jMt E l 10 [.inr (.inr (.inl 106)), .inl 1] 107 r h (fun v r' h' => v = none ∧ r' = RR_X0_init_106 r ∧ jst 107 h 111 h') := by
  refine jMtn (nL := 2) (n1 := 111) (ls := [.inr (.inr (.inl 106)), .inl 1]) (by decide +kernel) (by decide +kernel) (by decide +kernel) (by decide) rfl rfl ?_
  have q0 := jst_rf 107 h
  refine jGo_blk qX0_init_0 ?_
  refine st_ob (by decide) rfl ?_
  refine st_na (t := 1) (c := 4) (by decide) (by decide) rfl (by decide +kernel) (fun h1 eh1 => ?_)
  have qh1 := jst_new (c := 1) q0 eh1
  refine st_pr (jo_sum (n := 108) (i := 106) (t := 0) (N := 0) (by decide +kernel)) (by decide) ?_
  refine st_na (t := 1) (c := 1) (by decide) (by decide) rfl (by decide +kernel) (fun h2 eh2 => ?_)
  have qh2 := jst_new (c := 1) qh1 eh2
  refine st_pr (jo_sum (n := 109) (i := 106) (t := 0) (N := 0) (by decide +kernel)) (by decide) ?_
  refine st_na (t := 1) (c := 1) (by decide) (by decide) rfl (by decide +kernel) (fun h3 eh3 => ?_)
  have qh3 := jst_new (c := 1) qh2 eh3
  refine st_pr (jo_sum (n := 110) (i := 106) (t := 0) (N := 0) (by decide +kernel)) (by decide) ?_
  refine st_na (t := 1) (c := 1) (by decide) (by decide) rfl (by decide +kernel) (fun h4 eh4 => ?_)
  have qh4 := jst_new (c := 1) qh3 eh4
  refine st_pr (jo_sum (n := 111) (i := 106) (t := 0) (N := 0) (by decide +kernel)) (by decide) ?_
  exact ⟨rfl, rfl, rfl, qh4⟩

def RR_X0_init_113 (r : JH) : JH := jup (jnw (jup (jnw (jup (jnw (jup (jnw (r) 114 1 (-1)) 113 0 114) 115 1 (-1)) 113 1 115) 116 1 (-1)) 113 2 116) 117 1 (-1)) 113 3 117
set_option maxHeartbeats 4000000 in
set_option maxRecDepth 20000 in
theorem n_X0_init_113 {E : JE} {l : Launch} (r h : JH) : jMt E l 10 [.inr (.inr (.inl 113)), .inl 300] 114 r h (fun v r' h' => v = none ∧ r' = RR_X0_init_113 r ∧ jst 114 h 118 h') := by
  refine jMtn (nL := 2) (n1 := 118) (ls := [.inr (.inr (.inl 113)), .inl 300]) (by decide +kernel) (by decide +kernel) (by decide +kernel) (by decide) rfl rfl ?_
  have q0 := jst_rf 114 h
  refine jGo_blk qX0_init_0 ?_
  refine st_ob (by decide) rfl ?_
  refine st_na (t := 1) (c := 1200) (by decide) (by decide) rfl (by decide +kernel) (fun h1 eh1 => ?_)
  have qh1 := jst_new (c := 1) q0 eh1
  refine st_pr (jo_sum (n := 115) (i := 113) (t := 0) (N := 0) (by decide +kernel)) (by decide) ?_
  refine st_na (t := 1) (c := 300) (by decide) (by decide) rfl (by decide +kernel) (fun h2 eh2 => ?_)
  have qh2 := jst_new (c := 1) qh1 eh2
  refine st_pr (jo_sum (n := 116) (i := 113) (t := 0) (N := 0) (by decide +kernel)) (by decide) ?_
  refine st_na (t := 1) (c := 300) (by decide) (by decide) rfl (by decide +kernel) (fun h3 eh3 => ?_)
  have qh3 := jst_new (c := 1) qh2 eh3
  refine st_pr (jo_sum (n := 117) (i := 113) (t := 0) (N := 0) (by decide +kernel)) (by decide) ?_
  refine st_na (t := 1) (c := 300) (by decide) (by decide) rfl (by decide +kernel) (fun h4 eh4 => ?_)
  have qh4 := jst_new (c := 1) qh3 eh4
  refine st_pr (jo_sum (n := 118) (i := 113) (t := 0) (N := 0) (by decide +kernel)) (by decide) ?_
  exact ⟨rfl, rfl, rfl, qh4⟩

def yR_119 (r : JH) : Nat → JH
  | 0 => r
  | k + 1 => jup (RR_hull (((126 + 3 * k : Nat)) : Int) (126 + 3 * k + 1) (jnw (yR_119 r k) (126 + 3 * k) 1 (-1))) 123 (k : Int) (((126 + 3 * k : Nat)) : Int)
theorem yR_119_3 (r : JH) : ∀ k : Nat, yR_119 r k 119 3 = r 119 3
  | 0 => rfl
  | k + 1 => by
    rw [yR_119, jup_ne (by omega), RR_hull]
    rw [jup_ne (by omega), jnw_o (by omega), jup_ne (by omega), jnw_o (by omega), jnw_o (by omega)]
    exact yR_119_3 r k
theorem yk_119 : ∀ k : Nat, k < 16 → jk (((126 + 3 * k : Nat)) : Int) = (0, 4) ∧ jk (((126 + 3 * k + 1 : Nat)) : Int) = (1, 6) ∧ jk (((126 + 3 * k + 1 + 1 : Nat)) : Int) = (1, 6) := by decide +kernel
def RS_X10_init_119 (r : JH) : JH := jup (jnw (jup (jnw (jup (jnw (jup (jnw (jup (jnw (jup (jnw r 120 1 (-1)) 119 0 120) 121 1 (-1)) 119 1 121) 122 1 (-1)) 119 2 122) 123 1 (-1)) 119 3 123) 124 1 (-1)) 119 5 124) 125 1 (-1)) 119 11 125
def RR_X10_init_119 (r : JH) : JH := yR_119 (RS_X10_init_119 r) 16
set_option maxHeartbeats 4000000 in
theorem yl_119 {E : JE} {l : Launch} (r0 h : JH) (hr : r0 119 3 = 123) : ∀ M k : Nat, k + M = 16 → ∀ h1 : JH, jst 120 h (126 + 3 * k) h1 → jGo E l 5 120 174 (jRn 174 (fun v r' h' => v = none ∧ r' = yR_119 r0 16 ∧ jst 120 h 174 h')) 62 [.inr (.inr (.inl 119)), .inl ((k : Nat) : Int)] [] (126 + 3 * k) (yR_119 r0 k) h1 := by
  intro M
  induction M with
  | zero =>
    intro k hk h1 q
    have hk16 : k = 16 := by omega
    subst hk16
    refine jGo_blk qX10_init_62 ?_
    refine And.intro (fun c1 => ?_) (fun c1 => absurd (show (16 : Int) ≤ ((16 : Nat) : Int) by decide) c1)
    show jGo E l 5 120 174 _ 87 [.inr (.inr (.inl 119)), .inl ((16 : Nat) : Int)] [] (126 + 3 * 16) (yR_119 r0 16) h1
    refine jGo_blk qX10_init_87 ?_
    exact ⟨rfl, rfl, rfl, q⟩
  | succ M ih =>
    intro k hk h1 q
    have hk16 : k < 16 := by omega
    obtain ⟨k1, k2, k3⟩ := yk_119 k hk16
    refine jGo_blk qX10_init_62 ?_
    refine And.intro (fun c1 => absurd (show (16 : Int) ≤ ((k : Nat) : Int) from c1) (by omega)) (fun _ => ?_)
    refine st_gr (v := 123) ⟨by decide, by omega, by decide +kernel⟩ ((yR_119_3 r0 k).trans hr) ?_
    refine st_nw (a := 4) (Nat.ble_eq_true_of_le (by omega)) k1 (fun h2 e2 => ?_)
    have q2 := jst_new (c := 1) q e2
    have oh : jF (126 + 3 * k + 1) (((126 + 3 * k : Nat)) : Int) 0 4 := ⟨by omega, by omega, k1⟩
    refine st_cv (c := 2) (na := 0) (st := [.inr (.inr (.inl (((126 + 3 * k : Nat)) : Int))), .inr (.inr (.inl (((126 + 3 * k : Nat)) : Int))), .inl ((k : Nat) : Int), .inr (.inr (.inl 123))]) oh rfl rfl (Nat.ble_eq_true_of_le (by omega)) (n_hull (((126 + 3 * k : Nat)) : Int) (126 + 3 * k + 1) (jnw (yR_119 r0 k) (126 + 3 * k) 1 (-1)) h2 oh (by omega) k2 k3) rfl ?_
    rintro _ _ h3 ⟨rfl, rfl, p3⟩ _
    have q3 := jst_tr q2 p3
    refine st_sr (N := 16) ⟨by decide, by omega, by decide +kernel⟩ (show (0 : Int) ≤ ((k : Nat) : Int) by omega) (show ((k : Nat) : Int) < ((16 : Nat) : Int) by omega) ⟨by omega, by omega, k1⟩ ?_
    have e1 : jw32 (((k : Nat) : Int) + 1) = ((k + 1 : Nat) : Int) := (j32e (by omega) (by omega)).trans (by omega)
    have e4 : 126 + 3 * k + 1 + 2 = 126 + 3 * (k + 1) := by omega
    show jGo E l 5 120 174 _ 62 [.inr (.inr (.inl 119)), .inl (jw32 (((k : Nat) : Int) + 1))] [] (126 + 3 * k + 1 + 2) (yR_119 r0 (k + 1)) h3
    rw [e1, e4]
    exact ih (k + 1) (by omega) h3 (by rw [← e4]; exact q3)
set_option maxHeartbeats 4000000 in
theorem n_X10_init_119 {E : JE} {l : Launch} (r h : JH) : jMt E l 5 [.inr (.inr (.inl 119))] 120 r h (fun v r' h' => v = none ∧ r' = RR_X10_init_119 r ∧ jst 120 h 174 h') := by
  refine jMtn (nL := 2) (n1 := 174) (ls := [.inr (.inr (.inl 119)), .inr (.inr (.inr ()))]) (by decide +kernel) (by decide +kernel) (by decide +kernel) (by decide) rfl rfl ?_
  have q0 := jst_rf 120 h
  refine jGo_blk qX10_init_0 ?_
  refine st_ob (by decide) rfl ?_
  refine st_na (t := 1) (c := 6) (by decide) (by decide) rfl (by decide +kernel) (fun h1 e1 => ?_)
  have q1 := jst_new (c := 1) q0 e1
  refine st_pr (jo_sum (n := 121) (i := 119) (t := 0) (N := 10) (by decide +kernel)) (by decide) ?_
  refine st_na (t := 1) (c := 6) (by decide) (by decide) rfl (by decide +kernel) (fun h2 e2 => ?_)
  have q2 := jst_new (c := 1) q1 e2
  refine st_pr (jo_sum (n := 122) (i := 119) (t := 0) (N := 10) (by decide +kernel)) (by decide) ?_
  refine st_na (t := 1) (c := 6) (by decide) (by decide) rfl (by decide +kernel) (fun h3 e3 => ?_)
  have q3 := jst_new (c := 1) q2 e3
  refine st_pr (jo_sum (n := 123) (i := 119) (t := 0) (N := 10) (by decide +kernel)) (by decide) ?_
  refine st_na (t := 4) (c := 16) (by decide) (by decide) rfl (by decide +kernel) (fun h4 e4 => ?_)
  have q4 := jst_new (c := 1) q3 e4
  refine st_pr (jo_sum (n := 124) (i := 119) (t := 0) (N := 10) (by decide +kernel)) (by decide) ?_
  refine st_na (t := 1) (c := 16) (by decide) (by decide) rfl (by decide +kernel) (fun h5 e5 => ?_)
  have q5 := jst_new (c := 1) q4 e5
  refine st_pr (jo_sum (n := 125) (i := 119) (t := 0) (N := 10) (by decide +kernel)) (by decide) ?_
  refine st_na (t := 1) (c := 4) (by decide) (by decide) rfl (by decide +kernel) (fun h6 e6 => ?_)
  have q6 := jst_new (c := 1) q5 e6
  refine st_pr (jo_sum (n := 126) (i := 119) (t := 0) (N := 10) (by decide +kernel)) (by decide) ?_
  refine st_gr (v := 121) (jo_sum (n := 126) (i := 119) (t := 0) (N := 10) (by decide +kernel)) rfl ?_
  refine st_cs (na := 2) (st := [.inl (-1), .inr (.inr (.inl 121))]) rfl rfl rfl (c_fillG (n := 126) (by decide) 121 (-1) h6 (jo_sum (n := 126) (i := 121) (t := 1) (N := 6) (by decide +kernel)) (by decide) (fun k _ => (jba_121 _ _).2 (by decide))) rfl ?_
  rintro _ _ h7 ⟨rfl, f7, rfl, z7⟩ _
  have q7 := jst_fr q6 f7 (by decide) (by unfold jWi; decide)
  show jGo E l 5 120 174 _ 62 [.inr (.inr (.inl 119)), .inl ((0 : Nat) : Int)] [] (126 + 3 * 0) (yR_119 (RS_X10_init_119 r) 0) h7
  exact yl_119 (RS_X10_init_119 r) h rfl 16 0 rfl h7 q7

def RR_X7_init_111 (r : JH) : JH := jup (jnw (jup (jnw (jup (RR_X10_init_119 (jnw (jup (jnw (jup (RR_X0_init_113 (jnw (jup (jnw (r) 112 1 (-1)) 111 1 112) 113 1 (-1))) 111 4 113) 118 1 (-1)) 111 5 118) 119 1 (-1))) 111 6 119) 174 1 (-1)) 111 7 174) 175 1 (-1)) 111 8 175
set_option maxHeartbeats 4000000 in
set_option maxRecDepth 20000 in
theorem n_X7_init_111 {E : JE} {l : Launch} (r h : JH) : jMt E l 11 [.inr (.inr (.inl 111))] 112 r h (fun v r' h' => v = none ∧ r' = RR_X7_init_111 r ∧ jst 112 h 176 h') := by
  refine jMtn (nL := 1) (n1 := 176) (ls := [.inr (.inr (.inl 111))]) (by decide +kernel) (by decide +kernel) (by decide +kernel) (by decide) rfl rfl ?_
  have q0 := jst_rf 112 h
  refine jGo_blk qX7_init_0 ?_
  refine st_ob (by decide) rfl ?_
  refine st_na (t := 1) (c := 5) (by decide) (by decide) rfl (by decide +kernel) (fun h1 eh1 => ?_)
  have qh1 := jst_new (c := 1) q0 eh1
  refine st_pr (jo_sum (n := 113) (i := 111) (t := 0) (N := 7) (by decide +kernel)) (by decide) ?_
  refine st_nw (a := 0) rfl (by decide +kernel) (fun h2 eh2 => ?_)
  have qh2 := jst_new (c := 1) qh1 eh2
  refine st_cv (na := 1) (st := [.inl 300, .inr (.inr (.inl 113)), .inr (.inr (.inl 113)), .inr (.inr (.inl 111))]) (jo_sum (n := 114) (i := 113) (t := 0) (N := 0) (by decide +kernel)) rfl rfl rfl (n_X0_init_113 (jnw (jup (jnw (r) 112 1 (-1)) 111 1 112) 113 1 (-1)) h2) rfl ?_
  rintro _ _ h3 ⟨rfl, rfl, ph3⟩ _
  have qh3 := jst_tr qh2 ph3
  refine st_pr (jo_sum (n := 118) (i := 111) (t := 0) (N := 7) (by decide +kernel)) (by decide) ?_
  refine st_na (t := 1) (c := 4) (by decide) (by decide) rfl (by decide +kernel) (fun h4 eh4 => ?_)
  have qh4 := jst_new (c := 1) qh3 eh4
  refine st_pr (jo_sum (n := 119) (i := 111) (t := 0) (N := 7) (by decide +kernel)) (by decide) ?_
  refine st_nw (a := 10) rfl (by decide +kernel) (fun h5 eh5 => ?_)
  have qh5 := jst_new (c := 1) qh4 eh5
  refine st_cv (na := 0) (st := [.inr (.inr (.inl 119)), .inr (.inr (.inl 119)), .inr (.inr (.inl 111))]) (jo_sum (n := 120) (i := 119) (t := 0) (N := 10) (by decide +kernel)) rfl rfl rfl (n_X10_init_119 (jnw (jup (jnw (jup (RR_X0_init_113 (jnw (jup (jnw (r) 112 1 (-1)) 111 1 112) 113 1 (-1))) 111 4 113) 118 1 (-1)) 111 5 118) 119 1 (-1)) h5) rfl ?_
  rintro _ _ h6 ⟨rfl, rfl, ph6⟩ _
  have qh6 := jst_tr qh5 ph6
  refine st_pr (jo_sum (n := 174) (i := 111) (t := 0) (N := 7) (by decide +kernel)) (by decide) ?_
  refine st_na (t := 1) (c := 16) (by decide) (by decide) rfl (by decide +kernel) (fun h7 eh7 => ?_)
  have qh7 := jst_new (c := 1) qh6 eh7
  refine st_pr (jo_sum (n := 175) (i := 111) (t := 0) (N := 7) (by decide +kernel)) (by decide) ?_
  refine st_na (t := 1) (c := 5) (by decide) (by decide) rfl (by decide +kernel) (fun h8 eh8 => ?_)
  have qh8 := jst_new (c := 1) qh7 eh8
  refine st_pr (jo_sum (n := 176) (i := 111) (t := 0) (N := 7) (by decide +kernel)) (by decide) ?_
  exact ⟨rfl, rfl, rfl, qh8⟩

def RR_X11_init_0 (r : JH) : JH := jup (RR_X7_init_111 (jnw (jup (RR_X0_init_106 (jnw (jup (RR_X5_init_101 (jnw (jup (RR_X6_init_97 (jnw (jup (RR_X8_init_91 (jnw (jup (RR_X3_init_84 (jnw (jup (RR_X10_init_29 (jnw (jup (RR_X9_init_16 (jnw (jup (RR_X2_init_11 (jnw (jup (RR_X1_init_2 (jnw (jup (jnw (r) 1 1 (-1)) 0 1 1) 2 1 (-1))) 0 2 2) 11 1 (-1))) 0 3 11) 16 1 (-1))) 0 4 16) 29 1 (-1))) 0 5 29) 84 1 (-1))) 0 6 84) 91 1 (-1))) 0 7 91) 97 1 (-1))) 0 8 97) 101 1 (-1))) 0 9 101) 106 1 (-1))) 0 10 106) 111 1 (-1))) 0 11 111
set_option maxHeartbeats 4000000 in
set_option maxRecDepth 20000 in
theorem n_X11_init_0 {E : JE} {l : Launch} (r h : JH) : jMt E l 12 [.inr (.inr (.inl 0))] 1 r h (fun v r' h' => v = none ∧ r' = RR_X11_init_0 r ∧ jst 1 h 176 h') := by
  refine jMtn (nL := 1) (n1 := 176) (ls := [.inr (.inr (.inl 0))]) (by decide +kernel) (by decide +kernel) (by decide +kernel) (by decide) rfl rfl ?_
  have q0 := jst_rf 1 h
  refine jGo_blk qX11_init_0 ?_
  refine st_ob (by decide) rfl ?_
  refine st_na (t := 1) (c := 8) (by decide) (by decide) rfl (by decide +kernel) (fun h1 eh1 => ?_)
  have qh1 := jst_new (c := 1) q0 eh1
  refine st_pr (jo_sum (n := 2) (i := 0) (t := 0) (N := 11) (by decide +kernel)) (by decide) ?_
  refine st_nw (a := 1) rfl (by decide +kernel) (fun h2 eh2 => ?_)
  have qh2 := jst_new (c := 1) qh1 eh2
  refine st_cv (na := 0) (st := [.inr (.inr (.inl 2)), .inr (.inr (.inl 2)), .inr (.inr (.inl 0))]) (jo_sum (n := 3) (i := 2) (t := 0) (N := 1) (by decide +kernel)) rfl rfl rfl (n_X1_init_2 (jnw (jup (jnw (r) 1 1 (-1)) 0 1 1) 2 1 (-1)) h2) rfl ?_
  rintro _ _ h3 ⟨rfl, rfl, ph3⟩ _
  have qh3 := jst_tr qh2 ph3
  refine st_pr (jo_sum (n := 11) (i := 0) (t := 0) (N := 11) (by decide +kernel)) (by decide) ?_
  refine st_nw (a := 2) rfl (by decide +kernel) (fun h4 eh4 => ?_)
  have qh4 := jst_new (c := 1) qh3 eh4
  refine st_cv (na := 0) (st := [.inr (.inr (.inl 11)), .inr (.inr (.inl 11)), .inr (.inr (.inl 0))]) (jo_sum (n := 12) (i := 11) (t := 0) (N := 2) (by decide +kernel)) rfl rfl rfl (n_X2_init_11 (jnw (jup (RR_X1_init_2 (jnw (jup (jnw (r) 1 1 (-1)) 0 1 1) 2 1 (-1))) 0 2 2) 11 1 (-1)) h4) rfl ?_
  rintro _ _ h5 ⟨rfl, rfl, ph5⟩ _
  have qh5 := jst_tr qh4 ph5
  refine st_pr (jo_sum (n := 16) (i := 0) (t := 0) (N := 11) (by decide +kernel)) (by decide) ?_
  refine st_nw (a := 9) rfl (by decide +kernel) (fun h6 eh6 => ?_)
  have qh6 := jst_new (c := 1) qh5 eh6
  refine st_cv (na := 0) (st := [.inr (.inr (.inl 16)), .inr (.inr (.inl 16)), .inr (.inr (.inl 0))]) (jo_sum (n := 17) (i := 16) (t := 0) (N := 9) (by decide +kernel)) rfl rfl rfl (n_X9_init_16 (jnw (jup (RR_X2_init_11 (jnw (jup (RR_X1_init_2 (jnw (jup (jnw (r) 1 1 (-1)) 0 1 1) 2 1 (-1))) 0 2 2) 11 1 (-1))) 0 3 11) 16 1 (-1)) h6) rfl ?_
  rintro _ _ h7 ⟨rfl, rfl, ph7⟩ _
  have qh7 := jst_tr qh6 ph7
  refine st_pr (jo_sum (n := 29) (i := 0) (t := 0) (N := 11) (by decide +kernel)) (by decide) ?_
  refine st_nw (a := 10) rfl (by decide +kernel) (fun h8 eh8 => ?_)
  have qh8 := jst_new (c := 1) qh7 eh8
  refine st_cv (na := 0) (st := [.inr (.inr (.inl 29)), .inr (.inr (.inl 29)), .inr (.inr (.inl 0))]) (jo_sum (n := 30) (i := 29) (t := 0) (N := 10) (by decide +kernel)) rfl rfl rfl (n_X10_init_29 (jnw (jup (RR_X9_init_16 (jnw (jup (RR_X2_init_11 (jnw (jup (RR_X1_init_2 (jnw (jup (jnw (r) 1 1 (-1)) 0 1 1) 2 1 (-1))) 0 2 2) 11 1 (-1))) 0 3 11) 16 1 (-1))) 0 4 16) 29 1 (-1)) h8) rfl ?_
  rintro _ _ h9 ⟨rfl, rfl, ph9⟩ _
  have qh9 := jst_tr qh8 ph9
  refine st_pr (jo_sum (n := 84) (i := 0) (t := 0) (N := 11) (by decide +kernel)) (by decide) ?_
  refine st_nw (a := 3) rfl (by decide +kernel) (fun h10 eh10 => ?_)
  have qh10 := jst_new (c := 1) qh9 eh10
  refine st_cv (na := 0) (st := [.inr (.inr (.inl 84)), .inr (.inr (.inl 84)), .inr (.inr (.inl 0))]) (jo_sum (n := 85) (i := 84) (t := 0) (N := 3) (by decide +kernel)) rfl rfl rfl (n_X3_init_84 (jnw (jup (RR_X10_init_29 (jnw (jup (RR_X9_init_16 (jnw (jup (RR_X2_init_11 (jnw (jup (RR_X1_init_2 (jnw (jup (jnw (r) 1 1 (-1)) 0 1 1) 2 1 (-1))) 0 2 2) 11 1 (-1))) 0 3 11) 16 1 (-1))) 0 4 16) 29 1 (-1))) 0 5 29) 84 1 (-1)) h10) rfl ?_
  rintro _ _ h11 ⟨rfl, rfl, ph11⟩ _
  have qh11 := jst_tr qh10 ph11
  refine st_pr (jo_sum (n := 91) (i := 0) (t := 0) (N := 11) (by decide +kernel)) (by decide) ?_
  refine st_nw (a := 8) rfl (by decide +kernel) (fun h12 eh12 => ?_)
  have qh12 := jst_new (c := 1) qh11 eh12
  refine st_cv (na := 0) (st := [.inr (.inr (.inl 91)), .inr (.inr (.inl 91)), .inr (.inr (.inl 0))]) (jo_sum (n := 92) (i := 91) (t := 0) (N := 8) (by decide +kernel)) rfl rfl rfl (n_X8_init_91 (jnw (jup (RR_X3_init_84 (jnw (jup (RR_X10_init_29 (jnw (jup (RR_X9_init_16 (jnw (jup (RR_X2_init_11 (jnw (jup (RR_X1_init_2 (jnw (jup (jnw (r) 1 1 (-1)) 0 1 1) 2 1 (-1))) 0 2 2) 11 1 (-1))) 0 3 11) 16 1 (-1))) 0 4 16) 29 1 (-1))) 0 5 29) 84 1 (-1))) 0 6 84) 91 1 (-1)) h12) rfl ?_
  rintro _ _ h13 ⟨rfl, rfl, ph13⟩ _
  have qh13 := jst_tr qh12 ph13
  refine st_pr (jo_sum (n := 97) (i := 0) (t := 0) (N := 11) (by decide +kernel)) (by decide) ?_
  refine st_nw (a := 6) rfl (by decide +kernel) (fun h14 eh14 => ?_)
  have qh14 := jst_new (c := 1) qh13 eh14
  refine st_cv (na := 0) (st := [.inr (.inr (.inl 97)), .inr (.inr (.inl 97)), .inr (.inr (.inl 0))]) (jo_sum (n := 98) (i := 97) (t := 0) (N := 6) (by decide +kernel)) rfl rfl rfl (n_X6_init_97 (jnw (jup (RR_X8_init_91 (jnw (jup (RR_X3_init_84 (jnw (jup (RR_X10_init_29 (jnw (jup (RR_X9_init_16 (jnw (jup (RR_X2_init_11 (jnw (jup (RR_X1_init_2 (jnw (jup (jnw (r) 1 1 (-1)) 0 1 1) 2 1 (-1))) 0 2 2) 11 1 (-1))) 0 3 11) 16 1 (-1))) 0 4 16) 29 1 (-1))) 0 5 29) 84 1 (-1))) 0 6 84) 91 1 (-1))) 0 7 91) 97 1 (-1)) h14) rfl ?_
  rintro _ _ h15 ⟨rfl, rfl, ph15⟩ _
  have qh15 := jst_tr qh14 ph15
  refine st_pr (jo_sum (n := 101) (i := 0) (t := 0) (N := 11) (by decide +kernel)) (by decide) ?_
  refine st_nw (a := 5) rfl (by decide +kernel) (fun h16 eh16 => ?_)
  have qh16 := jst_new (c := 1) qh15 eh16
  refine st_cv (na := 0) (st := [.inr (.inr (.inl 101)), .inr (.inr (.inl 101)), .inr (.inr (.inl 0))]) (jo_sum (n := 102) (i := 101) (t := 0) (N := 5) (by decide +kernel)) rfl rfl rfl (n_X5_init_101 (jnw (jup (RR_X6_init_97 (jnw (jup (RR_X8_init_91 (jnw (jup (RR_X3_init_84 (jnw (jup (RR_X10_init_29 (jnw (jup (RR_X9_init_16 (jnw (jup (RR_X2_init_11 (jnw (jup (RR_X1_init_2 (jnw (jup (jnw (r) 1 1 (-1)) 0 1 1) 2 1 (-1))) 0 2 2) 11 1 (-1))) 0 3 11) 16 1 (-1))) 0 4 16) 29 1 (-1))) 0 5 29) 84 1 (-1))) 0 6 84) 91 1 (-1))) 0 7 91) 97 1 (-1))) 0 8 97) 101 1 (-1)) h16) rfl ?_
  rintro _ _ h17 ⟨rfl, rfl, ph17⟩ _
  have qh17 := jst_tr qh16 ph17
  refine st_pr (jo_sum (n := 106) (i := 0) (t := 0) (N := 11) (by decide +kernel)) (by decide) ?_
  refine st_nw (a := 0) rfl (by decide +kernel) (fun h18 eh18 => ?_)
  have qh18 := jst_new (c := 1) qh17 eh18
  refine st_cv (na := 1) (st := [.inl 1, .inr (.inr (.inl 106)), .inr (.inr (.inl 106)), .inr (.inr (.inl 0))]) (jo_sum (n := 107) (i := 106) (t := 0) (N := 0) (by decide +kernel)) rfl rfl rfl (n_X0_init_106 (jnw (jup (RR_X5_init_101 (jnw (jup (RR_X6_init_97 (jnw (jup (RR_X8_init_91 (jnw (jup (RR_X3_init_84 (jnw (jup (RR_X10_init_29 (jnw (jup (RR_X9_init_16 (jnw (jup (RR_X2_init_11 (jnw (jup (RR_X1_init_2 (jnw (jup (jnw (r) 1 1 (-1)) 0 1 1) 2 1 (-1))) 0 2 2) 11 1 (-1))) 0 3 11) 16 1 (-1))) 0 4 16) 29 1 (-1))) 0 5 29) 84 1 (-1))) 0 6 84) 91 1 (-1))) 0 7 91) 97 1 (-1))) 0 8 97) 101 1 (-1))) 0 9 101) 106 1 (-1)) h18) rfl ?_
  rintro _ _ h19 ⟨rfl, rfl, ph19⟩ _
  have qh19 := jst_tr qh18 ph19
  refine st_pr (jo_sum (n := 111) (i := 0) (t := 0) (N := 11) (by decide +kernel)) (by decide) ?_
  refine st_nw (a := 7) rfl (by decide +kernel) (fun h20 eh20 => ?_)
  have qh20 := jst_new (c := 1) qh19 eh20
  refine st_cv (na := 0) (st := [.inr (.inr (.inl 111)), .inr (.inr (.inl 111)), .inr (.inr (.inl 0))]) (jo_sum (n := 112) (i := 111) (t := 0) (N := 7) (by decide +kernel)) rfl rfl rfl (n_X7_init_111 (jnw (jup (RR_X0_init_106 (jnw (jup (RR_X5_init_101 (jnw (jup (RR_X6_init_97 (jnw (jup (RR_X8_init_91 (jnw (jup (RR_X3_init_84 (jnw (jup (RR_X10_init_29 (jnw (jup (RR_X9_init_16 (jnw (jup (RR_X2_init_11 (jnw (jup (RR_X1_init_2 (jnw (jup (jnw (r) 1 1 (-1)) 0 1 1) 2 1 (-1))) 0 2 2) 11 1 (-1))) 0 3 11) 16 1 (-1))) 0 4 16) 29 1 (-1))) 0 5 29) 84 1 (-1))) 0 6 84) 91 1 (-1))) 0 7 91) 97 1 (-1))) 0 8 97) 101 1 (-1))) 0 9 101) 106 1 (-1))) 0 10 106) 111 1 (-1)) h20) rfl ?_
  rintro _ _ h21 ⟨rfl, rfl, ph21⟩ _
  have qh21 := jst_tr qh20 ph21
  refine st_pr (jo_sum (n := 176) (i := 0) (t := 0) (N := 11) (by decide +kernel)) (by decide) ?_
  exact ⟨rfl, rfl, rfl, qh21⟩

def RR_X12_init_176 (r : JH) : JH := jup (jnw (jup (jnw (jup (jnw (jup (jnw (jup (jnw (jup (jnw (jup (jnw (jup (jnw (jup (jnw (jup (jnw (jup (jnw (jup (jnw (jup (jnw (jup (jnw (jup (jnw (jup (jnw (jup (jnw (jup (jnw (jup (jnw (jup (jnw (jup (jnw (jup (jnw (jup (jnw (jup (jnw (jup (jnw (jup (jnw (jup (jnw (jup (jnw (jup (jnw (jup (jnw (jup (jnw (jup (jnw (jup (jnw (jup (jnw (jup (jnw (jup (jnw (jup (jnw (jup (jnw (jup (jnw (jup (jnw (jup (jnw (jup (jnw (jup (jnw (jup (jnw (jup (jnw (jup (jnw (jup (jnw (jup (jnw (jup (jnw (jup (jnw (jup (jnw (jup (jnw (r) 177 1 (-1)) 176 1 177) 178 1 (-1)) 176 2 178) 179 1 (-1)) 176 3 179) 180 1 (-1)) 176 4 180) 181 1 (-1)) 176 5 181) 182 1 (-1)) 176 7 182) 183 1 (-1)) 176 8 183) 184 1 (-1)) 176 9 184) 185 1 (-1)) 176 10 185) 186 1 (-1)) 176 11 186) 187 1 (-1)) 176 12 187) 188 1 (-1)) 176 13 188) 189 1 (-1)) 176 15 189) 190 1 (-1)) 176 16 190) 191 1 (-1)) 176 17 191) 192 1 (-1)) 176 18 192) 193 1 (-1)) 176 19 193) 194 1 (-1)) 176 20 194) 195 1 (-1)) 176 21 195) 196 1 (-1)) 176 22 196) 197 1 (-1)) 176 23 197) 198 1 (-1)) 176 24 198) 199 1 (-1)) 176 25 199) 200 1 (-1)) 176 26 200) 201 1 (-1)) 176 27 201) 202 1 (-1)) 176 28 202) 203 1 (-1)) 176 29 203) 204 1 (-1)) 176 33 204) 205 1 (-1)) 176 35 205) 206 1 (-1)) 176 36 206) 207 1 (-1)) 176 37 207) 208 1 (-1)) 176 38 208) 209 1 (-1)) 176 39 209) 210 1 (-1)) 176 40 210) 211 1 (-1)) 176 41 211) 212 1 (-1)) 176 42 212) 213 1 (-1)) 176 43 213) 214 1 (-1)) 176 44 214) 215 1 (-1)) 176 46 215) 216 1 (-1)) 176 47 216) 217 1 (-1)) 176 48 217) 218 1 (-1)) 176 49 218) 219 1 (-1)) 176 50 219) 220 1 (-1)) 176 51 220) 221 1 (-1)) 176 52 221) 222 1 (-1)) 176 53 222) 223 1 (-1)) 176 54 223) 224 1 (-1)) 176 59 224) 225 1 (-1)) 176 60 225) 226 1 (-1)) 176 61 226) 227 1 (-1)) 176 63 227) 228 1 (-1)) 176 64 228
set_option maxHeartbeats 4000000 in
set_option maxRecDepth 20000 in
theorem n_X12_init_176 {E : JE} {l : Launch} (r h : JH) : jMt E l 13 [.inr (.inr (.inl 176))] 177 r h (fun v r' h' => v = none ∧ r' = RR_X12_init_176 r ∧ jst 177 h 229 h') := by
  refine jMtn (nL := 1) (n1 := 229) (ls := [.inr (.inr (.inl 176))]) (by decide +kernel) (by decide +kernel) (by decide +kernel) (by decide) rfl rfl ?_
  have q0 := jst_rf 177 h
  refine jGo_blk qX12_init_0 ?_
  refine st_ob (by decide) rfl ?_
  refine st_na (t := 1) (c := 4) (by decide) (by decide) rfl (by decide +kernel) (fun h1 eh1 => ?_)
  have qh1 := jst_new (c := 1) q0 eh1
  refine st_pr (jo_sum (n := 178) (i := 176) (t := 0) (N := 12) (by decide +kernel)) (by decide) ?_
  refine st_na (t := 1) (c := 4) (by decide) (by decide) rfl (by decide +kernel) (fun h2 eh2 => ?_)
  have qh2 := jst_new (c := 1) qh1 eh2
  refine st_si (jo_sum (n := 179) (i := 178) (t := 1) (N := 4) (by decide +kernel)) (by decide) (by decide) (fun _ => (jba_178 _ _).2 (by decide)) (fun h3 eh3 => ?_)
  have qh3 := jst_up qh2 eh3 (by decide) (by unfold jWi; decide)
  refine st_si (jo_sum (n := 179) (i := 178) (t := 1) (N := 4) (by decide +kernel)) (by decide) (by decide) (fun _ => (jba_178 _ _).2 (by decide)) (fun h4 eh4 => ?_)
  have qh4 := jst_up qh3 eh4 (by decide) (by unfold jWi; decide)
  refine st_si (jo_sum (n := 179) (i := 178) (t := 1) (N := 4) (by decide +kernel)) (by decide) (by decide) (fun _ => (jba_178 _ _).2 (by decide)) (fun h5 eh5 => ?_)
  have qh5 := jst_up qh4 eh5 (by decide) (by unfold jWi; decide)
  refine st_si (jo_sum (n := 179) (i := 178) (t := 1) (N := 4) (by decide +kernel)) (by decide) (by decide) (fun _ => (jba_178 _ _).2 (by decide)) (fun h6 eh6 => ?_)
  have qh6 := jst_up qh5 eh6 (by decide) (by unfold jWi; decide)
  refine st_pr (jo_sum (n := 179) (i := 176) (t := 0) (N := 12) (by decide +kernel)) (by decide) ?_
  refine st_na (t := 1) (c := 4) (by decide) (by decide) rfl (by decide +kernel) (fun h7 eh7 => ?_)
  have qh7 := jst_new (c := 1) qh6 eh7
  refine st_si (jo_sum (n := 180) (i := 179) (t := 1) (N := 4) (by decide +kernel)) (by decide) (by decide) (fun _ => (jba_179 _ _).2 (by decide)) (fun h8 eh8 => ?_)
  have qh8 := jst_up qh7 eh8 (by decide) (by unfold jWi; decide)
  refine st_si (jo_sum (n := 180) (i := 179) (t := 1) (N := 4) (by decide +kernel)) (by decide) (by decide) (fun _ => (jba_179 _ _).2 (by decide)) (fun h9 eh9 => ?_)
  have qh9 := jst_up qh8 eh9 (by decide) (by unfold jWi; decide)
  refine st_si (jo_sum (n := 180) (i := 179) (t := 1) (N := 4) (by decide +kernel)) (by decide) (by decide) (fun _ => (jba_179 _ _).2 (by decide)) (fun h10 eh10 => ?_)
  have qh10 := jst_up qh9 eh10 (by decide) (by unfold jWi; decide)
  refine st_si (jo_sum (n := 180) (i := 179) (t := 1) (N := 4) (by decide +kernel)) (by decide) (by decide) (fun _ => (jba_179 _ _).2 (by decide)) (fun h11 eh11 => ?_)
  have qh11 := jst_up qh10 eh11 (by decide) (by unfold jWi; decide)
  refine st_pr (jo_sum (n := 180) (i := 176) (t := 0) (N := 12) (by decide +kernel)) (by decide) ?_
  refine st_na (t := 1) (c := 120) (by decide) (by decide) rfl (by decide +kernel) (fun h12 eh12 => ?_)
  have qh12 := jst_new (c := 1) qh11 eh12
  refine st_pr (jo_sum (n := 181) (i := 176) (t := 0) (N := 12) (by decide +kernel)) (by decide) ?_
  refine st_na (t := 1) (c := 6) (by decide) (by decide) rfl (by decide +kernel) (fun h13 eh13 => ?_)
  have qh13 := jst_new (c := 1) qh12 eh13
  refine st_pr (jo_sum (n := 182) (i := 176) (t := 0) (N := 12) (by decide +kernel)) (by decide) ?_
  refine st_na (t := 1) (c := 40) (by decide) (by decide) rfl (by decide +kernel) (fun h14 eh14 => ?_)
  have qh14 := jst_new (c := 1) qh13 eh14
  refine st_pr (jo_sum (n := 183) (i := 176) (t := 0) (N := 12) (by decide +kernel)) (by decide) ?_
  refine st_na (t := 1) (c := 40) (by decide) (by decide) rfl (by decide +kernel) (fun h15 eh15 => ?_)
  have qh15 := jst_new (c := 1) qh14 eh15
  refine st_pr (jo_sum (n := 184) (i := 176) (t := 0) (N := 12) (by decide +kernel)) (by decide) ?_
  refine st_na (t := 1) (c := 40) (by decide) (by decide) rfl (by decide +kernel) (fun h16 eh16 => ?_)
  have qh16 := jst_new (c := 1) qh15 eh16
  refine st_pr (jo_sum (n := 185) (i := 176) (t := 0) (N := 12) (by decide +kernel)) (by decide) ?_
  refine st_na (t := 1) (c := 40) (by decide) (by decide) rfl (by decide +kernel) (fun h17 eh17 => ?_)
  have qh17 := jst_new (c := 1) qh16 eh17
  refine st_pr (jo_sum (n := 186) (i := 176) (t := 0) (N := 12) (by decide +kernel)) (by decide) ?_
  refine st_na (t := 1) (c := 18) (by decide) (by decide) rfl (by decide +kernel) (fun h18 eh18 => ?_)
  have qh18 := jst_new (c := 1) qh17 eh18
  refine st_pr (jo_sum (n := 187) (i := 176) (t := 0) (N := 12) (by decide +kernel)) (by decide) ?_
  refine st_na (t := 1) (c := 18) (by decide) (by decide) rfl (by decide +kernel) (fun h19 eh19 => ?_)
  have qh19 := jst_new (c := 1) qh18 eh19
  refine st_pr (jo_sum (n := 188) (i := 176) (t := 0) (N := 12) (by decide +kernel)) (by decide) ?_
  refine st_na (t := 1) (c := 108) (by decide) (by decide) rfl (by decide +kernel) (fun h20 eh20 => ?_)
  have qh20 := jst_new (c := 1) qh19 eh20
  refine st_pr (jo_sum (n := 189) (i := 176) (t := 0) (N := 12) (by decide +kernel)) (by decide) ?_
  refine st_na (t := 1) (c := 16) (by decide) (by decide) rfl (by decide +kernel) (fun h21 eh21 => ?_)
  have qh21 := jst_new (c := 1) qh20 eh21
  refine st_pr (jo_sum (n := 190) (i := 176) (t := 0) (N := 12) (by decide +kernel)) (by decide) ?_
  refine st_na (t := 1) (c := 16) (by decide) (by decide) rfl (by decide +kernel) (fun h22 eh22 => ?_)
  have qh22 := jst_new (c := 1) qh21 eh22
  refine st_pr (jo_sum (n := 191) (i := 176) (t := 0) (N := 12) (by decide +kernel)) (by decide) ?_
  refine st_na (t := 1) (c := 16) (by decide) (by decide) rfl (by decide +kernel) (fun h23 eh23 => ?_)
  have qh23 := jst_new (c := 1) qh22 eh23
  refine st_pr (jo_sum (n := 192) (i := 176) (t := 0) (N := 12) (by decide +kernel)) (by decide) ?_
  refine st_na (t := 1) (c := 16) (by decide) (by decide) rfl (by decide +kernel) (fun h24 eh24 => ?_)
  have qh24 := jst_new (c := 1) qh23 eh24
  refine st_pr (jo_sum (n := 193) (i := 176) (t := 0) (N := 12) (by decide +kernel)) (by decide) ?_
  refine st_na (t := 1) (c := 16) (by decide) (by decide) rfl (by decide +kernel) (fun h25 eh25 => ?_)
  have qh25 := jst_new (c := 1) qh24 eh25
  refine st_pr (jo_sum (n := 194) (i := 176) (t := 0) (N := 12) (by decide +kernel)) (by decide) ?_
  refine st_na (t := 1) (c := 16) (by decide) (by decide) rfl (by decide +kernel) (fun h26 eh26 => ?_)
  have qh26 := jst_new (c := 1) qh25 eh26
  refine st_pr (jo_sum (n := 195) (i := 176) (t := 0) (N := 12) (by decide +kernel)) (by decide) ?_
  refine st_na (t := 1) (c := 16) (by decide) (by decide) rfl (by decide +kernel) (fun h27 eh27 => ?_)
  have qh27 := jst_new (c := 1) qh26 eh27
  refine st_pr (jo_sum (n := 196) (i := 176) (t := 0) (N := 12) (by decide +kernel)) (by decide) ?_
  refine st_na (t := 3) (c := 16) (by decide) (by decide) rfl (by decide +kernel) (fun h28 eh28 => ?_)
  have qh28 := jst_new (c := 1) qh27 eh28
  refine st_pr (jo_sum (n := 197) (i := 176) (t := 0) (N := 12) (by decide +kernel)) (by decide) ?_
  refine st_na (t := 1) (c := 16) (by decide) (by decide) rfl (by decide +kernel) (fun h29 eh29 => ?_)
  have qh29 := jst_new (c := 1) qh28 eh29
  refine st_pr (jo_sum (n := 198) (i := 176) (t := 0) (N := 12) (by decide +kernel)) (by decide) ?_
  refine st_na (t := 1) (c := 16) (by decide) (by decide) rfl (by decide +kernel) (fun h30 eh30 => ?_)
  have qh30 := jst_new (c := 1) qh29 eh30
  refine st_pr (jo_sum (n := 199) (i := 176) (t := 0) (N := 12) (by decide +kernel)) (by decide) ?_
  refine st_na (t := 1) (c := 96) (by decide) (by decide) rfl (by decide +kernel) (fun h31 eh31 => ?_)
  have qh31 := jst_new (c := 1) qh30 eh31
  refine st_pr (jo_sum (n := 200) (i := 176) (t := 0) (N := 12) (by decide +kernel)) (by decide) ?_
  refine st_na (t := 1) (c := 96) (by decide) (by decide) rfl (by decide +kernel) (fun h32 eh32 => ?_)
  have qh32 := jst_new (c := 1) qh31 eh32
  refine st_pr (jo_sum (n := 201) (i := 176) (t := 0) (N := 12) (by decide +kernel)) (by decide) ?_
  refine st_na (t := 3) (c := 16) (by decide) (by decide) rfl (by decide +kernel) (fun h33 eh33 => ?_)
  have qh33 := jst_new (c := 1) qh32 eh33
  refine st_pr (jo_sum (n := 202) (i := 176) (t := 0) (N := 12) (by decide +kernel)) (by decide) ?_
  refine st_na (t := 1) (c := 6) (by decide) (by decide) rfl (by decide +kernel) (fun h34 eh34 => ?_)
  have qh34 := jst_new (c := 1) qh33 eh34
  refine st_si (jo_sum (n := 203) (i := 202) (t := 1) (N := 6) (by decide +kernel)) (by decide) (by decide) (fun _ => (jba_202 _ _).2 (by decide)) (fun h35 eh35 => ?_)
  have qh35 := jst_up qh34 eh35 (by decide) (by unfold jWi; decide)
  refine st_si (jo_sum (n := 203) (i := 202) (t := 1) (N := 6) (by decide +kernel)) (by decide) (by decide) (fun _ => (jba_202 _ _).2 (by decide)) (fun h36 eh36 => ?_)
  have qh36 := jst_up qh35 eh36 (by decide) (by unfold jWi; decide)
  refine st_si (jo_sum (n := 203) (i := 202) (t := 1) (N := 6) (by decide +kernel)) (by decide) (by decide) (fun _ => (jba_202 _ _).2 (by decide)) (fun h37 eh37 => ?_)
  have qh37 := jst_up qh36 eh37 (by decide) (by unfold jWi; decide)
  refine st_si (jo_sum (n := 203) (i := 202) (t := 1) (N := 6) (by decide +kernel)) (by decide) (by decide) (fun _ => (jba_202 _ _).2 (by decide)) (fun h38 eh38 => ?_)
  have qh38 := jst_up qh37 eh38 (by decide) (by unfold jWi; decide)
  refine st_si (jo_sum (n := 203) (i := 202) (t := 1) (N := 6) (by decide +kernel)) (by decide) (by decide) (fun _ => (jba_202 _ _).2 (by decide)) (fun h39 eh39 => ?_)
  have qh39 := jst_up qh38 eh39 (by decide) (by unfold jWi; decide)
  refine st_si (jo_sum (n := 203) (i := 202) (t := 1) (N := 6) (by decide +kernel)) (by decide) (by decide) (fun _ => (jba_202 _ _).2 (by decide)) (fun h40 eh40 => ?_)
  have qh40 := jst_up qh39 eh40 (by decide) (by unfold jWi; decide)
  refine st_pr (jo_sum (n := 203) (i := 176) (t := 0) (N := 12) (by decide +kernel)) (by decide) ?_
  refine st_na (t := 1) (c := 6) (by decide) (by decide) rfl (by decide +kernel) (fun h41 eh41 => ?_)
  have qh41 := jst_new (c := 1) qh40 eh41
  refine st_pr (jo_sum (n := 204) (i := 176) (t := 0) (N := 12) (by decide +kernel)) (by decide) ?_
  refine st_na (t := 1) (c := 3) (by decide) (by decide) rfl (by decide +kernel) (fun h42 eh42 => ?_)
  have qh42 := jst_new (c := 1) qh41 eh42
  refine st_pr (jo_sum (n := 205) (i := 176) (t := 0) (N := 12) (by decide +kernel)) (by decide) ?_
  refine st_na (t := 1) (c := 40) (by decide) (by decide) rfl (by decide +kernel) (fun h43 eh43 => ?_)
  have qh43 := jst_new (c := 1) qh42 eh43
  refine st_pr (jo_sum (n := 206) (i := 176) (t := 0) (N := 12) (by decide +kernel)) (by decide) ?_
  refine st_na (t := 1) (c := 40) (by decide) (by decide) rfl (by decide +kernel) (fun h44 eh44 => ?_)
  have qh44 := jst_new (c := 1) qh43 eh44
  refine st_pr (jo_sum (n := 207) (i := 176) (t := 0) (N := 12) (by decide +kernel)) (by decide) ?_
  refine st_na (t := 1) (c := 40) (by decide) (by decide) rfl (by decide +kernel) (fun h45 eh45 => ?_)
  have qh45 := jst_new (c := 1) qh44 eh45
  refine st_pr (jo_sum (n := 208) (i := 176) (t := 0) (N := 12) (by decide +kernel)) (by decide) ?_
  refine st_na (t := 1) (c := 40) (by decide) (by decide) rfl (by decide +kernel) (fun h46 eh46 => ?_)
  have qh46 := jst_new (c := 1) qh45 eh46
  refine st_pr (jo_sum (n := 209) (i := 176) (t := 0) (N := 12) (by decide +kernel)) (by decide) ?_
  refine st_na (t := 1) (c := 40) (by decide) (by decide) rfl (by decide +kernel) (fun h47 eh47 => ?_)
  have qh47 := jst_new (c := 1) qh46 eh47
  refine st_pr (jo_sum (n := 210) (i := 176) (t := 0) (N := 12) (by decide +kernel)) (by decide) ?_
  refine st_na (t := 1) (c := 3) (by decide) (by decide) rfl (by decide +kernel) (fun h48 eh48 => ?_)
  have qh48 := jst_new (c := 1) qh47 eh48
  refine st_pr (jo_sum (n := 211) (i := 176) (t := 0) (N := 12) (by decide +kernel)) (by decide) ?_
  refine st_na (t := 1) (c := 18) (by decide) (by decide) rfl (by decide +kernel) (fun h49 eh49 => ?_)
  have qh49 := jst_new (c := 1) qh48 eh49
  refine st_pr (jo_sum (n := 212) (i := 176) (t := 0) (N := 12) (by decide +kernel)) (by decide) ?_
  refine st_na (t := 1) (c := 18) (by decide) (by decide) rfl (by decide +kernel) (fun h50 eh50 => ?_)
  have qh50 := jst_new (c := 1) qh49 eh50
  refine st_pr (jo_sum (n := 213) (i := 176) (t := 0) (N := 12) (by decide +kernel)) (by decide) ?_
  refine st_na (t := 1) (c := 18) (by decide) (by decide) rfl (by decide +kernel) (fun h51 eh51 => ?_)
  have qh51 := jst_new (c := 1) qh50 eh51
  refine st_pr (jo_sum (n := 214) (i := 176) (t := 0) (N := 12) (by decide +kernel)) (by decide) ?_
  refine st_na (t := 1) (c := 18) (by decide) (by decide) rfl (by decide +kernel) (fun h52 eh52 => ?_)
  have qh52 := jst_new (c := 1) qh51 eh52
  refine st_pr (jo_sum (n := 215) (i := 176) (t := 0) (N := 12) (by decide +kernel)) (by decide) ?_
  refine st_na (t := 1) (c := 40) (by decide) (by decide) rfl (by decide +kernel) (fun h53 eh53 => ?_)
  have qh53 := jst_new (c := 1) qh52 eh53
  refine st_pr (jo_sum (n := 216) (i := 176) (t := 0) (N := 12) (by decide +kernel)) (by decide) ?_
  refine st_na (t := 1) (c := 40) (by decide) (by decide) rfl (by decide +kernel) (fun h54 eh54 => ?_)
  have qh54 := jst_new (c := 1) qh53 eh54
  refine st_pr (jo_sum (n := 217) (i := 176) (t := 0) (N := 12) (by decide +kernel)) (by decide) ?_
  refine st_na (t := 1) (c := 40) (by decide) (by decide) rfl (by decide +kernel) (fun h55 eh55 => ?_)
  have qh55 := jst_new (c := 1) qh54 eh55
  refine st_pr (jo_sum (n := 218) (i := 176) (t := 0) (N := 12) (by decide +kernel)) (by decide) ?_
  refine st_na (t := 1) (c := 40) (by decide) (by decide) rfl (by decide +kernel) (fun h56 eh56 => ?_)
  have qh56 := jst_new (c := 1) qh55 eh56
  refine st_pr (jo_sum (n := 219) (i := 176) (t := 0) (N := 12) (by decide +kernel)) (by decide) ?_
  refine st_na (t := 1) (c := 8) (by decide) (by decide) rfl (by decide +kernel) (fun h57 eh57 => ?_)
  have qh57 := jst_new (c := 1) qh56 eh57
  refine st_pr (jo_sum (n := 220) (i := 176) (t := 0) (N := 12) (by decide +kernel)) (by decide) ?_
  refine st_na (t := 1) (c := 30) (by decide) (by decide) rfl (by decide +kernel) (fun h58 eh58 => ?_)
  have qh58 := jst_new (c := 1) qh57 eh58
  refine st_pr (jo_sum (n := 221) (i := 176) (t := 0) (N := 12) (by decide +kernel)) (by decide) ?_
  refine st_na (t := 3) (c := 40) (by decide) (by decide) rfl (by decide +kernel) (fun h59 eh59 => ?_)
  have qh59 := jst_new (c := 1) qh58 eh59
  refine st_pr (jo_sum (n := 222) (i := 176) (t := 0) (N := 12) (by decide +kernel)) (by decide) ?_
  refine st_na (t := 1) (c := 6) (by decide) (by decide) rfl (by decide +kernel) (fun h60 eh60 => ?_)
  have qh60 := jst_new (c := 1) qh59 eh60
  refine st_pr (jo_sum (n := 223) (i := 176) (t := 0) (N := 12) (by decide +kernel)) (by decide) ?_
  refine st_na (t := 1) (c := 64) (by decide) (by decide) rfl (by decide +kernel) (fun h61 eh61 => ?_)
  have qh61 := jst_new (c := 1) qh60 eh61
  refine st_pr (jo_sum (n := 224) (i := 176) (t := 0) (N := 12) (by decide +kernel)) (by decide) ?_
  refine st_na (t := 1) (c := 400) (by decide) (by decide) rfl (by decide +kernel) (fun h62 eh62 => ?_)
  have qh62 := jst_new (c := 1) qh61 eh62
  refine st_pr (jo_sum (n := 225) (i := 176) (t := 0) (N := 12) (by decide +kernel)) (by decide) ?_
  refine st_na (t := 1) (c := 96) (by decide) (by decide) rfl (by decide +kernel) (fun h63 eh63 => ?_)
  have qh63 := jst_new (c := 1) qh62 eh63
  refine st_pr (jo_sum (n := 226) (i := 176) (t := 0) (N := 12) (by decide +kernel)) (by decide) ?_
  refine st_na (t := 1) (c := 5) (by decide) (by decide) rfl (by decide +kernel) (fun h64 eh64 => ?_)
  have qh64 := jst_new (c := 1) qh63 eh64
  refine st_pr (jo_sum (n := 227) (i := 176) (t := 0) (N := 12) (by decide +kernel)) (by decide) ?_
  refine st_na (t := 1) (c := 5) (by decide) (by decide) rfl (by decide +kernel) (fun h65 eh65 => ?_)
  have qh65 := jst_new (c := 1) qh64 eh65
  refine st_pr (jo_sum (n := 228) (i := 176) (t := 0) (N := 12) (by decide +kernel)) (by decide) ?_
  refine st_na (t := 1) (c := 5) (by decide) (by decide) rfl (by decide +kernel) (fun h66 eh66 => ?_)
  have qh66 := jst_new (c := 1) qh65 eh66
  refine st_pr (jo_sum (n := 229) (i := 176) (t := 0) (N := 12) (by decide +kernel)) (by decide) ?_
  exact ⟨rfl, rfl, rfl, qh66⟩
