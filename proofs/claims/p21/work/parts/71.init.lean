def RR_X1_init_2 (r : JH) : JH := jup (jnw (jup (jmu (jnw (jup (jnw (jup (jnw (r) 3 1 (-1)) 2 0 3) 4 1 (-1)) 2 1 4) 5 5 (-1)) 5 4) 2 2 5) 10 1 (-1)) 2 3 10
set_option maxHeartbeats 4000000 in
set_option maxRecDepth 20000 in
theorem n_X1_init_2 {E : JE} {l : Launch} (r h : JH) : jMt E l 1 [.inr (.inr (.inl 2))] 3 r h (fun v r' h' => v = none ∧ r' = RR_X1_init_2 r ∧ jst 3 h 11 h' ∧ ∀ k : Int, 0 ≤ k → k < 4 → h' 4 k = -1 ∧ h' 10 k = -1) := by
  refine jMtn (nL := 1) (n1 := 11) (ls := [.inr (.inr (.inl 2))]) (by decide +kernel) (by decide +kernel) (by decide +kernel) (by decide) rfl rfl ?_
  have q0 := jst_rf 3 h
  refine jGo_blk qX1_init_0 ?_
  refine st_ob (by decide) rfl ?_
  refine st_na (t := 1) (c := 4) (by decide) (by decide) rfl (by decide +kernel) (fun h1 eh1 => ?_)
  have qh1 := jst_new (c := 1) q0 eh1
  refine st_pr (jo_sum (n := 4) (i := 2) (t := 0) (N := 1) (by decide +kernel)) (by decide) ?_
  refine st_na (t := 1) (c := 4) (by decide) (by decide) rfl (by decide +kernel) (fun h2 eh2 => ?_)
  have qh2 := jst_new (c := 1) qh1 eh2
  refine st_pr (jo_sum (n := 5) (i := 2) (t := 0) (N := 1) (by decide +kernel)) (by decide) ?_
  refine st_nm (c := 4) (k := 30) (by decide) (by decide) (by decide) (by decide) rfl (by decide +kernel) (by decide +kernel) (fun h3 eh3 => ?_)
  have qh3 := jst_new (c := 1 + (4 : Int).toNat) qh2 eh3
  refine st_pr (jo_sum (n := 10) (i := 2) (t := 0) (N := 1) (by decide +kernel)) (by decide) ?_
  refine st_na (t := 1) (c := 4) (by decide) (by decide) rfl (by decide +kernel) (fun h4 eh4 => ?_)
  have qh4 := jst_new (c := 1) qh3 eh4
  refine st_pr (jo_sum (n := 11) (i := 2) (t := 0) (N := 1) (by decide +kernel)) (by decide) ?_
  refine st_gr (v := 4) (jo_sum (n := 11) (i := 2) (t := 0) (N := 1) (by decide +kernel)) rfl ?_
  refine st_cs (na := 2) (st := [.inl (-1), .inr (.inr (.inl 4))]) rfl rfl rfl (c_fillG (n := 11) (by decide) 4 (-1) h4 (jo_sum (n := 11) (i := 4) (t := 1) (N := 4) (by decide +kernel)) (by decide) (fun k _ => (jba_4 _ _).2 (by decide))) rfl ?_
  rintro _ _ h5 ⟨rfl, fh5, rfl, zh5⟩ _
  have qh5 := jst_fr qh4 fh5 (by decide) (by unfold jWi; decide)
  refine st_gr (v := 10) (jo_sum (n := 11) (i := 2) (t := 0) (N := 1) (by decide +kernel)) rfl ?_
  refine st_cs (na := 2) (st := [.inl (-1), .inr (.inr (.inl 10))]) rfl rfl rfl (c_fillG (n := 11) (by decide) 10 (-1) h5 (jo_sum (n := 11) (i := 10) (t := 1) (N := 4) (by decide +kernel)) (by decide) (fun k _ => (jba_10 _ _).2 (by decide))) rfl ?_
  rintro _ _ h6 ⟨rfl, fh6, rfl, zh6⟩ _
  have qh6 := jst_fr qh5 fh6 (by decide) (by unfold jWi; decide)
  exact ⟨rfl, rfl, rfl, qh6, fun k a b => ⟨(fh6 4 k (by unfold w_fill; decide)).trans (zh5 k a (by omega)), zh6 k a (by omega)⟩⟩

def RR_X2_init_11 (r : JH) : JH := jup (jnw (jup (jnw (jup (jnw (jup (jnw (r) 12 1 (-1)) 11 1 12) 13 1 (-1)) 11 2 13) 14 1 (-1)) 11 3 14) 15 1 (-1)) 11 4 15
set_option maxHeartbeats 4000000 in
set_option maxRecDepth 20000 in
theorem n_X2_init_11 {E : JE} {l : Launch} (r h : JH) : jMt E l 2 [.inr (.inr (.inl 11))] 12 r h (fun v r' h' => v = none ∧ r' = RR_X2_init_11 r ∧ jst 12 h 16 h') := by
  refine jMtn (nL := 1) (n1 := 16) (ls := [.inr (.inr (.inl 11))]) (by decide +kernel) (by decide +kernel) (by decide +kernel) (by decide) rfl rfl ?_
  have q0 := jst_rf 12 h
  refine jGo_blk qX2_init_0 ?_
  refine st_ob (by decide) rfl ?_
  refine st_na (t := 1) (c := 40) (by decide) (by decide) rfl (by decide +kernel) (fun h1 eh1 => ?_)
  have qh1 := jst_new (c := 1) q0 eh1
  refine st_pr (jo_sum (n := 13) (i := 11) (t := 0) (N := 2) (by decide +kernel)) (by decide) ?_
  refine st_na (t := 1) (c := 40) (by decide) (by decide) rfl (by decide +kernel) (fun h2 eh2 => ?_)
  have qh2 := jst_new (c := 1) qh1 eh2
  refine st_pr (jo_sum (n := 14) (i := 11) (t := 0) (N := 2) (by decide +kernel)) (by decide) ?_
  refine st_na (t := 1) (c := 40) (by decide) (by decide) rfl (by decide +kernel) (fun h3 eh3 => ?_)
  have qh3 := jst_new (c := 1) qh2 eh3
  refine st_pr (jo_sum (n := 15) (i := 11) (t := 0) (N := 2) (by decide +kernel)) (by decide) ?_
  refine st_na (t := 1) (c := 10) (by decide) (by decide) rfl (by decide +kernel) (fun h4 eh4 => ?_)
  have qh4 := jst_new (c := 1) qh3 eh4
  refine st_pr (jo_sum (n := 16) (i := 11) (t := 0) (N := 2) (by decide +kernel)) (by decide) ?_
  exact ⟨rfl, rfl, rfl, qh4⟩

def RR_X9_init_16 (r : JH) : JH := jup (jmu (jnw (jup (jmu (jnw (jup (jmu (jnw (r) 17 4 (-1)) 17 3) 16 0 17) 21 4 (-1)) 21 3) 16 1 21) 25 4 (-1)) 25 3) 16 2 25
set_option maxHeartbeats 4000000 in
set_option maxRecDepth 20000 in
theorem n_X9_init_16 {E : JE} {l : Launch} (r h : JH) : jMt E l 3 [.inr (.inr (.inl 16))] 17 r h (fun v r' h' => v = none ∧ r' = RR_X9_init_16 r ∧ jst 17 h 29 h') := by
  refine jMtn (nL := 1) (n1 := 29) (ls := [.inr (.inr (.inl 16))]) (by decide +kernel) (by decide +kernel) (by decide +kernel) (by decide) rfl rfl ?_
  have q0 := jst_rf 17 h
  refine jGo_blk qX9_init_0 ?_
  refine st_ob (by decide) rfl ?_
  refine st_nm (c := 3) (k := 6) (by decide) (by decide) (by decide) (by decide) rfl (by decide +kernel) (by decide +kernel) (fun h1 eh1 => ?_)
  have qh1 := jst_new (c := 1 + (3 : Int).toNat) q0 eh1
  refine st_pr (jo_sum (n := 21) (i := 16) (t := 0) (N := 9) (by decide +kernel)) (by decide) ?_
  refine st_nm (c := 3) (k := 6) (by decide) (by decide) (by decide) (by decide) rfl (by decide +kernel) (by decide +kernel) (fun h2 eh2 => ?_)
  have qh2 := jst_new (c := 1 + (3 : Int).toNat) qh1 eh2
  refine st_pr (jo_sum (n := 25) (i := 16) (t := 0) (N := 9) (by decide +kernel)) (by decide) ?_
  refine st_nm (c := 3) (k := 36) (by decide) (by decide) (by decide) (by decide) rfl (by decide +kernel) (by decide +kernel) (fun h3 eh3 => ?_)
  have qh3 := jst_new (c := 1 + (3 : Int).toNat) qh2 eh3
  refine st_pr (jo_sum (n := 29) (i := 16) (t := 0) (N := 9) (by decide +kernel)) (by decide) ?_
  exact ⟨rfl, rfl, rfl, qh3⟩

def yR_29 (r : JH) : Nat → JH
  | 0 => r
  | k + 1 => jup (RR_hull (((36 + 3 * k : Nat)) : Int) (36 + 3 * k + 1) (jnw (yR_29 r k) (36 + 3 * k) 1 (-1))) 33 (k : Int) (((36 + 3 * k : Nat)) : Int)
theorem yR_29_3 (r : JH) : ∀ k : Nat, yR_29 r k 29 3 = r 29 3
  | 0 => rfl
  | k + 1 => by
    rw [yR_29, jup_ne (by omega), RR_hull]
    rw [jup_ne (by omega), jnw_o (by omega), jup_ne (by omega), jnw_o (by omega), jnw_o (by omega)]
    exact yR_29_3 r k
theorem yk_29 : ∀ k : Nat, k < 16 → jk (((36 + 3 * k : Nat)) : Int) = (0, 4) ∧ jk (((36 + 3 * k + 1 : Nat)) : Int) = (1, 6) ∧ jk (((36 + 3 * k + 1 + 1 : Nat)) : Int) = (1, 6) := by decide +kernel
def RS_X10_init_29 (r : JH) : JH := jup (jnw (jup (jnw (jup (jnw (jup (jnw (jup (jnw (jup (jnw r 30 1 (-1)) 29 0 30) 31 1 (-1)) 29 1 31) 32 1 (-1)) 29 2 32) 33 1 (-1)) 29 3 33) 34 1 (-1)) 29 5 34) 35 1 (-1)) 29 11 35
def RR_X10_init_29 (r : JH) : JH := yR_29 (RS_X10_init_29 r) 16
set_option maxHeartbeats 4000000 in
theorem yl_29 {E : JE} {l : Launch} (r0 h hF : JH) (hr : r0 29 3 = 33) (hz : ∀ k : Int, 0 ≤ k → k < 6 → hF 31 k = -1) : ∀ M k : Nat, k + M = 16 → ∀ h1 : JH, jst 30 h (36 + 3 * k) h1 → jst 36 hF (36 + 3 * k) h1 → jGo E l 5 30 84 (jRn 84 (fun v r' h' => v = none ∧ r' = yR_29 r0 16 ∧ jst 30 h 84 h' ∧ ∀ k : Int, 0 ≤ k → k < 6 → h' 31 k = -1)) 62 [.inr (.inr (.inl 29)), .inl ((k : Nat) : Int)] [] (36 + 3 * k) (yR_29 r0 k) h1 := by
  intro M
  induction M with
  | zero =>
    intro k hk h1 q m
    have hk16 : k = 16 := by omega
    subst hk16
    refine jGo_blk qX10_init_62 ?_
    refine And.intro (fun c1 => ?_) (fun c1 => absurd (show (16 : Int) ≤ ((16 : Nat) : Int) by decide) c1)
    show jGo E l 5 30 84 _ 87 [.inr (.inr (.inl 29)), .inl ((16 : Nat) : Int)] [] (36 + 3 * 16) (yR_29 r0 16) h1
    refine jGo_blk qX10_init_87 ?_
    exact ⟨rfl, rfl, rfl, q, fun k a b => (m.2.1 31 k (by decide)).trans (hz k a b)⟩
  | succ M ih =>
    intro k hk h1 q m
    have hk16 : k < 16 := by omega
    obtain ⟨k1, k2, k3⟩ := yk_29 k hk16
    refine jGo_blk qX10_init_62 ?_
    refine And.intro (fun c1 => absurd (show (16 : Int) ≤ ((k : Nat) : Int) from c1) (by omega)) (fun _ => ?_)
    refine st_gr (v := 33) ⟨by decide, by omega, by decide +kernel⟩ ((yR_29_3 r0 k).trans hr) ?_
    refine st_nw (a := 4) (Nat.ble_eq_true_of_le (by omega)) k1 (fun h2 e2 => ?_)
    have q2 := jst_new (c := 1) q e2
    have m2 := jst_new (c := 1) m e2
    have oh : jF (36 + 3 * k + 1) (((36 + 3 * k : Nat)) : Int) 0 4 := ⟨by omega, by omega, k1⟩
    refine st_cv (c := 2) (na := 0) (st := [.inr (.inr (.inl (((36 + 3 * k : Nat)) : Int))), .inr (.inr (.inl (((36 + 3 * k : Nat)) : Int))), .inl ((k : Nat) : Int), .inr (.inr (.inl 33))]) oh rfl rfl (Nat.ble_eq_true_of_le (by omega)) (n_hull (((36 + 3 * k : Nat)) : Int) (36 + 3 * k + 1) (jnw (yR_29 r0 k) (36 + 3 * k) 1 (-1)) h2 oh (by omega) k2 k3) rfl ?_
    rintro _ _ h3 ⟨rfl, rfl, p3⟩ _
    have q3 := jst_tr q2 p3
    have m3 := jst_tr m2 p3
    refine st_sr (N := 16) ⟨by decide, by omega, by decide +kernel⟩ (show (0 : Int) ≤ ((k : Nat) : Int) by omega) (show ((k : Nat) : Int) < ((16 : Nat) : Int) by omega) ⟨by omega, by omega, k1⟩ ?_
    have e1 : jw32 (((k : Nat) : Int) + 1) = ((k + 1 : Nat) : Int) := (j32e (by omega) (by omega)).trans (by omega)
    have e4 : 36 + 3 * k + 1 + 2 = 36 + 3 * (k + 1) := by omega
    show jGo E l 5 30 84 _ 62 [.inr (.inr (.inl 29)), .inl (jw32 (((k : Nat) : Int) + 1))] [] (36 + 3 * k + 1 + 2) (yR_29 r0 (k + 1)) h3
    rw [e1, e4]
    exact ih (k + 1) (by omega) h3 (by rw [← e4]; exact q3) (by rw [← e4]; exact m3)
set_option maxHeartbeats 4000000 in
theorem n_X10_init_29 {E : JE} {l : Launch} (r h : JH) : jMt E l 5 [.inr (.inr (.inl 29))] 30 r h (fun v r' h' => v = none ∧ r' = RR_X10_init_29 r ∧ jst 30 h 84 h' ∧ ∀ k : Int, 0 ≤ k → k < 6 → h' 31 k = -1) := by
  refine jMtn (nL := 2) (n1 := 84) (ls := [.inr (.inr (.inl 29)), .inr (.inr (.inr ()))]) (by decide +kernel) (by decide +kernel) (by decide +kernel) (by decide) rfl rfl ?_
  have q0 := jst_rf 30 h
  refine jGo_blk qX10_init_0 ?_
  refine st_ob (by decide) rfl ?_
  refine st_na (t := 1) (c := 6) (by decide) (by decide) rfl (by decide +kernel) (fun h1 e1 => ?_)
  have q1 := jst_new (c := 1) q0 e1
  refine st_pr (jo_sum (n := 31) (i := 29) (t := 0) (N := 10) (by decide +kernel)) (by decide) ?_
  refine st_na (t := 1) (c := 6) (by decide) (by decide) rfl (by decide +kernel) (fun h2 e2 => ?_)
  have q2 := jst_new (c := 1) q1 e2
  refine st_pr (jo_sum (n := 32) (i := 29) (t := 0) (N := 10) (by decide +kernel)) (by decide) ?_
  refine st_na (t := 1) (c := 6) (by decide) (by decide) rfl (by decide +kernel) (fun h3 e3 => ?_)
  have q3 := jst_new (c := 1) q2 e3
  refine st_pr (jo_sum (n := 33) (i := 29) (t := 0) (N := 10) (by decide +kernel)) (by decide) ?_
  refine st_na (t := 4) (c := 16) (by decide) (by decide) rfl (by decide +kernel) (fun h4 e4 => ?_)
  have q4 := jst_new (c := 1) q3 e4
  refine st_pr (jo_sum (n := 34) (i := 29) (t := 0) (N := 10) (by decide +kernel)) (by decide) ?_
  refine st_na (t := 1) (c := 16) (by decide) (by decide) rfl (by decide +kernel) (fun h5 e5 => ?_)
  have q5 := jst_new (c := 1) q4 e5
  refine st_pr (jo_sum (n := 35) (i := 29) (t := 0) (N := 10) (by decide +kernel)) (by decide) ?_
  refine st_na (t := 1) (c := 4) (by decide) (by decide) rfl (by decide +kernel) (fun h6 e6 => ?_)
  have q6 := jst_new (c := 1) q5 e6
  refine st_pr (jo_sum (n := 36) (i := 29) (t := 0) (N := 10) (by decide +kernel)) (by decide) ?_
  refine st_gr (v := 31) (jo_sum (n := 36) (i := 29) (t := 0) (N := 10) (by decide +kernel)) rfl ?_
  refine st_cs (na := 2) (st := [.inl (-1), .inr (.inr (.inl 31))]) rfl rfl rfl (c_fillG (n := 36) (by decide) 31 (-1) h6 (jo_sum (n := 36) (i := 31) (t := 1) (N := 6) (by decide +kernel)) (by decide) (fun k _ => (jba_31 _ _).2 (by decide))) rfl ?_
  rintro _ _ h7 ⟨rfl, f7, rfl, z7⟩ _
  have q7 := jst_fr q6 f7 (by decide) (by unfold jWi; decide)
  show jGo E l 5 30 84 _ 62 [.inr (.inr (.inl 29)), .inl ((0 : Nat) : Int)] [] (36 + 3 * 0) (yR_29 (RS_X10_init_29 r) 0) h7
  exact yl_29 (RS_X10_init_29 r) h h7 rfl (fun k a b => z7 k a (by omega)) 16 0 rfl h7 q7 (jst_rf _ _)

def RR_X3_init_84 (r : JH) : JH := jup (jnw (jup (jnw (jup (jnw (jup (jnw (jup (jnw (jup (jnw (r) 85 1 (-1)) 84 1 85) 86 1 (-1)) 84 2 86) 87 1 (-1)) 84 3 87) 88 1 (-1)) 84 4 88) 89 1 (-1)) 84 5 89) 90 1 (-1)) 84 6 90
set_option maxHeartbeats 4000000 in
set_option maxRecDepth 20000 in
theorem n_X3_init_84 {E : JE} {l : Launch} (r h : JH) : jMt E l 6 [.inr (.inr (.inl 84))] 85 r h (fun v r' h' => v = none ∧ r' = RR_X3_init_84 r ∧ jst 85 h 91 h') := by
  refine jMtn (nL := 1) (n1 := 91) (ls := [.inr (.inr (.inl 84))]) (by decide +kernel) (by decide +kernel) (by decide +kernel) (by decide) rfl rfl ?_
  have q0 := jst_rf 85 h
  refine jGo_blk qX3_init_0 ?_
  refine st_ob (by decide) rfl ?_
  refine st_na (t := 1) (c := 40) (by decide) (by decide) rfl (by decide +kernel) (fun h1 eh1 => ?_)
  have qh1 := jst_new (c := 1) q0 eh1
  refine st_pr (jo_sum (n := 86) (i := 84) (t := 0) (N := 3) (by decide +kernel)) (by decide) ?_
  refine st_na (t := 1) (c := 40) (by decide) (by decide) rfl (by decide +kernel) (fun h2 eh2 => ?_)
  have qh2 := jst_new (c := 1) qh1 eh2
  refine st_pr (jo_sum (n := 87) (i := 84) (t := 0) (N := 3) (by decide +kernel)) (by decide) ?_
  refine st_na (t := 1) (c := 40) (by decide) (by decide) rfl (by decide +kernel) (fun h3 eh3 => ?_)
  have qh3 := jst_new (c := 1) qh2 eh3
  refine st_pr (jo_sum (n := 88) (i := 84) (t := 0) (N := 3) (by decide +kernel)) (by decide) ?_
  refine st_na (t := 1) (c := 40) (by decide) (by decide) rfl (by decide +kernel) (fun h4 eh4 => ?_)
  have qh4 := jst_new (c := 1) qh3 eh4
  refine st_pr (jo_sum (n := 89) (i := 84) (t := 0) (N := 3) (by decide +kernel)) (by decide) ?_
  refine st_na (t := 1) (c := 40) (by decide) (by decide) rfl (by decide +kernel) (fun h5 eh5 => ?_)
  have qh5 := jst_new (c := 1) qh4 eh5
  refine st_pr (jo_sum (n := 90) (i := 84) (t := 0) (N := 3) (by decide +kernel)) (by decide) ?_
  refine st_na (t := 1) (c := 3) (by decide) (by decide) rfl (by decide +kernel) (fun h6 eh6 => ?_)
  have qh6 := jst_new (c := 1) qh5 eh6
  refine st_pr (jo_sum (n := 91) (i := 84) (t := 0) (N := 3) (by decide +kernel)) (by decide) ?_
  exact ⟨rfl, rfl, rfl, qh6⟩

def RR_X8_init_91 (r : JH) : JH := jup (jnw (jup (jnw (jup (jnw (jup (jnw (jup (jnw (r) 92 1 (-1)) 91 0 92) 93 1 (-1)) 91 1 93) 94 1 (-1)) 91 2 94) 95 1 (-1)) 91 3 95) 96 1 (-1)) 91 4 96
set_option maxHeartbeats 4000000 in
set_option maxRecDepth 20000 in
theorem n_X8_init_91 {E : JE} {l : Launch} (r h : JH) : jMt E l 7 [.inr (.inr (.inl 91))] 92 r h (fun v r' h' => v = none ∧ r' = RR_X8_init_91 r ∧ jst 92 h 97 h') := by
  refine jMtn (nL := 1) (n1 := 97) (ls := [.inr (.inr (.inl 91))]) (by decide +kernel) (by decide +kernel) (by decide +kernel) (by decide) rfl rfl ?_
  have q0 := jst_rf 92 h
  refine jGo_blk qX8_init_0 ?_
  refine st_ob (by decide) rfl ?_
  refine st_na (t := 1) (c := 3) (by decide) (by decide) rfl (by decide +kernel) (fun h1 eh1 => ?_)
  have qh1 := jst_new (c := 1) q0 eh1
  refine st_pr (jo_sum (n := 93) (i := 91) (t := 0) (N := 8) (by decide +kernel)) (by decide) ?_
  refine st_na (t := 1) (c := 18) (by decide) (by decide) rfl (by decide +kernel) (fun h2 eh2 => ?_)
  have qh2 := jst_new (c := 1) qh1 eh2
  refine st_pr (jo_sum (n := 94) (i := 91) (t := 0) (N := 8) (by decide +kernel)) (by decide) ?_
  refine st_na (t := 1) (c := 18) (by decide) (by decide) rfl (by decide +kernel) (fun h3 eh3 => ?_)
  have qh3 := jst_new (c := 1) qh2 eh3
  refine st_pr (jo_sum (n := 95) (i := 91) (t := 0) (N := 8) (by decide +kernel)) (by decide) ?_
  refine st_na (t := 1) (c := 18) (by decide) (by decide) rfl (by decide +kernel) (fun h4 eh4 => ?_)
  have qh4 := jst_new (c := 1) qh3 eh4
  refine st_pr (jo_sum (n := 96) (i := 91) (t := 0) (N := 8) (by decide +kernel)) (by decide) ?_
  refine st_na (t := 1) (c := 18) (by decide) (by decide) rfl (by decide +kernel) (fun h5 eh5 => ?_)
  have qh5 := jst_new (c := 1) qh4 eh5
  refine st_pr (jo_sum (n := 97) (i := 91) (t := 0) (N := 8) (by decide +kernel)) (by decide) ?_
  exact ⟨rfl, rfl, rfl, qh5⟩

def RR_X6_init_97 (r : JH) : JH := jup (jnw (jup (jnw (jup (jnw (r) 98 1 (-1)) 97 2 98) 99 1 (-1)) 97 3 99) 100 1 (-1)) 97 4 100
set_option maxHeartbeats 4000000 in
set_option maxRecDepth 20000 in
theorem n_X6_init_97 {E : JE} {l : Launch} (r h : JH) : jMt E l 8 [.inr (.inr (.inl 97))] 98 r h (fun v r' h' => v = none ∧ r' = RR_X6_init_97 r ∧ jst 98 h 101 h') := by
  refine jMtn (nL := 1) (n1 := 101) (ls := [.inr (.inr (.inl 97))]) (by decide +kernel) (by decide +kernel) (by decide +kernel) (by decide) rfl rfl ?_
  have q0 := jst_rf 98 h
  refine jGo_blk qX6_init_0 ?_
  refine st_ob (by decide) rfl ?_
  refine st_na (t := 1) (c := 6) (by decide) (by decide) rfl (by decide +kernel) (fun h1 eh1 => ?_)
  have qh1 := jst_new (c := 1) q0 eh1
  refine st_pr (jo_sum (n := 99) (i := 97) (t := 0) (N := 6) (by decide +kernel)) (by decide) ?_
  refine st_na (t := 2) (c := 64) (by decide) (by decide) rfl (by decide +kernel) (fun h2 eh2 => ?_)
  have qh2 := jst_new (c := 1) qh1 eh2
  refine st_pr (jo_sum (n := 100) (i := 97) (t := 0) (N := 6) (by decide +kernel)) (by decide) ?_
  refine st_na (t := 2) (c := 6) (by decide) (by decide) rfl (by decide +kernel) (fun h3 eh3 => ?_)
  have qh3 := jst_new (c := 1) qh2 eh3
  refine st_pr (jo_sum (n := 101) (i := 97) (t := 0) (N := 6) (by decide +kernel)) (by decide) ?_
  exact ⟨rfl, rfl, rfl, qh3⟩

def RR_X5_init_101 (r : JH) : JH := jup (jnw (jup (jnw (jup (jnw (jup (jnw (r) 102 1 (-1)) 101 1 102) 103 1 (-1)) 101 2 103) 104 1 (-1)) 101 3 104) 105 1 (-1)) 101 4 105
set_option maxHeartbeats 4000000 in
set_option maxRecDepth 20000 in
theorem n_X5_init_101 {E : JE} {l : Launch} (r h : JH) : jMt E l 9 [.inr (.inr (.inl 101))] 102 r h (fun v r' h' => v = none ∧ r' = RR_X5_init_101 r ∧ jst 102 h 106 h') := by
  refine jMtn (nL := 1) (n1 := 106) (ls := [.inr (.inr (.inl 101))]) (by decide +kernel) (by decide +kernel) (by decide +kernel) (by decide) rfl rfl ?_
  have q0 := jst_rf 102 h
  refine jGo_blk qX5_init_0 ?_
  refine st_ob (by decide) rfl ?_
  refine st_na (t := 1) (c := 40) (by decide) (by decide) rfl (by decide +kernel) (fun h1 eh1 => ?_)
  have qh1 := jst_new (c := 1) q0 eh1
  refine st_pr (jo_sum (n := 103) (i := 101) (t := 0) (N := 5) (by decide +kernel)) (by decide) ?_
  refine st_na (t := 1) (c := 40) (by decide) (by decide) rfl (by decide +kernel) (fun h2 eh2 => ?_)
  have qh2 := jst_new (c := 1) qh1 eh2
  refine st_pr (jo_sum (n := 104) (i := 101) (t := 0) (N := 5) (by decide +kernel)) (by decide) ?_
  refine st_na (t := 1) (c := 40) (by decide) (by decide) rfl (by decide +kernel) (fun h3 eh3 => ?_)
  have qh3 := jst_new (c := 1) qh2 eh3
  refine st_pr (jo_sum (n := 105) (i := 101) (t := 0) (N := 5) (by decide +kernel)) (by decide) ?_
  refine st_na (t := 1) (c := 40) (by decide) (by decide) rfl (by decide +kernel) (fun h4 eh4 => ?_)
  have qh4 := jst_new (c := 1) qh3 eh4
  refine st_pr (jo_sum (n := 106) (i := 101) (t := 0) (N := 5) (by decide +kernel)) (by decide) ?_
  exact ⟨rfl, rfl, rfl, qh4⟩

def RR_X0_init_106 (r : JH) : JH := jup (jnw (jup (jnw (jup (jnw (jup (jnw (r) 107 1 (-1)) 106 0 107) 108 1 (-1)) 106 1 108) 109 1 (-1)) 106 2 109) 110 1 (-1)) 106 3 110
set_option maxHeartbeats 4000000 in
set_option maxRecDepth 20000 in
theorem n_X0_init_106 {E : JE} {l : Launch} (r h : JH) : jMt E l 10 [.inr (.inr (.inl 106)), .inl 1] 107 r h (fun v r' h' => v = none ∧ r' = RR_X0_init_106 r ∧ jst 107 h 111 h') := by
  refine jMtn (nL := 2) (n1 := 111) (ls := [.inr (.inr (.inl 106)), .inl 1]) (by decide +kernel) (by decide +kernel) (by decide +kernel) (by decide) rfl rfl ?_
  have q0 := jst_rf 107 h
  refine jGo_blk qX0_init_0 ?_
  refine st_ob (by decide) rfl ?_
  refine st_na (t := 1) (c := 4) (by decide) (by decide) rfl (by decide +kernel) (fun h1 eh1 => ?_)
  have qh1 := jst_new (c := 1) q0 eh1
  refine st_pr (jo_sum (n := 108) (i := 106) (t := 0) (N := 0) (by decide +kernel)) (by decide) ?_
  refine st_na (t := 1) (c := 1) (by decide) (by decide) rfl (by decide +kernel) (fun h2 eh2 => ?_)
  have qh2 := jst_new (c := 1) qh1 eh2
  refine st_pr (jo_sum (n := 109) (i := 106) (t := 0) (N := 0) (by decide +kernel)) (by decide) ?_
  refine st_na (t := 1) (c := 1) (by decide) (by decide) rfl (by decide +kernel) (fun h3 eh3 => ?_)
  have qh3 := jst_new (c := 1) qh2 eh3
  refine st_pr (jo_sum (n := 110) (i := 106) (t := 0) (N := 0) (by decide +kernel)) (by decide) ?_
  refine st_na (t := 1) (c := 1) (by decide) (by decide) rfl (by decide +kernel) (fun h4 eh4 => ?_)
  have qh4 := jst_new (c := 1) qh3 eh4
  refine st_pr (jo_sum (n := 111) (i := 106) (t := 0) (N := 0) (by decide +kernel)) (by decide) ?_
  exact ⟨rfl, rfl, rfl, qh4⟩

def RR_X0_init_113 (r : JH) : JH := jup (jnw (jup (jnw (jup (jnw (jup (jnw (r) 114 1 (-1)) 113 0 114) 115 1 (-1)) 113 1 115) 116 1 (-1)) 113 2 116) 117 1 (-1)) 113 3 117
set_option maxHeartbeats 4000000 in
set_option maxRecDepth 20000 in
theorem n_X0_init_113 {E : JE} {l : Launch} (r h : JH) : jMt E l 10 [.inr (.inr (.inl 113)), .inl 300] 114 r h (fun v r' h' => v = none ∧ r' = RR_X0_init_113 r ∧ jst 114 h 118 h') := by
  refine jMtn (nL := 2) (n1 := 118) (ls := [.inr (.inr (.inl 113)), .inl 300]) (by decide +kernel) (by decide +kernel) (by decide +kernel) (by decide) rfl rfl ?_
  have q0 := jst_rf 114 h
  refine jGo_blk qX0_init_0 ?_
  refine st_ob (by decide) rfl ?_
  refine st_na (t := 1) (c := 1200) (by decide) (by decide) rfl (by decide +kernel) (fun h1 eh1 => ?_)
  have qh1 := jst_new (c := 1) q0 eh1
  refine st_pr (jo_sum (n := 115) (i := 113) (t := 0) (N := 0) (by decide +kernel)) (by decide) ?_
  refine st_na (t := 1) (c := 300) (by decide) (by decide) rfl (by decide +kernel) (fun h2 eh2 => ?_)
  have qh2 := jst_new (c := 1) qh1 eh2
  refine st_pr (jo_sum (n := 116) (i := 113) (t := 0) (N := 0) (by decide +kernel)) (by decide) ?_
  refine st_na (t := 1) (c := 300) (by decide) (by decide) rfl (by decide +kernel) (fun h3 eh3 => ?_)
  have qh3 := jst_new (c := 1) qh2 eh3
  refine st_pr (jo_sum (n := 117) (i := 113) (t := 0) (N := 0) (by decide +kernel)) (by decide) ?_
  refine st_na (t := 1) (c := 300) (by decide) (by decide) rfl (by decide +kernel) (fun h4 eh4 => ?_)
  have qh4 := jst_new (c := 1) qh3 eh4
  refine st_pr (jo_sum (n := 118) (i := 113) (t := 0) (N := 0) (by decide +kernel)) (by decide) ?_
  exact ⟨rfl, rfl, rfl, qh4⟩

def yR_119 (r : JH) : Nat → JH
  | 0 => r
  | k + 1 => jup (RR_hull (((126 + 3 * k : Nat)) : Int) (126 + 3 * k + 1) (jnw (yR_119 r k) (126 + 3 * k) 1 (-1))) 123 (k : Int) (((126 + 3 * k : Nat)) : Int)
theorem yR_119_3 (r : JH) : ∀ k : Nat, yR_119 r k 119 3 = r 119 3
  | 0 => rfl
  | k + 1 => by
    rw [yR_119, jup_ne (by omega), RR_hull]
    rw [jup_ne (by omega), jnw_o (by omega), jup_ne (by omega), jnw_o (by omega), jnw_o (by omega)]
    exact yR_119_3 r k
theorem yk_119 : ∀ k : Nat, k < 16 → jk (((126 + 3 * k : Nat)) : Int) = (0, 4) ∧ jk (((126 + 3 * k + 1 : Nat)) : Int) = (1, 6) ∧ jk (((126 + 3 * k + 1 + 1 : Nat)) : Int) = (1, 6) := by decide +kernel
def RS_X10_init_119 (r : JH) : JH := jup (jnw (jup (jnw (jup (jnw (jup (jnw (jup (jnw (jup (jnw r 120 1 (-1)) 119 0 120) 121 1 (-1)) 119 1 121) 122 1 (-1)) 119 2 122) 123 1 (-1)) 119 3 123) 124 1 (-1)) 119 5 124) 125 1 (-1)) 119 11 125
def RR_X10_init_119 (r : JH) : JH := yR_119 (RS_X10_init_119 r) 16
set_option maxHeartbeats 4000000 in
theorem yl_119 {E : JE} {l : Launch} (r0 h hF : JH) (hr : r0 119 3 = 123) (hz : ∀ k : Int, 0 ≤ k → k < 6 → hF 121 k = -1) : ∀ M k : Nat, k + M = 16 → ∀ h1 : JH, jst 120 h (126 + 3 * k) h1 → jst 126 hF (126 + 3 * k) h1 → jGo E l 5 120 174 (jRn 174 (fun v r' h' => v = none ∧ r' = yR_119 r0 16 ∧ jst 120 h 174 h' ∧ ∀ k : Int, 0 ≤ k → k < 6 → h' 121 k = -1)) 62 [.inr (.inr (.inl 119)), .inl ((k : Nat) : Int)] [] (126 + 3 * k) (yR_119 r0 k) h1 := by
  intro M
  induction M with
  | zero =>
    intro k hk h1 q m
    have hk16 : k = 16 := by omega
    subst hk16
    refine jGo_blk qX10_init_62 ?_
    refine And.intro (fun c1 => ?_) (fun c1 => absurd (show (16 : Int) ≤ ((16 : Nat) : Int) by decide) c1)
    show jGo E l 5 120 174 _ 87 [.inr (.inr (.inl 119)), .inl ((16 : Nat) : Int)] [] (126 + 3 * 16) (yR_119 r0 16) h1
    refine jGo_blk qX10_init_87 ?_
    exact ⟨rfl, rfl, rfl, q, fun k a b => (m.2.1 121 k (by decide)).trans (hz k a b)⟩
  | succ M ih =>
    intro k hk h1 q m
    have hk16 : k < 16 := by omega
    obtain ⟨k1, k2, k3⟩ := yk_119 k hk16
    refine jGo_blk qX10_init_62 ?_
    refine And.intro (fun c1 => absurd (show (16 : Int) ≤ ((k : Nat) : Int) from c1) (by omega)) (fun _ => ?_)
    refine st_gr (v := 123) ⟨by decide, by omega, by decide +kernel⟩ ((yR_119_3 r0 k).trans hr) ?_
    refine st_nw (a := 4) (Nat.ble_eq_true_of_le (by omega)) k1 (fun h2 e2 => ?_)
    have q2 := jst_new (c := 1) q e2
    have m2 := jst_new (c := 1) m e2
    have oh : jF (126 + 3 * k + 1) (((126 + 3 * k : Nat)) : Int) 0 4 := ⟨by omega, by omega, k1⟩
    refine st_cv (c := 2) (na := 0) (st := [.inr (.inr (.inl (((126 + 3 * k : Nat)) : Int))), .inr (.inr (.inl (((126 + 3 * k : Nat)) : Int))), .inl ((k : Nat) : Int), .inr (.inr (.inl 123))]) oh rfl rfl (Nat.ble_eq_true_of_le (by omega)) (n_hull (((126 + 3 * k : Nat)) : Int) (126 + 3 * k + 1) (jnw (yR_119 r0 k) (126 + 3 * k) 1 (-1)) h2 oh (by omega) k2 k3) rfl ?_
    rintro _ _ h3 ⟨rfl, rfl, p3⟩ _
    have q3 := jst_tr q2 p3
    have m3 := jst_tr m2 p3
    refine st_sr (N := 16) ⟨by decide, by omega, by decide +kernel⟩ (show (0 : Int) ≤ ((k : Nat) : Int) by omega) (show ((k : Nat) : Int) < ((16 : Nat) : Int) by omega) ⟨by omega, by omega, k1⟩ ?_
    have e1 : jw32 (((k : Nat) : Int) + 1) = ((k + 1 : Nat) : Int) := (j32e (by omega) (by omega)).trans (by omega)
    have e4 : 126 + 3 * k + 1 + 2 = 126 + 3 * (k + 1) := by omega
    show jGo E l 5 120 174 _ 62 [.inr (.inr (.inl 119)), .inl (jw32 (((k : Nat) : Int) + 1))] [] (126 + 3 * k + 1 + 2) (yR_119 r0 (k + 1)) h3
    rw [e1, e4]
    exact ih (k + 1) (by omega) h3 (by rw [← e4]; exact q3) (by rw [← e4]; exact m3)
set_option maxHeartbeats 4000000 in
theorem n_X10_init_119 {E : JE} {l : Launch} (r h : JH) : jMt E l 5 [.inr (.inr (.inl 119))] 120 r h (fun v r' h' => v = none ∧ r' = RR_X10_init_119 r ∧ jst 120 h 174 h' ∧ ∀ k : Int, 0 ≤ k → k < 6 → h' 121 k = -1) := by
  refine jMtn (nL := 2) (n1 := 174) (ls := [.inr (.inr (.inl 119)), .inr (.inr (.inr ()))]) (by decide +kernel) (by decide +kernel) (by decide +kernel) (by decide) rfl rfl ?_
  have q0 := jst_rf 120 h
  refine jGo_blk qX10_init_0 ?_
  refine st_ob (by decide) rfl ?_
  refine st_na (t := 1) (c := 6) (by decide) (by decide) rfl (by decide +kernel) (fun h1 e1 => ?_)
  have q1 := jst_new (c := 1) q0 e1
  refine st_pr (jo_sum (n := 121) (i := 119) (t := 0) (N := 10) (by decide +kernel)) (by decide) ?_
  refine st_na (t := 1) (c := 6) (by decide) (by decide) rfl (by decide +kernel) (fun h2 e2 => ?_)
  have q2 := jst_new (c := 1) q1 e2
  refine st_pr (jo_sum (n := 122) (i := 119) (t := 0) (N := 10) (by decide +kernel)) (by decide) ?_
  refine st_na (t := 1) (c := 6) (by decide) (by decide) rfl (by decide +kernel) (fun h3 e3 => ?_)
  have q3 := jst_new (c := 1) q2 e3
  refine st_pr (jo_sum (n := 123) (i := 119) (t := 0) (N := 10) (by decide +kernel)) (by decide) ?_
  refine st_na (t := 4) (c := 16) (by decide) (by decide) rfl (by decide +kernel) (fun h4 e4 => ?_)
  have q4 := jst_new (c := 1) q3 e4
  refine st_pr (jo_sum (n := 124) (i := 119) (t := 0) (N := 10) (by decide +kernel)) (by decide) ?_
  refine st_na (t := 1) (c := 16) (by decide) (by decide) rfl (by decide +kernel) (fun h5 e5 => ?_)
  have q5 := jst_new (c := 1) q4 e5
  refine st_pr (jo_sum (n := 125) (i := 119) (t := 0) (N := 10) (by decide +kernel)) (by decide) ?_
  refine st_na (t := 1) (c := 4) (by decide) (by decide) rfl (by decide +kernel) (fun h6 e6 => ?_)
  have q6 := jst_new (c := 1) q5 e6
  refine st_pr (jo_sum (n := 126) (i := 119) (t := 0) (N := 10) (by decide +kernel)) (by decide) ?_
  refine st_gr (v := 121) (jo_sum (n := 126) (i := 119) (t := 0) (N := 10) (by decide +kernel)) rfl ?_
  refine st_cs (na := 2) (st := [.inl (-1), .inr (.inr (.inl 121))]) rfl rfl rfl (c_fillG (n := 126) (by decide) 121 (-1) h6 (jo_sum (n := 126) (i := 121) (t := 1) (N := 6) (by decide +kernel)) (by decide) (fun k _ => (jba_121 _ _).2 (by decide))) rfl ?_
  rintro _ _ h7 ⟨rfl, f7, rfl, z7⟩ _
  have q7 := jst_fr q6 f7 (by decide) (by unfold jWi; decide)
  show jGo E l 5 120 174 _ 62 [.inr (.inr (.inl 119)), .inl ((0 : Nat) : Int)] [] (126 + 3 * 0) (yR_119 (RS_X10_init_119 r) 0) h7
  exact yl_119 (RS_X10_init_119 r) h h7 rfl (fun k a b => z7 k a (by omega)) 16 0 rfl h7 q7 (jst_rf _ _)

def RR_X7_init_111 (r : JH) : JH := jup (jnw (jup (jnw (jup (RR_X10_init_119 (jnw (jup (jnw (jup (RR_X0_init_113 (jnw (jup (jnw (r) 112 1 (-1)) 111 1 112) 113 1 (-1))) 111 4 113) 118 1 (-1)) 111 5 118) 119 1 (-1))) 111 6 119) 174 1 (-1)) 111 7 174) 175 1 (-1)) 111 8 175
set_option maxHeartbeats 4000000 in
set_option maxRecDepth 20000 in
theorem n_X7_init_111 {E : JE} {l : Launch} (r h : JH) : jMt E l 11 [.inr (.inr (.inl 111))] 112 r h (fun v r' h' => v = none ∧ r' = RR_X7_init_111 r ∧ jst 112 h 176 h') := by
  refine jMtn (nL := 1) (n1 := 176) (ls := [.inr (.inr (.inl 111))]) (by decide +kernel) (by decide +kernel) (by decide +kernel) (by decide) rfl rfl ?_
  have q0 := jst_rf 112 h
  refine jGo_blk qX7_init_0 ?_
  refine st_ob (by decide) rfl ?_
  refine st_na (t := 1) (c := 5) (by decide) (by decide) rfl (by decide +kernel) (fun h1 eh1 => ?_)
  have qh1 := jst_new (c := 1) q0 eh1
  refine st_pr (jo_sum (n := 113) (i := 111) (t := 0) (N := 7) (by decide +kernel)) (by decide) ?_
  refine st_nw (a := 0) rfl (by decide +kernel) (fun h2 eh2 => ?_)
  have qh2 := jst_new (c := 1) qh1 eh2
  refine st_cv (na := 1) (st := [.inl 300, .inr (.inr (.inl 113)), .inr (.inr (.inl 113)), .inr (.inr (.inl 111))]) (jo_sum (n := 114) (i := 113) (t := 0) (N := 0) (by decide +kernel)) rfl rfl rfl (n_X0_init_113 (jnw (jup (jnw (r) 112 1 (-1)) 111 1 112) 113 1 (-1)) h2) rfl ?_
  rintro _ _ h3 ⟨rfl, rfl, ph3⟩ _
  have qh3 := jst_tr qh2 ph3
  refine st_pr (jo_sum (n := 118) (i := 111) (t := 0) (N := 7) (by decide +kernel)) (by decide) ?_
  refine st_na (t := 1) (c := 4) (by decide) (by decide) rfl (by decide +kernel) (fun h4 eh4 => ?_)
  have qh4 := jst_new (c := 1) qh3 eh4
  refine st_pr (jo_sum (n := 119) (i := 111) (t := 0) (N := 7) (by decide +kernel)) (by decide) ?_
  refine st_nw (a := 10) rfl (by decide +kernel) (fun h5 eh5 => ?_)
  have qh5 := jst_new (c := 1) qh4 eh5
  refine st_cv (na := 0) (st := [.inr (.inr (.inl 119)), .inr (.inr (.inl 119)), .inr (.inr (.inl 111))]) (jo_sum (n := 120) (i := 119) (t := 0) (N := 10) (by decide +kernel)) rfl rfl rfl (n_X10_init_119 (jnw (jup (jnw (jup (RR_X0_init_113 (jnw (jup (jnw (r) 112 1 (-1)) 111 1 112) 113 1 (-1))) 111 4 113) 118 1 (-1)) 111 5 118) 119 1 (-1)) h5) rfl ?_
  rintro _ _ h6 ⟨rfl, rfl, ph6, ch6⟩ _
  have qh6 := jst_tr qh5 ph6
  refine st_pr (jo_sum (n := 174) (i := 111) (t := 0) (N := 7) (by decide +kernel)) (by decide) ?_
  refine st_na (t := 1) (c := 16) (by decide) (by decide) rfl (by decide +kernel) (fun h7 eh7 => ?_)
  have qh7 := jst_new (c := 1) qh6 eh7
  refine st_pr (jo_sum (n := 175) (i := 111) (t := 0) (N := 7) (by decide +kernel)) (by decide) ?_
  refine st_na (t := 1) (c := 5) (by decide) (by decide) rfl (by decide +kernel) (fun h8 eh8 => ?_)
  have qh8 := jst_new (c := 1) qh7 eh8
  refine st_pr (jo_sum (n := 176) (i := 111) (t := 0) (N := 7) (by decide +kernel)) (by decide) ?_
  exact ⟨rfl, rfl, rfl, qh8⟩

def RR_X11_init_0 (r : JH) : JH := jup (RR_X7_init_111 (jnw (jup (RR_X0_init_106 (jnw (jup (RR_X5_init_101 (jnw (jup (RR_X6_init_97 (jnw (jup (RR_X8_init_91 (jnw (jup (RR_X3_init_84 (jnw (jup (RR_X10_init_29 (jnw (jup (RR_X9_init_16 (jnw (jup (RR_X2_init_11 (jnw (jup (RR_X1_init_2 (jnw (jup (jnw (r) 1 1 (-1)) 0 1 1) 2 1 (-1))) 0 2 2) 11 1 (-1))) 0 3 11) 16 1 (-1))) 0 4 16) 29 1 (-1))) 0 5 29) 84 1 (-1))) 0 6 84) 91 1 (-1))) 0 7 91) 97 1 (-1))) 0 8 97) 101 1 (-1))) 0 9 101) 106 1 (-1))) 0 10 106) 111 1 (-1))) 0 11 111
set_option maxHeartbeats 4000000 in
set_option maxRecDepth 20000 in
theorem n_X11_init_0 {E : JE} {l : Launch} (r h : JH) : jMt E l 12 [.inr (.inr (.inl 0))] 1 r h (fun v r' h' => v = none ∧ r' = RR_X11_init_0 r ∧ jst 1 h 176 h' ∧ (∀ k : Int, 0 ≤ k → k < 4 → h' 4 k = -1 ∧ h' 10 k = -1) ∧ ∀ k : Int, 0 ≤ k → k < 6 → h' 31 k = -1) := by
  refine jMtn (nL := 1) (n1 := 176) (ls := [.inr (.inr (.inl 0))]) (by decide +kernel) (by decide +kernel) (by decide +kernel) (by decide) rfl rfl ?_
  have q0 := jst_rf 1 h
  refine jGo_blk qX11_init_0 ?_
  refine st_ob (by decide) rfl ?_
  refine st_na (t := 1) (c := 8) (by decide) (by decide) rfl (by decide +kernel) (fun h1 eh1 => ?_)
  have qh1 := jst_new (c := 1) q0 eh1
  refine st_pr (jo_sum (n := 2) (i := 0) (t := 0) (N := 11) (by decide +kernel)) (by decide) ?_
  refine st_nw (a := 1) rfl (by decide +kernel) (fun h2 eh2 => ?_)
  have qh2 := jst_new (c := 1) qh1 eh2
  refine st_cv (na := 0) (st := [.inr (.inr (.inl 2)), .inr (.inr (.inl 2)), .inr (.inr (.inl 0))]) (jo_sum (n := 3) (i := 2) (t := 0) (N := 1) (by decide +kernel)) rfl rfl rfl (n_X1_init_2 (jnw (jup (jnw (r) 1 1 (-1)) 0 1 1) 2 1 (-1)) h2) rfl ?_
  rintro _ _ h3 ⟨rfl, rfl, ph3, ch3⟩ _
  have qh3 := jst_tr qh2 ph3
  have m4 := jst_rf 11 h3
  refine st_pr (jo_sum (n := 11) (i := 0) (t := 0) (N := 11) (by decide +kernel)) (by decide) ?_
  refine st_nw (a := 2) rfl (by decide +kernel) (fun h5 eh5 => ?_)
  have qh5 := jst_new (c := 1) qh3 eh5
  have m6 := jst_new (c := 1) m4 eh5
  refine st_cv (na := 0) (st := [.inr (.inr (.inl 11)), .inr (.inr (.inl 11)), .inr (.inr (.inl 0))]) (jo_sum (n := 12) (i := 11) (t := 0) (N := 2) (by decide +kernel)) rfl rfl rfl (n_X2_init_11 (jnw (jup (RR_X1_init_2 (jnw (jup (jnw (r) 1 1 (-1)) 0 1 1) 2 1 (-1))) 0 2 2) 11 1 (-1)) h5) rfl ?_
  rintro _ _ h7 ⟨rfl, rfl, ph7⟩ _
  have qh7 := jst_tr qh5 ph7
  have m8 := jst_tr m6 ph7
  refine st_pr (jo_sum (n := 16) (i := 0) (t := 0) (N := 11) (by decide +kernel)) (by decide) ?_
  refine st_nw (a := 9) rfl (by decide +kernel) (fun h9 eh9 => ?_)
  have qh9 := jst_new (c := 1) qh7 eh9
  have m10 := jst_new (c := 1) m8 eh9
  refine st_cv (na := 0) (st := [.inr (.inr (.inl 16)), .inr (.inr (.inl 16)), .inr (.inr (.inl 0))]) (jo_sum (n := 17) (i := 16) (t := 0) (N := 9) (by decide +kernel)) rfl rfl rfl (n_X9_init_16 (jnw (jup (RR_X2_init_11 (jnw (jup (RR_X1_init_2 (jnw (jup (jnw (r) 1 1 (-1)) 0 1 1) 2 1 (-1))) 0 2 2) 11 1 (-1))) 0 3 11) 16 1 (-1)) h9) rfl ?_
  rintro _ _ h11 ⟨rfl, rfl, ph11⟩ _
  have qh11 := jst_tr qh9 ph11
  have m12 := jst_tr m10 ph11
  refine st_pr (jo_sum (n := 29) (i := 0) (t := 0) (N := 11) (by decide +kernel)) (by decide) ?_
  refine st_nw (a := 10) rfl (by decide +kernel) (fun h13 eh13 => ?_)
  have qh13 := jst_new (c := 1) qh11 eh13
  have m14 := jst_new (c := 1) m12 eh13
  refine st_cv (na := 0) (st := [.inr (.inr (.inl 29)), .inr (.inr (.inl 29)), .inr (.inr (.inl 0))]) (jo_sum (n := 30) (i := 29) (t := 0) (N := 10) (by decide +kernel)) rfl rfl rfl (n_X10_init_29 (jnw (jup (RR_X9_init_16 (jnw (jup (RR_X2_init_11 (jnw (jup (RR_X1_init_2 (jnw (jup (jnw (r) 1 1 (-1)) 0 1 1) 2 1 (-1))) 0 2 2) 11 1 (-1))) 0 3 11) 16 1 (-1))) 0 4 16) 29 1 (-1)) h13) rfl ?_
  rintro _ _ h15 ⟨rfl, rfl, ph15, ch15⟩ _
  have qh15 := jst_tr qh13 ph15
  have m16 := jst_tr m14 ph15
  have m17 := jst_rf 84 h15
  refine st_pr (jo_sum (n := 84) (i := 0) (t := 0) (N := 11) (by decide +kernel)) (by decide) ?_
  refine st_nw (a := 3) rfl (by decide +kernel) (fun h18 eh18 => ?_)
  have qh18 := jst_new (c := 1) qh15 eh18
  have m19 := jst_new (c := 1) m16 eh18
  have m20 := jst_new (c := 1) m17 eh18
  refine st_cv (na := 0) (st := [.inr (.inr (.inl 84)), .inr (.inr (.inl 84)), .inr (.inr (.inl 0))]) (jo_sum (n := 85) (i := 84) (t := 0) (N := 3) (by decide +kernel)) rfl rfl rfl (n_X3_init_84 (jnw (jup (RR_X10_init_29 (jnw (jup (RR_X9_init_16 (jnw (jup (RR_X2_init_11 (jnw (jup (RR_X1_init_2 (jnw (jup (jnw (r) 1 1 (-1)) 0 1 1) 2 1 (-1))) 0 2 2) 11 1 (-1))) 0 3 11) 16 1 (-1))) 0 4 16) 29 1 (-1))) 0 5 29) 84 1 (-1)) h18) rfl ?_
  rintro _ _ h21 ⟨rfl, rfl, ph21⟩ _
  have qh21 := jst_tr qh18 ph21
  have m22 := jst_tr m19 ph21
  have m23 := jst_tr m20 ph21
  refine st_pr (jo_sum (n := 91) (i := 0) (t := 0) (N := 11) (by decide +kernel)) (by decide) ?_
  refine st_nw (a := 8) rfl (by decide +kernel) (fun h24 eh24 => ?_)
  have qh24 := jst_new (c := 1) qh21 eh24
  have m25 := jst_new (c := 1) m22 eh24
  have m26 := jst_new (c := 1) m23 eh24
  refine st_cv (na := 0) (st := [.inr (.inr (.inl 91)), .inr (.inr (.inl 91)), .inr (.inr (.inl 0))]) (jo_sum (n := 92) (i := 91) (t := 0) (N := 8) (by decide +kernel)) rfl rfl rfl (n_X8_init_91 (jnw (jup (RR_X3_init_84 (jnw (jup (RR_X10_init_29 (jnw (jup (RR_X9_init_16 (jnw (jup (RR_X2_init_11 (jnw (jup (RR_X1_init_2 (jnw (jup (jnw (r) 1 1 (-1)) 0 1 1) 2 1 (-1))) 0 2 2) 11 1 (-1))) 0 3 11) 16 1 (-1))) 0 4 16) 29 1 (-1))) 0 5 29) 84 1 (-1))) 0 6 84) 91 1 (-1)) h24) rfl ?_
  rintro _ _ h27 ⟨rfl, rfl, ph27⟩ _
  have qh27 := jst_tr qh24 ph27
  have m28 := jst_tr m25 ph27
  have m29 := jst_tr m26 ph27
  refine st_pr (jo_sum (n := 97) (i := 0) (t := 0) (N := 11) (by decide +kernel)) (by decide) ?_
  refine st_nw (a := 6) rfl (by decide +kernel) (fun h30 eh30 => ?_)
  have qh30 := jst_new (c := 1) qh27 eh30
  have m31 := jst_new (c := 1) m28 eh30
  have m32 := jst_new (c := 1) m29 eh30
  refine st_cv (na := 0) (st := [.inr (.inr (.inl 97)), .inr (.inr (.inl 97)), .inr (.inr (.inl 0))]) (jo_sum (n := 98) (i := 97) (t := 0) (N := 6) (by decide +kernel)) rfl rfl rfl (n_X6_init_97 (jnw (jup (RR_X8_init_91 (jnw (jup (RR_X3_init_84 (jnw (jup (RR_X10_init_29 (jnw (jup (RR_X9_init_16 (jnw (jup (RR_X2_init_11 (jnw (jup (RR_X1_init_2 (jnw (jup (jnw (r) 1 1 (-1)) 0 1 1) 2 1 (-1))) 0 2 2) 11 1 (-1))) 0 3 11) 16 1 (-1))) 0 4 16) 29 1 (-1))) 0 5 29) 84 1 (-1))) 0 6 84) 91 1 (-1))) 0 7 91) 97 1 (-1)) h30) rfl ?_
  rintro _ _ h33 ⟨rfl, rfl, ph33⟩ _
  have qh33 := jst_tr qh30 ph33
  have m34 := jst_tr m31 ph33
  have m35 := jst_tr m32 ph33
  refine st_pr (jo_sum (n := 101) (i := 0) (t := 0) (N := 11) (by decide +kernel)) (by decide) ?_
  refine st_nw (a := 5) rfl (by decide +kernel) (fun h36 eh36 => ?_)
  have qh36 := jst_new (c := 1) qh33 eh36
  have m37 := jst_new (c := 1) m34 eh36
  have m38 := jst_new (c := 1) m35 eh36
  refine st_cv (na := 0) (st := [.inr (.inr (.inl 101)), .inr (.inr (.inl 101)), .inr (.inr (.inl 0))]) (jo_sum (n := 102) (i := 101) (t := 0) (N := 5) (by decide +kernel)) rfl rfl rfl (n_X5_init_101 (jnw (jup (RR_X6_init_97 (jnw (jup (RR_X8_init_91 (jnw (jup (RR_X3_init_84 (jnw (jup (RR_X10_init_29 (jnw (jup (RR_X9_init_16 (jnw (jup (RR_X2_init_11 (jnw (jup (RR_X1_init_2 (jnw (jup (jnw (r) 1 1 (-1)) 0 1 1) 2 1 (-1))) 0 2 2) 11 1 (-1))) 0 3 11) 16 1 (-1))) 0 4 16) 29 1 (-1))) 0 5 29) 84 1 (-1))) 0 6 84) 91 1 (-1))) 0 7 91) 97 1 (-1))) 0 8 97) 101 1 (-1)) h36) rfl ?_
  rintro _ _ h39 ⟨rfl, rfl, ph39⟩ _
  have qh39 := jst_tr qh36 ph39
  have m40 := jst_tr m37 ph39
  have m41 := jst_tr m38 ph39
  refine st_pr (jo_sum (n := 106) (i := 0) (t := 0) (N := 11) (by decide +kernel)) (by decide) ?_
  refine st_nw (a := 0) rfl (by decide +kernel) (fun h42 eh42 => ?_)
  have qh42 := jst_new (c := 1) qh39 eh42
  have m43 := jst_new (c := 1) m40 eh42
  have m44 := jst_new (c := 1) m41 eh42
  refine st_cv (na := 1) (st := [.inl 1, .inr (.inr (.inl 106)), .inr (.inr (.inl 106)), .inr (.inr (.inl 0))]) (jo_sum (n := 107) (i := 106) (t := 0) (N := 0) (by decide +kernel)) rfl rfl rfl (n_X0_init_106 (jnw (jup (RR_X5_init_101 (jnw (jup (RR_X6_init_97 (jnw (jup (RR_X8_init_91 (jnw (jup (RR_X3_init_84 (jnw (jup (RR_X10_init_29 (jnw (jup (RR_X9_init_16 (jnw (jup (RR_X2_init_11 (jnw (jup (RR_X1_init_2 (jnw (jup (jnw (r) 1 1 (-1)) 0 1 1) 2 1 (-1))) 0 2 2) 11 1 (-1))) 0 3 11) 16 1 (-1))) 0 4 16) 29 1 (-1))) 0 5 29) 84 1 (-1))) 0 6 84) 91 1 (-1))) 0 7 91) 97 1 (-1))) 0 8 97) 101 1 (-1))) 0 9 101) 106 1 (-1)) h42) rfl ?_
  rintro _ _ h45 ⟨rfl, rfl, ph45⟩ _
  have qh45 := jst_tr qh42 ph45
  have m46 := jst_tr m43 ph45
  have m47 := jst_tr m44 ph45
  refine st_pr (jo_sum (n := 111) (i := 0) (t := 0) (N := 11) (by decide +kernel)) (by decide) ?_
  refine st_nw (a := 7) rfl (by decide +kernel) (fun h48 eh48 => ?_)
  have qh48 := jst_new (c := 1) qh45 eh48
  have m49 := jst_new (c := 1) m46 eh48
  have m50 := jst_new (c := 1) m47 eh48
  refine st_cv (na := 0) (st := [.inr (.inr (.inl 111)), .inr (.inr (.inl 111)), .inr (.inr (.inl 0))]) (jo_sum (n := 112) (i := 111) (t := 0) (N := 7) (by decide +kernel)) rfl rfl rfl (n_X7_init_111 (jnw (jup (RR_X0_init_106 (jnw (jup (RR_X5_init_101 (jnw (jup (RR_X6_init_97 (jnw (jup (RR_X8_init_91 (jnw (jup (RR_X3_init_84 (jnw (jup (RR_X10_init_29 (jnw (jup (RR_X9_init_16 (jnw (jup (RR_X2_init_11 (jnw (jup (RR_X1_init_2 (jnw (jup (jnw (r) 1 1 (-1)) 0 1 1) 2 1 (-1))) 0 2 2) 11 1 (-1))) 0 3 11) 16 1 (-1))) 0 4 16) 29 1 (-1))) 0 5 29) 84 1 (-1))) 0 6 84) 91 1 (-1))) 0 7 91) 97 1 (-1))) 0 8 97) 101 1 (-1))) 0 9 101) 106 1 (-1))) 0 10 106) 111 1 (-1)) h48) rfl ?_
  rintro _ _ h51 ⟨rfl, rfl, ph51⟩ _
  have qh51 := jst_tr qh48 ph51
  have m52 := jst_tr m49 ph51
  have m53 := jst_tr m50 ph51
  refine st_pr (jo_sum (n := 176) (i := 0) (t := 0) (N := 11) (by decide +kernel)) (by decide) ?_
  exact ⟨rfl, rfl, rfl, qh51, fun k a b => ⟨(m52.2.1 4 k (by decide)).trans (ch3 k a b).1, (m52.2.1 10 k (by decide)).trans (ch3 k a b).2⟩, fun k a b => (m53.2.1 31 k (by decide)).trans (ch15 k a b)⟩

def RR_X12_init_176 (r : JH) : JH := jup (jnw (jup (jnw (jup (jnw (jup (jnw (jup (jnw (jup (jnw (jup (jnw (jup (jnw (jup (jnw (jup (jnw (jup (jnw (jup (jnw (jup (jnw (jup (jnw (jup (jnw (jup (jnw (jup (jnw (jup (jnw (jup (jnw (jup (jnw (jup (jnw (jup (jnw (jup (jnw (jup (jnw (jup (jnw (jup (jnw (jup (jnw (jup (jnw (jup (jnw (jup (jnw (jup (jnw (jup (jnw (jup (jnw (jup (jnw (jup (jnw (jup (jnw (jup (jnw (jup (jnw (jup (jnw (jup (jnw (jup (jnw (jup (jnw (jup (jnw (jup (jnw (jup (jnw (jup (jnw (jup (jnw (jup (jnw (jup (jnw (jup (jnw (jup (jnw (jup (jnw (r) 177 1 (-1)) 176 1 177) 178 1 (-1)) 176 2 178) 179 1 (-1)) 176 3 179) 180 1 (-1)) 176 4 180) 181 1 (-1)) 176 5 181) 182 1 (-1)) 176 7 182) 183 1 (-1)) 176 8 183) 184 1 (-1)) 176 9 184) 185 1 (-1)) 176 10 185) 186 1 (-1)) 176 11 186) 187 1 (-1)) 176 12 187) 188 1 (-1)) 176 13 188) 189 1 (-1)) 176 15 189) 190 1 (-1)) 176 16 190) 191 1 (-1)) 176 17 191) 192 1 (-1)) 176 18 192) 193 1 (-1)) 176 19 193) 194 1 (-1)) 176 20 194) 195 1 (-1)) 176 21 195) 196 1 (-1)) 176 22 196) 197 1 (-1)) 176 23 197) 198 1 (-1)) 176 24 198) 199 1 (-1)) 176 25 199) 200 1 (-1)) 176 26 200) 201 1 (-1)) 176 27 201) 202 1 (-1)) 176 28 202) 203 1 (-1)) 176 29 203) 204 1 (-1)) 176 33 204) 205 1 (-1)) 176 35 205) 206 1 (-1)) 176 36 206) 207 1 (-1)) 176 37 207) 208 1 (-1)) 176 38 208) 209 1 (-1)) 176 39 209) 210 1 (-1)) 176 40 210) 211 1 (-1)) 176 41 211) 212 1 (-1)) 176 42 212) 213 1 (-1)) 176 43 213) 214 1 (-1)) 176 44 214) 215 1 (-1)) 176 46 215) 216 1 (-1)) 176 47 216) 217 1 (-1)) 176 48 217) 218 1 (-1)) 176 49 218) 219 1 (-1)) 176 50 219) 220 1 (-1)) 176 51 220) 221 1 (-1)) 176 52 221) 222 1 (-1)) 176 53 222) 223 1 (-1)) 176 54 223) 224 1 (-1)) 176 59 224) 225 1 (-1)) 176 60 225) 226 1 (-1)) 176 61 226) 227 1 (-1)) 176 63 227) 228 1 (-1)) 176 64 228
set_option maxHeartbeats 4000000 in
set_option maxRecDepth 20000 in
theorem n_X12_init_176 {E : JE} {l : Launch} (r h : JH) : jMt E l 13 [.inr (.inr (.inl 176))] 177 r h (fun v r' h' => v = none ∧ r' = RR_X12_init_176 r ∧ jst 177 h 229 h' ∧ (∀ k : Int, 0 ≤ k → k < 4 → h' 178 k = -1 ∧ h' 179 k = -1) ∧ ∀ k : Int, 0 ≤ k → k < 6 → h' 202 k = -1) := by
  refine jMtn (nL := 1) (n1 := 229) (ls := [.inr (.inr (.inl 176))]) (by decide +kernel) (by decide +kernel) (by decide +kernel) (by decide) rfl rfl ?_
  have q0 := jst_rf 177 h
  refine jGo_blk qX12_init_0 ?_
  refine st_ob (by decide) rfl ?_
  refine st_na (t := 1) (c := 4) (by decide) (by decide) rfl (by decide +kernel) (fun h1 eh1 => ?_)
  have qh1 := jst_new (c := 1) q0 eh1
  refine st_pr (jo_sum (n := 178) (i := 176) (t := 0) (N := 12) (by decide +kernel)) (by decide) ?_
  refine st_na (t := 1) (c := 4) (by decide) (by decide) rfl (by decide +kernel) (fun h2 eh2 => ?_)
  have qh2 := jst_new (c := 1) qh1 eh2
  refine st_si (jo_sum (n := 179) (i := 178) (t := 1) (N := 4) (by decide +kernel)) (by decide) (by decide) (fun _ => (jba_178 _ _).2 (by decide)) (fun h3 eh3 => ?_)
  have qh3 := jst_up qh2 eh3 (by decide) (by unfold jWi; decide)
  refine st_si (jo_sum (n := 179) (i := 178) (t := 1) (N := 4) (by decide +kernel)) (by decide) (by decide) (fun _ => (jba_178 _ _).2 (by decide)) (fun h4 eh4 => ?_)
  have qh4 := jst_up qh3 eh4 (by decide) (by unfold jWi; decide)
  refine st_si (jo_sum (n := 179) (i := 178) (t := 1) (N := 4) (by decide +kernel)) (by decide) (by decide) (fun _ => (jba_178 _ _).2 (by decide)) (fun h5 eh5 => ?_)
  have qh5 := jst_up qh4 eh5 (by decide) (by unfold jWi; decide)
  refine st_si (jo_sum (n := 179) (i := 178) (t := 1) (N := 4) (by decide +kernel)) (by decide) (by decide) (fun _ => (jba_178 _ _).2 (by decide)) (fun h6 eh6 => ?_)
  have qh6 := jst_up qh5 eh6 (by decide) (by unfold jWi; decide)
  have z178 : ∀ k : Int, 0 ≤ k → k < 4 → h6 178 k = -1 := fun k a b => by
    rcases (show k = 0 ∨ k = 1 ∨ k = 2 ∨ k = 3 by omega) with rfl | rfl | rfl | rfl
    · exact (jup_o eh6 (by decide)).trans ((jup_o eh5 (by decide)).trans ((jup_o eh4 (by decide)).trans (jup_s eh3)))
    · exact (jup_o eh6 (by decide)).trans ((jup_o eh5 (by decide)).trans (jup_s eh4))
    · exact (jup_o eh6 (by decide)).trans (jup_s eh5)
    · exact jup_s eh6
  have m7 := jst_rf 179 h6
  refine st_pr (jo_sum (n := 179) (i := 176) (t := 0) (N := 12) (by decide +kernel)) (by decide) ?_
  refine st_na (t := 1) (c := 4) (by decide) (by decide) rfl (by decide +kernel) (fun h8 eh8 => ?_)
  have qh8 := jst_new (c := 1) qh6 eh8
  have m9 := jst_new (c := 1) m7 eh8
  refine st_si (jo_sum (n := 180) (i := 179) (t := 1) (N := 4) (by decide +kernel)) (by decide) (by decide) (fun _ => (jba_179 _ _).2 (by decide)) (fun h10 eh10 => ?_)
  have qh10 := jst_up qh8 eh10 (by decide) (by unfold jWi; decide)
  have m11 := jst_up m9 eh10 (by decide) (by unfold jWi; decide)
  refine st_si (jo_sum (n := 180) (i := 179) (t := 1) (N := 4) (by decide +kernel)) (by decide) (by decide) (fun _ => (jba_179 _ _).2 (by decide)) (fun h12 eh12 => ?_)
  have qh12 := jst_up qh10 eh12 (by decide) (by unfold jWi; decide)
  have m13 := jst_up m11 eh12 (by decide) (by unfold jWi; decide)
  refine st_si (jo_sum (n := 180) (i := 179) (t := 1) (N := 4) (by decide +kernel)) (by decide) (by decide) (fun _ => (jba_179 _ _).2 (by decide)) (fun h14 eh14 => ?_)
  have qh14 := jst_up qh12 eh14 (by decide) (by unfold jWi; decide)
  have m15 := jst_up m13 eh14 (by decide) (by unfold jWi; decide)
  refine st_si (jo_sum (n := 180) (i := 179) (t := 1) (N := 4) (by decide +kernel)) (by decide) (by decide) (fun _ => (jba_179 _ _).2 (by decide)) (fun h16 eh16 => ?_)
  have qh16 := jst_up qh14 eh16 (by decide) (by unfold jWi; decide)
  have m17 := jst_up m15 eh16 (by decide) (by unfold jWi; decide)
  have z179 : ∀ k : Int, 0 ≤ k → k < 4 → h16 179 k = -1 := fun k a b => by
    rcases (show k = 0 ∨ k = 1 ∨ k = 2 ∨ k = 3 by omega) with rfl | rfl | rfl | rfl
    · exact (jup_o eh16 (by decide)).trans ((jup_o eh14 (by decide)).trans ((jup_o eh12 (by decide)).trans (jup_s eh10)))
    · exact (jup_o eh16 (by decide)).trans ((jup_o eh14 (by decide)).trans (jup_s eh12))
    · exact (jup_o eh16 (by decide)).trans (jup_s eh14)
    · exact jup_s eh16
  have m18 := jst_rf 180 h16
  refine st_pr (jo_sum (n := 180) (i := 176) (t := 0) (N := 12) (by decide +kernel)) (by decide) ?_
  refine st_na (t := 1) (c := 120) (by decide) (by decide) rfl (by decide +kernel) (fun h19 eh19 => ?_)
  have qh19 := jst_new (c := 1) qh16 eh19
  have m20 := jst_new (c := 1) m17 eh19
  have m21 := jst_new (c := 1) m18 eh19
  refine st_pr (jo_sum (n := 181) (i := 176) (t := 0) (N := 12) (by decide +kernel)) (by decide) ?_
  refine st_na (t := 1) (c := 6) (by decide) (by decide) rfl (by decide +kernel) (fun h22 eh22 => ?_)
  have qh22 := jst_new (c := 1) qh19 eh22
  have m23 := jst_new (c := 1) m20 eh22
  have m24 := jst_new (c := 1) m21 eh22
  refine st_pr (jo_sum (n := 182) (i := 176) (t := 0) (N := 12) (by decide +kernel)) (by decide) ?_
  refine st_na (t := 1) (c := 40) (by decide) (by decide) rfl (by decide +kernel) (fun h25 eh25 => ?_)
  have qh25 := jst_new (c := 1) qh22 eh25
  have m26 := jst_new (c := 1) m23 eh25
  have m27 := jst_new (c := 1) m24 eh25
  refine st_pr (jo_sum (n := 183) (i := 176) (t := 0) (N := 12) (by decide +kernel)) (by decide) ?_
  refine st_na (t := 1) (c := 40) (by decide) (by decide) rfl (by decide +kernel) (fun h28 eh28 => ?_)
  have qh28 := jst_new (c := 1) qh25 eh28
  have m29 := jst_new (c := 1) m26 eh28
  have m30 := jst_new (c := 1) m27 eh28
  refine st_pr (jo_sum (n := 184) (i := 176) (t := 0) (N := 12) (by decide +kernel)) (by decide) ?_
  refine st_na (t := 1) (c := 40) (by decide) (by decide) rfl (by decide +kernel) (fun h31 eh31 => ?_)
  have qh31 := jst_new (c := 1) qh28 eh31
  have m32 := jst_new (c := 1) m29 eh31
  have m33 := jst_new (c := 1) m30 eh31
  refine st_pr (jo_sum (n := 185) (i := 176) (t := 0) (N := 12) (by decide +kernel)) (by decide) ?_
  refine st_na (t := 1) (c := 40) (by decide) (by decide) rfl (by decide +kernel) (fun h34 eh34 => ?_)
  have qh34 := jst_new (c := 1) qh31 eh34
  have m35 := jst_new (c := 1) m32 eh34
  have m36 := jst_new (c := 1) m33 eh34
  refine st_pr (jo_sum (n := 186) (i := 176) (t := 0) (N := 12) (by decide +kernel)) (by decide) ?_
  refine st_na (t := 1) (c := 18) (by decide) (by decide) rfl (by decide +kernel) (fun h37 eh37 => ?_)
  have qh37 := jst_new (c := 1) qh34 eh37
  have m38 := jst_new (c := 1) m35 eh37
  have m39 := jst_new (c := 1) m36 eh37
  refine st_pr (jo_sum (n := 187) (i := 176) (t := 0) (N := 12) (by decide +kernel)) (by decide) ?_
  refine st_na (t := 1) (c := 18) (by decide) (by decide) rfl (by decide +kernel) (fun h40 eh40 => ?_)
  have qh40 := jst_new (c := 1) qh37 eh40
  have m41 := jst_new (c := 1) m38 eh40
  have m42 := jst_new (c := 1) m39 eh40
  refine st_pr (jo_sum (n := 188) (i := 176) (t := 0) (N := 12) (by decide +kernel)) (by decide) ?_
  refine st_na (t := 1) (c := 108) (by decide) (by decide) rfl (by decide +kernel) (fun h43 eh43 => ?_)
  have qh43 := jst_new (c := 1) qh40 eh43
  have m44 := jst_new (c := 1) m41 eh43
  have m45 := jst_new (c := 1) m42 eh43
  refine st_pr (jo_sum (n := 189) (i := 176) (t := 0) (N := 12) (by decide +kernel)) (by decide) ?_
  refine st_na (t := 1) (c := 16) (by decide) (by decide) rfl (by decide +kernel) (fun h46 eh46 => ?_)
  have qh46 := jst_new (c := 1) qh43 eh46
  have m47 := jst_new (c := 1) m44 eh46
  have m48 := jst_new (c := 1) m45 eh46
  refine st_pr (jo_sum (n := 190) (i := 176) (t := 0) (N := 12) (by decide +kernel)) (by decide) ?_
  refine st_na (t := 1) (c := 16) (by decide) (by decide) rfl (by decide +kernel) (fun h49 eh49 => ?_)
  have qh49 := jst_new (c := 1) qh46 eh49
  have m50 := jst_new (c := 1) m47 eh49
  have m51 := jst_new (c := 1) m48 eh49
  refine st_pr (jo_sum (n := 191) (i := 176) (t := 0) (N := 12) (by decide +kernel)) (by decide) ?_
  refine st_na (t := 1) (c := 16) (by decide) (by decide) rfl (by decide +kernel) (fun h52 eh52 => ?_)
  have qh52 := jst_new (c := 1) qh49 eh52
  have m53 := jst_new (c := 1) m50 eh52
  have m54 := jst_new (c := 1) m51 eh52
  refine st_pr (jo_sum (n := 192) (i := 176) (t := 0) (N := 12) (by decide +kernel)) (by decide) ?_
  refine st_na (t := 1) (c := 16) (by decide) (by decide) rfl (by decide +kernel) (fun h55 eh55 => ?_)
  have qh55 := jst_new (c := 1) qh52 eh55
  have m56 := jst_new (c := 1) m53 eh55
  have m57 := jst_new (c := 1) m54 eh55
  refine st_pr (jo_sum (n := 193) (i := 176) (t := 0) (N := 12) (by decide +kernel)) (by decide) ?_
  refine st_na (t := 1) (c := 16) (by decide) (by decide) rfl (by decide +kernel) (fun h58 eh58 => ?_)
  have qh58 := jst_new (c := 1) qh55 eh58
  have m59 := jst_new (c := 1) m56 eh58
  have m60 := jst_new (c := 1) m57 eh58
  refine st_pr (jo_sum (n := 194) (i := 176) (t := 0) (N := 12) (by decide +kernel)) (by decide) ?_
  refine st_na (t := 1) (c := 16) (by decide) (by decide) rfl (by decide +kernel) (fun h61 eh61 => ?_)
  have qh61 := jst_new (c := 1) qh58 eh61
  have m62 := jst_new (c := 1) m59 eh61
  have m63 := jst_new (c := 1) m60 eh61
  refine st_pr (jo_sum (n := 195) (i := 176) (t := 0) (N := 12) (by decide +kernel)) (by decide) ?_
  refine st_na (t := 1) (c := 16) (by decide) (by decide) rfl (by decide +kernel) (fun h64 eh64 => ?_)
  have qh64 := jst_new (c := 1) qh61 eh64
  have m65 := jst_new (c := 1) m62 eh64
  have m66 := jst_new (c := 1) m63 eh64
  refine st_pr (jo_sum (n := 196) (i := 176) (t := 0) (N := 12) (by decide +kernel)) (by decide) ?_
  refine st_na (t := 3) (c := 16) (by decide) (by decide) rfl (by decide +kernel) (fun h67 eh67 => ?_)
  have qh67 := jst_new (c := 1) qh64 eh67
  have m68 := jst_new (c := 1) m65 eh67
  have m69 := jst_new (c := 1) m66 eh67
  refine st_pr (jo_sum (n := 197) (i := 176) (t := 0) (N := 12) (by decide +kernel)) (by decide) ?_
  refine st_na (t := 1) (c := 16) (by decide) (by decide) rfl (by decide +kernel) (fun h70 eh70 => ?_)
  have qh70 := jst_new (c := 1) qh67 eh70
  have m71 := jst_new (c := 1) m68 eh70
  have m72 := jst_new (c := 1) m69 eh70
  refine st_pr (jo_sum (n := 198) (i := 176) (t := 0) (N := 12) (by decide +kernel)) (by decide) ?_
  refine st_na (t := 1) (c := 16) (by decide) (by decide) rfl (by decide +kernel) (fun h73 eh73 => ?_)
  have qh73 := jst_new (c := 1) qh70 eh73
  have m74 := jst_new (c := 1) m71 eh73
  have m75 := jst_new (c := 1) m72 eh73
  refine st_pr (jo_sum (n := 199) (i := 176) (t := 0) (N := 12) (by decide +kernel)) (by decide) ?_
  refine st_na (t := 1) (c := 96) (by decide) (by decide) rfl (by decide +kernel) (fun h76 eh76 => ?_)
  have qh76 := jst_new (c := 1) qh73 eh76
  have m77 := jst_new (c := 1) m74 eh76
  have m78 := jst_new (c := 1) m75 eh76
  refine st_pr (jo_sum (n := 200) (i := 176) (t := 0) (N := 12) (by decide +kernel)) (by decide) ?_
  refine st_na (t := 1) (c := 96) (by decide) (by decide) rfl (by decide +kernel) (fun h79 eh79 => ?_)
  have qh79 := jst_new (c := 1) qh76 eh79
  have m80 := jst_new (c := 1) m77 eh79
  have m81 := jst_new (c := 1) m78 eh79
  refine st_pr (jo_sum (n := 201) (i := 176) (t := 0) (N := 12) (by decide +kernel)) (by decide) ?_
  refine st_na (t := 3) (c := 16) (by decide) (by decide) rfl (by decide +kernel) (fun h82 eh82 => ?_)
  have qh82 := jst_new (c := 1) qh79 eh82
  have m83 := jst_new (c := 1) m80 eh82
  have m84 := jst_new (c := 1) m81 eh82
  refine st_pr (jo_sum (n := 202) (i := 176) (t := 0) (N := 12) (by decide +kernel)) (by decide) ?_
  refine st_na (t := 1) (c := 6) (by decide) (by decide) rfl (by decide +kernel) (fun h85 eh85 => ?_)
  have qh85 := jst_new (c := 1) qh82 eh85
  have m86 := jst_new (c := 1) m83 eh85
  have m87 := jst_new (c := 1) m84 eh85
  refine st_si (jo_sum (n := 203) (i := 202) (t := 1) (N := 6) (by decide +kernel)) (by decide) (by decide) (fun _ => (jba_202 _ _).2 (by decide)) (fun h88 eh88 => ?_)
  have qh88 := jst_up qh85 eh88 (by decide) (by unfold jWi; decide)
  have m89 := jst_up m86 eh88 (by decide) (by unfold jWi; decide)
  have m90 := jst_up m87 eh88 (by decide) (by unfold jWi; decide)
  refine st_si (jo_sum (n := 203) (i := 202) (t := 1) (N := 6) (by decide +kernel)) (by decide) (by decide) (fun _ => (jba_202 _ _).2 (by decide)) (fun h91 eh91 => ?_)
  have qh91 := jst_up qh88 eh91 (by decide) (by unfold jWi; decide)
  have m92 := jst_up m89 eh91 (by decide) (by unfold jWi; decide)
  have m93 := jst_up m90 eh91 (by decide) (by unfold jWi; decide)
  refine st_si (jo_sum (n := 203) (i := 202) (t := 1) (N := 6) (by decide +kernel)) (by decide) (by decide) (fun _ => (jba_202 _ _).2 (by decide)) (fun h94 eh94 => ?_)
  have qh94 := jst_up qh91 eh94 (by decide) (by unfold jWi; decide)
  have m95 := jst_up m92 eh94 (by decide) (by unfold jWi; decide)
  have m96 := jst_up m93 eh94 (by decide) (by unfold jWi; decide)
  refine st_si (jo_sum (n := 203) (i := 202) (t := 1) (N := 6) (by decide +kernel)) (by decide) (by decide) (fun _ => (jba_202 _ _).2 (by decide)) (fun h97 eh97 => ?_)
  have qh97 := jst_up qh94 eh97 (by decide) (by unfold jWi; decide)
  have m98 := jst_up m95 eh97 (by decide) (by unfold jWi; decide)
  have m99 := jst_up m96 eh97 (by decide) (by unfold jWi; decide)
  refine st_si (jo_sum (n := 203) (i := 202) (t := 1) (N := 6) (by decide +kernel)) (by decide) (by decide) (fun _ => (jba_202 _ _).2 (by decide)) (fun h100 eh100 => ?_)
  have qh100 := jst_up qh97 eh100 (by decide) (by unfold jWi; decide)
  have m101 := jst_up m98 eh100 (by decide) (by unfold jWi; decide)
  have m102 := jst_up m99 eh100 (by decide) (by unfold jWi; decide)
  refine st_si (jo_sum (n := 203) (i := 202) (t := 1) (N := 6) (by decide +kernel)) (by decide) (by decide) (fun _ => (jba_202 _ _).2 (by decide)) (fun h103 eh103 => ?_)
  have qh103 := jst_up qh100 eh103 (by decide) (by unfold jWi; decide)
  have m104 := jst_up m101 eh103 (by decide) (by unfold jWi; decide)
  have m105 := jst_up m102 eh103 (by decide) (by unfold jWi; decide)
  have z202 : ∀ k : Int, 0 ≤ k → k < 6 → h103 202 k = -1 := fun k a b => by
    rcases (show k = 0 ∨ k = 1 ∨ k = 2 ∨ k = 3 ∨ k = 4 ∨ k = 5 by omega) with rfl | rfl | rfl | rfl | rfl | rfl
    · exact (jup_o eh103 (by decide)).trans ((jup_o eh100 (by decide)).trans ((jup_o eh97 (by decide)).trans ((jup_o eh94 (by decide)).trans ((jup_o eh91 (by decide)).trans (jup_s eh88)))))
    · exact (jup_o eh103 (by decide)).trans ((jup_o eh100 (by decide)).trans ((jup_o eh97 (by decide)).trans ((jup_o eh94 (by decide)).trans (jup_s eh91))))
    · exact (jup_o eh103 (by decide)).trans ((jup_o eh100 (by decide)).trans ((jup_o eh97 (by decide)).trans (jup_s eh94)))
    · exact (jup_o eh103 (by decide)).trans ((jup_o eh100 (by decide)).trans (jup_s eh97))
    · exact (jup_o eh103 (by decide)).trans (jup_s eh100)
    · exact jup_s eh103
  have m106 := jst_rf 203 h103
  refine st_pr (jo_sum (n := 203) (i := 176) (t := 0) (N := 12) (by decide +kernel)) (by decide) ?_
  refine st_na (t := 1) (c := 6) (by decide) (by decide) rfl (by decide +kernel) (fun h107 eh107 => ?_)
  have qh107 := jst_new (c := 1) qh103 eh107
  have m108 := jst_new (c := 1) m104 eh107
  have m109 := jst_new (c := 1) m105 eh107
  have m110 := jst_new (c := 1) m106 eh107
  refine st_pr (jo_sum (n := 204) (i := 176) (t := 0) (N := 12) (by decide +kernel)) (by decide) ?_
  refine st_na (t := 1) (c := 3) (by decide) (by decide) rfl (by decide +kernel) (fun h111 eh111 => ?_)
  have qh111 := jst_new (c := 1) qh107 eh111
  have m112 := jst_new (c := 1) m108 eh111
  have m113 := jst_new (c := 1) m109 eh111
  have m114 := jst_new (c := 1) m110 eh111
  refine st_pr (jo_sum (n := 205) (i := 176) (t := 0) (N := 12) (by decide +kernel)) (by decide) ?_
  refine st_na (t := 1) (c := 40) (by decide) (by decide) rfl (by decide +kernel) (fun h115 eh115 => ?_)
  have qh115 := jst_new (c := 1) qh111 eh115
  have m116 := jst_new (c := 1) m112 eh115
  have m117 := jst_new (c := 1) m113 eh115
  have m118 := jst_new (c := 1) m114 eh115
  refine st_pr (jo_sum (n := 206) (i := 176) (t := 0) (N := 12) (by decide +kernel)) (by decide) ?_
  refine st_na (t := 1) (c := 40) (by decide) (by decide) rfl (by decide +kernel) (fun h119 eh119 => ?_)
  have qh119 := jst_new (c := 1) qh115 eh119
  have m120 := jst_new (c := 1) m116 eh119
  have m121 := jst_new (c := 1) m117 eh119
  have m122 := jst_new (c := 1) m118 eh119
  refine st_pr (jo_sum (n := 207) (i := 176) (t := 0) (N := 12) (by decide +kernel)) (by decide) ?_
  refine st_na (t := 1) (c := 40) (by decide) (by decide) rfl (by decide +kernel) (fun h123 eh123 => ?_)
  have qh123 := jst_new (c := 1) qh119 eh123
  have m124 := jst_new (c := 1) m120 eh123
  have m125 := jst_new (c := 1) m121 eh123
  have m126 := jst_new (c := 1) m122 eh123
  refine st_pr (jo_sum (n := 208) (i := 176) (t := 0) (N := 12) (by decide +kernel)) (by decide) ?_
  refine st_na (t := 1) (c := 40) (by decide) (by decide) rfl (by decide +kernel) (fun h127 eh127 => ?_)
  have qh127 := jst_new (c := 1) qh123 eh127
  have m128 := jst_new (c := 1) m124 eh127
  have m129 := jst_new (c := 1) m125 eh127
  have m130 := jst_new (c := 1) m126 eh127
  refine st_pr (jo_sum (n := 209) (i := 176) (t := 0) (N := 12) (by decide +kernel)) (by decide) ?_
  refine st_na (t := 1) (c := 40) (by decide) (by decide) rfl (by decide +kernel) (fun h131 eh131 => ?_)
  have qh131 := jst_new (c := 1) qh127 eh131
  have m132 := jst_new (c := 1) m128 eh131
  have m133 := jst_new (c := 1) m129 eh131
  have m134 := jst_new (c := 1) m130 eh131
  refine st_pr (jo_sum (n := 210) (i := 176) (t := 0) (N := 12) (by decide +kernel)) (by decide) ?_
  refine st_na (t := 1) (c := 3) (by decide) (by decide) rfl (by decide +kernel) (fun h135 eh135 => ?_)
  have qh135 := jst_new (c := 1) qh131 eh135
  have m136 := jst_new (c := 1) m132 eh135
  have m137 := jst_new (c := 1) m133 eh135
  have m138 := jst_new (c := 1) m134 eh135
  refine st_pr (jo_sum (n := 211) (i := 176) (t := 0) (N := 12) (by decide +kernel)) (by decide) ?_
  refine st_na (t := 1) (c := 18) (by decide) (by decide) rfl (by decide +kernel) (fun h139 eh139 => ?_)
  have qh139 := jst_new (c := 1) qh135 eh139
  have m140 := jst_new (c := 1) m136 eh139
  have m141 := jst_new (c := 1) m137 eh139
  have m142 := jst_new (c := 1) m138 eh139
  refine st_pr (jo_sum (n := 212) (i := 176) (t := 0) (N := 12) (by decide +kernel)) (by decide) ?_
  refine st_na (t := 1) (c := 18) (by decide) (by decide) rfl (by decide +kernel) (fun h143 eh143 => ?_)
  have qh143 := jst_new (c := 1) qh139 eh143
  have m144 := jst_new (c := 1) m140 eh143
  have m145 := jst_new (c := 1) m141 eh143
  have m146 := jst_new (c := 1) m142 eh143
  refine st_pr (jo_sum (n := 213) (i := 176) (t := 0) (N := 12) (by decide +kernel)) (by decide) ?_
  refine st_na (t := 1) (c := 18) (by decide) (by decide) rfl (by decide +kernel) (fun h147 eh147 => ?_)
  have qh147 := jst_new (c := 1) qh143 eh147
  have m148 := jst_new (c := 1) m144 eh147
  have m149 := jst_new (c := 1) m145 eh147
  have m150 := jst_new (c := 1) m146 eh147
  refine st_pr (jo_sum (n := 214) (i := 176) (t := 0) (N := 12) (by decide +kernel)) (by decide) ?_
  refine st_na (t := 1) (c := 18) (by decide) (by decide) rfl (by decide +kernel) (fun h151 eh151 => ?_)
  have qh151 := jst_new (c := 1) qh147 eh151
  have m152 := jst_new (c := 1) m148 eh151
  have m153 := jst_new (c := 1) m149 eh151
  have m154 := jst_new (c := 1) m150 eh151
  refine st_pr (jo_sum (n := 215) (i := 176) (t := 0) (N := 12) (by decide +kernel)) (by decide) ?_
  refine st_na (t := 1) (c := 40) (by decide) (by decide) rfl (by decide +kernel) (fun h155 eh155 => ?_)
  have qh155 := jst_new (c := 1) qh151 eh155
  have m156 := jst_new (c := 1) m152 eh155
  have m157 := jst_new (c := 1) m153 eh155
  have m158 := jst_new (c := 1) m154 eh155
  refine st_pr (jo_sum (n := 216) (i := 176) (t := 0) (N := 12) (by decide +kernel)) (by decide) ?_
  refine st_na (t := 1) (c := 40) (by decide) (by decide) rfl (by decide +kernel) (fun h159 eh159 => ?_)
  have qh159 := jst_new (c := 1) qh155 eh159
  have m160 := jst_new (c := 1) m156 eh159
  have m161 := jst_new (c := 1) m157 eh159
  have m162 := jst_new (c := 1) m158 eh159
  refine st_pr (jo_sum (n := 217) (i := 176) (t := 0) (N := 12) (by decide +kernel)) (by decide) ?_
  refine st_na (t := 1) (c := 40) (by decide) (by decide) rfl (by decide +kernel) (fun h163 eh163 => ?_)
  have qh163 := jst_new (c := 1) qh159 eh163
  have m164 := jst_new (c := 1) m160 eh163
  have m165 := jst_new (c := 1) m161 eh163
  have m166 := jst_new (c := 1) m162 eh163
  refine st_pr (jo_sum (n := 218) (i := 176) (t := 0) (N := 12) (by decide +kernel)) (by decide) ?_
  refine st_na (t := 1) (c := 40) (by decide) (by decide) rfl (by decide +kernel) (fun h167 eh167 => ?_)
  have qh167 := jst_new (c := 1) qh163 eh167
  have m168 := jst_new (c := 1) m164 eh167
  have m169 := jst_new (c := 1) m165 eh167
  have m170 := jst_new (c := 1) m166 eh167
  refine st_pr (jo_sum (n := 219) (i := 176) (t := 0) (N := 12) (by decide +kernel)) (by decide) ?_
  refine st_na (t := 1) (c := 8) (by decide) (by decide) rfl (by decide +kernel) (fun h171 eh171 => ?_)
  have qh171 := jst_new (c := 1) qh167 eh171
  have m172 := jst_new (c := 1) m168 eh171
  have m173 := jst_new (c := 1) m169 eh171
  have m174 := jst_new (c := 1) m170 eh171
  refine st_pr (jo_sum (n := 220) (i := 176) (t := 0) (N := 12) (by decide +kernel)) (by decide) ?_
  refine st_na (t := 1) (c := 30) (by decide) (by decide) rfl (by decide +kernel) (fun h175 eh175 => ?_)
  have qh175 := jst_new (c := 1) qh171 eh175
  have m176 := jst_new (c := 1) m172 eh175
  have m177 := jst_new (c := 1) m173 eh175
  have m178 := jst_new (c := 1) m174 eh175
  refine st_pr (jo_sum (n := 221) (i := 176) (t := 0) (N := 12) (by decide +kernel)) (by decide) ?_
  refine st_na (t := 3) (c := 40) (by decide) (by decide) rfl (by decide +kernel) (fun h179 eh179 => ?_)
  have qh179 := jst_new (c := 1) qh175 eh179
  have m180 := jst_new (c := 1) m176 eh179
  have m181 := jst_new (c := 1) m177 eh179
  have m182 := jst_new (c := 1) m178 eh179
  refine st_pr (jo_sum (n := 222) (i := 176) (t := 0) (N := 12) (by decide +kernel)) (by decide) ?_
  refine st_na (t := 1) (c := 6) (by decide) (by decide) rfl (by decide +kernel) (fun h183 eh183 => ?_)
  have qh183 := jst_new (c := 1) qh179 eh183
  have m184 := jst_new (c := 1) m180 eh183
  have m185 := jst_new (c := 1) m181 eh183
  have m186 := jst_new (c := 1) m182 eh183
  refine st_pr (jo_sum (n := 223) (i := 176) (t := 0) (N := 12) (by decide +kernel)) (by decide) ?_
  refine st_na (t := 1) (c := 64) (by decide) (by decide) rfl (by decide +kernel) (fun h187 eh187 => ?_)
  have qh187 := jst_new (c := 1) qh183 eh187
  have m188 := jst_new (c := 1) m184 eh187
  have m189 := jst_new (c := 1) m185 eh187
  have m190 := jst_new (c := 1) m186 eh187
  refine st_pr (jo_sum (n := 224) (i := 176) (t := 0) (N := 12) (by decide +kernel)) (by decide) ?_
  refine st_na (t := 1) (c := 400) (by decide) (by decide) rfl (by decide +kernel) (fun h191 eh191 => ?_)
  have qh191 := jst_new (c := 1) qh187 eh191
  have m192 := jst_new (c := 1) m188 eh191
  have m193 := jst_new (c := 1) m189 eh191
  have m194 := jst_new (c := 1) m190 eh191
  refine st_pr (jo_sum (n := 225) (i := 176) (t := 0) (N := 12) (by decide +kernel)) (by decide) ?_
  refine st_na (t := 1) (c := 96) (by decide) (by decide) rfl (by decide +kernel) (fun h195 eh195 => ?_)
  have qh195 := jst_new (c := 1) qh191 eh195
  have m196 := jst_new (c := 1) m192 eh195
  have m197 := jst_new (c := 1) m193 eh195
  have m198 := jst_new (c := 1) m194 eh195
  refine st_pr (jo_sum (n := 226) (i := 176) (t := 0) (N := 12) (by decide +kernel)) (by decide) ?_
  refine st_na (t := 1) (c := 5) (by decide) (by decide) rfl (by decide +kernel) (fun h199 eh199 => ?_)
  have qh199 := jst_new (c := 1) qh195 eh199
  have m200 := jst_new (c := 1) m196 eh199
  have m201 := jst_new (c := 1) m197 eh199
  have m202 := jst_new (c := 1) m198 eh199
  refine st_pr (jo_sum (n := 227) (i := 176) (t := 0) (N := 12) (by decide +kernel)) (by decide) ?_
  refine st_na (t := 1) (c := 5) (by decide) (by decide) rfl (by decide +kernel) (fun h203 eh203 => ?_)
  have qh203 := jst_new (c := 1) qh199 eh203
  have m204 := jst_new (c := 1) m200 eh203
  have m205 := jst_new (c := 1) m201 eh203
  have m206 := jst_new (c := 1) m202 eh203
  refine st_pr (jo_sum (n := 228) (i := 176) (t := 0) (N := 12) (by decide +kernel)) (by decide) ?_
  refine st_na (t := 1) (c := 5) (by decide) (by decide) rfl (by decide +kernel) (fun h207 eh207 => ?_)
  have qh207 := jst_new (c := 1) qh203 eh207
  have m208 := jst_new (c := 1) m204 eh207
  have m209 := jst_new (c := 1) m205 eh207
  have m210 := jst_new (c := 1) m206 eh207
  refine st_pr (jo_sum (n := 229) (i := 176) (t := 0) (N := 12) (by decide +kernel)) (by decide) ?_
  exact ⟨rfl, rfl, rfl, qh207, fun k a b => ⟨(m208.2.1 178 k (by decide)).trans (z178 k a b), (m209.2.1 179 k (by decide)).trans (z179 k a b)⟩, fun k a b => (m210.2.1 202 k (by decide)).trans (z202 k a b)⟩
