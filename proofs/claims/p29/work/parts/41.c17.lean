def w_X11_breakUp (i k : Int) : Prop := (i = 1) ∨ (i = 30) ∨ (36 ≤ i ∧ i ≤ 83) ∨ (i = 111 ∧ 9 ≤ k ∧ k ≤ 11)
theorem ws_X10_store_29__X11_breakUp (i k : Int) (q : w_X10_store_29 i k) : w_X11_breakUp i k := by
  unfold w_X10_store_29 at q; unfold w_X11_breakUp
  exact (Or.inr (Or.inl (by omega)))
theorem ws_X7_forget__X11_breakUp (i k : Int) (q : w_X7_forget i k) : w_X11_breakUp i k := by
  unfold w_X7_forget at q; unfold w_X11_breakUp
  exact (Or.inr (Or.inr (Or.inr (by omega))))
theorem ws_X11_refused__X11_breakUp (i k : Int) (q : w_X11_refused i k) : w_X11_breakUp i k := by
  unfold w_X11_refused at q; unfold w_X11_breakUp
  exact (Or.inl (by omega))
def k_X11_breakUp (a1 : Int) (h : JH) (v : Option JV) (r' g : JH) : Prop := r' = jr0 ∧ jfr w_X11_breakUp h g ∧ ∃ x : Int, v = some (.inl x) ∧ (True) ∧ ((P_X11_breakUp a1 x h g) ∧ jFg (¬ (0 ≤ a1 ∧ a1 < h 29 4 ∧ h (36 + 3 * a1) 3 = 2)) h g)
set_option maxHeartbeats 4000000 in
theorem c_X11_breakUp {E : JE} {l : Launch} (a1 : Int) (h : JH) : jMt E l 96 [.inr (.inr (.inl 0)), .inl a1] 229 jr0 h (k_X11_breakUp a1 h) := by
  refine jMt0 (nL := 6) (ls := [.inr (.inr (.inl 0)), .inl a1, .inr (.inr (.inr ())), .inr (.inr (.inr ())), .inr (.inr (.inr ())), .inr (.inr (.inr ()))]) (by decide +kernel) (by decide +kernel) (by decide +kernel) rfl rfl ?_
  have f0 : jfr w_X11_breakUp h h := jfr_rf _ _
  have key : ∀ N : Nat, (∀ (x3 : Int) (x4 : Int) (x5 : Int) (g : JH), (0 ≤ a1 ∧ a1 ≤ 15 ∧ 36 ≤ x3 ∧ x3 + 2 ≤ 83 ∧ 0 ≤ x5 ∧ x5 ≤ 6) → jHl x3 → (∀ i k : Int, ¬ i = 1 → ¬ i = 111 → g i k = (jit (jBk (36 + 3 * a1)) (x5).toNat (jup h (36 + 3 * a1) 3 3)) i k) → (x4 = jsu (jBk (36 + 3 * a1)) (jBkx (36 + 3 * a1)) (x5).toNat (jup h (36 + 3 * a1) 3 3)) → (x3 = 36 + 3 * a1) → (0 ≤ a1 ∧ a1 < h 29 4 ∧ h 29 4 ≤ 16 ∧ h (36 + 3 * a1) 3 = 2) → (0 ≤ x5 ∧ x5 ≤ 6) → (g 111 9 = 0 ∧ g 111 10 = 0 ∧ g 111 11 = 0) → jfr w_X11_breakUp h g → (6 - x5) < (N : Int) → jGo E l 96 229 229 (jRK (k_X11_breakUp a1 h)) 73 [.inr (.inr (.inl 0)), .inl a1, .inl 0, .inr (.inr (.inl x3)), .inl x4, .inl x5] [] 229 jr0 g) := by
    intro N
    induction N with
    | zero => exact fun _ _ _ _ hi _ hx0 hx1 hx2 hx3 hx4 hx5 _ hN => absurd hN (by omega)
    | succ N ih =>
      intro x3 x4 x5 g hi hu3 hx0 hx1 hx2 hx3 hx4 hx5 hf hN
      refine jGo_ok (fun hls _ => ?_)
      have rx4 : -2147483648 ≤ x4 ∧ x4 ≤ 2147483647 := hls (.inl x4) (by simp)
      refine jGo_blk qX11_breakUp_73 ?_
      refine And.intro (fun c1 => ?_) (fun c1 => ?_)
      · replace c1 : 6 ≤ x5 := c1
        show jGo E l 96 229 229 _ 109 [.inr (.inr (.inl 0)), .inl a1, .inl 0, .inr (.inr (.inl x3)), .inl x4, .inl x5] [] 229 jr0 g
        refine jGo_blk qX11_breakUp_109 ?_
        exact st_r0 (ls := []) ⟨rfl, rfl, hf, x4, rfl, trivial, (by refine ⟨by unfold P_X11_breakUp; rw [show x5 = 6 by omega, jtn6] at hx0 hx1; exact Or.inr (Or.inr ⟨by omega, hx1, hx0⟩), Or.inl ?_⟩; exact ⟨hx5.1, hx5.2.1, hx5.2.2⟩)⟩
      · replace c1 : x5 < 6 := by first | exact c1 | exact Int.not_le.mp c1 | exact Int.not_lt.mp c1 | exact Decidable.not_not.mp c1
        refine st_gr jo_0 jr_0_5 ?_
        refine st_gr hu3.1 rfl ?_
        refine st_ai hu3.2.2.1 (show 0 ≤ x5 by omega) (show x5 < ((6 : Nat) : Int) by omega) (fun v2 ev2 b3 => ?_)
        replace ev2 : v2 = g (jr0 x3 12) x5 := ev2
        replace b3 := (hu3.2.2.2.2.2.2 x5 _).1 b3
        refine And.intro (show 2 ≠ 0 by omega) ?_
        refine st_cv (na := 2) (st := [.inl (jw32 (v2.tdiv 2)), .inl x5, .inr (.inr (.inl 29)), .inl x4]) jo_29 rfl rfl rfl (c_X10_store_29 x5 (jw32 (v2.tdiv 2)) g (by omega)) rfl ?_
        rintro _ _ g5 ⟨rfl, ft4, t4, rfl, ht4, zt4⟩ kt4
        replace kt4 : -2147483648 ≤ t4 ∧ t4 ≤ 2147483647 := kt4
        have fg5 : jfr w_X11_breakUp h g5 := jfr_tr hf ft4 ws_X10_store_29__X11_breakUp
        replace zt4 : t4 = jmin (jw32 (v2.tdiv 2)) (jw32 (1000000 - g 30 x5)) ∧ g5 = jSto 30 x5 (jw32 (v2.tdiv 2)) g := zt4
        have y6 := zt4.1
        have y7 := zt4.2
        have e8 : jw32 (x5 + 1) = x5 + 1 := jzj32 (by omega)
        show jGo E l 96 229 229 _ 73 [.inr (.inr (.inl 0)), .inl a1, .inl 0, .inr (.inr (.inl x3)), .inl (jw32 (x4 + t4)), .inl (jw32 (x5 + 1))] [] 229 jr0 g5
        have hq9 : ∀ i k : Int, ¬ i = 1 → ¬ i = 111 → g5 i k = (jit (jBk (36 + 3 * a1)) (jw32 (x5 + 1) : Int).toNat (jup h (36 + 3 * a1) 3 3)) i k := by
          rw [show jw32 (x5 + 1) = x5 + 1 by omega, jit_s (by omega)]
          intro i k p1 p2
          generalize hE : jit (jBk (36 + 3 * a1)) x5.toNat (jup h (36 + 3 * a1) 3 3) = E9 at hx0 hx1 ⊢
          refine (congrFun (congrFun zt4.2 i) k).trans ?_
          unfold jBk
          refine jSto_c ?_ (hx0 30 x5 (by decide) (by decide)) (hx0 i k p1 p2)
          rw [ev2, hu3.2.2.2.2.1, hx2, hx0 ((36 + 3 * a1) + 2) x5 (by omega) (by omega)]
        have hq10 : jw32 (x4 + t4) = jsu (jBk (36 + 3 * a1)) (jBkx (36 + 3 * a1)) (jw32 (x5 + 1) : Int).toNat (jup h (36 + 3 * a1) 3 3) := by
          rw [show jw32 (x5 + 1) = x5 + 1 by omega, jsu_s (by omega), ← hx1]
          unfold jBkx
          rw [zt4.1, ← hx0 30 x5 (by decide) (by decide), ← hx0 ((36 + 3 * a1) + 2) x5 (by omega) (by omega), ev2, hu3.2.2.2.2.1, hx2]
        have e11 : g5 111 9 = g 111 9 := ft4 111 9 (by unfold w_X10_store_29; omega)
        have e12 : g5 111 10 = g 111 10 := ft4 111 10 (by unfold w_X10_store_29; omega)
        have e13 : g5 111 11 = g 111 11 := ft4 111 11 (by unfold w_X10_store_29; omega)
        exact ih x3 (jw32 (x4 + t4)) (jw32 (x5 + 1)) g5 (by omega) hu3 (by exact hq9) (by exact hq10) (by exact hx2) (by exact hx3) (by omega) (by exact ⟨((ft4 111 9 (by unfold w_X10_store_29; omega))).trans hx5.1, ((ft4 111 10 (by unfold w_X10_store_29; omega))).trans hx5.2.1, ((ft4 111 11 (by unfold w_X10_store_29; omega))).trans hx5.2.2⟩) fg5 (by omega)
  refine jGo_blk qX11_breakUp_0 ?_
  refine st_cv (na := 1) (st := [.inl a1, .inr (.inr (.inl 0))]) jo_0 rfl rfl rfl (c_X11_isHull a1 h) rfl ?_
  rintro _ _ _ ⟨rfl, rfl, t14, rfl, ht14, zt14⟩ kt14
  replace kt14 : -2147483648 ≤ t14 ∧ t14 ≤ 2147483647 := kt14
  replace ht14 : 0 ≤ t14 ∧ t14 ≤ 1 := ht14
  replace zt14 : (t14 = 1 ∧ 0 ≤ a1 ∧ a1 < h 29 4 ∧ h 29 4 ≤ 16) ∨ (t14 = 0 ∧ ¬ (0 ≤ a1 ∧ a1 < h 29 4)) := zt14
  refine And.intro (fun c16 => ?_) (fun c16 => ?_)
  · replace c16 : ¬ t14 = 0 := c16
    show jGo E l 96 229 229 _ 12 [.inr (.inr (.inl 0)), .inl a1, .inr (.inr (.inr ())), .inr (.inr (.inr ())), .inr (.inr (.inr ())), .inr (.inr (.inr ()))] [] 229 jr0 h
    refine jGo_blk qX11_breakUp_12 ?_
    refine st_gr jo_0 jr_0_5 ?_
    refine st_gr jo_29 jr_29_3 ?_
    refine st_ar jo_33 (by decide) (show 0 ≤ a1 by omega) (show a1 < ((16 : Nat) : Int) by omega) (fun u17 eu17 => ?_)
    replace eu17 : u17 = jr0 33 a1 := eu17
    have qu17 : u17 = 36 + 3 * a1 := eu17.trans (jhul_33 a1 (by omega) (by omega)).1
    have hu17 : jHl u17 := by rw [eu17]; exact (jhul_33 a1 (by omega) (by omega)).2
    refine st_gi hu17.1 (fun v18 ev18 b19 => ?_)
    replace ev18 : v18 = h u17 3 := ev18
    replace b19 := (jbf_4_3 hu17.1 _).1 b19
    refine And.intro (fun c20 => ?_) (fun c20 => ?_)
    · replace c20 : v18 = 2 := c20
      show jGo E l 96 229 229 _ 33 [.inr (.inr (.inl 0)), .inl a1, .inr (.inr (.inr ())), .inr (.inr (.inr ())), .inr (.inr (.inr ())), .inr (.inr (.inr ()))] [] 229 jr0 h
      refine jGo_blk qX11_breakUp_33 ?_
      show jGo E l 96 229 229 _ 34 [.inr (.inr (.inl 0)), .inl a1, .inr (.inr (.inr ())), .inr (.inr (.inr ())), .inr (.inr (.inr ())), .inr (.inr (.inr ()))] [.inl 0] 229 jr0 h
      refine jGo_blk qX11_breakUp_34 ?_
      refine And.intro (fun c21 => ?_) (fun c21 => ?_)
      · replace c21 : (0 : Int) = 0 := c21
        show jGo E l 96 229 229 _ 45 [.inr (.inr (.inl 0)), .inl a1, .inl 0, .inr (.inr (.inr ())), .inr (.inr (.inr ())), .inr (.inr (.inr ()))] [] 229 jr0 h
        refine jGo_blk qX11_breakUp_45 ?_
        refine st_gr jo_0 jr_0_11 ?_
        refine st_cv (na := 0) (st := [.inr (.inr (.inl 111))]) jo_111 rfl rfl rfl (c_X7_forget h) rfl ?_
        rintro _ _ g23 ⟨rfl, ft22, rfl, zt22⟩ kt22
        have fg23 : jfr w_X11_breakUp h g23 := jfr_tr f0 ft22 ws_X7_forget__X11_breakUp
        replace zt22 : g23 111 9 = 0 ∧ g23 111 10 = 0 ∧ g23 111 11 = 0 := zt22
        refine st_gr jo_0 jr_0_5 ?_
        refine st_gr jo_29 jr_29_3 ?_
        refine st_ar jo_33 (by decide) (show 0 ≤ a1 by omega) (show a1 < ((16 : Nat) : Int) by omega) (fun u24 eu24 => ?_)
        replace eu24 : u24 = jr0 33 a1 := eu24
        have qu24 : u24 = 36 + 3 * a1 := eu24.trans (jhul_33 a1 (by omega) (by omega)).1
        have hu24 : jHl u24 := by rw [eu24]; exact (jhul_33 a1 (by omega) (by omega)).2
        refine And.intro (show u24 ≠ -1 by omega) ?_
        refine st_pi hu24.1 (fun hx => (jbf_4_3 hu24.1 _).2 (show 0 ≤ 3 ∧ 3 ≤ 3 by omega)) (fun g25 eg25 => ?_)
        replace eg25 : g25 = jup g23 u24 3 3 := eg25
        have fg25 : jfr w_X11_breakUp h g25 := jfr_up fg23 eg25 (by unfold w_X11_breakUp; omega)
        have e26 : g25 u24 3 = 3 := jup_s eg25
        show jGo E l 96 229 229 _ 73 [.inr (.inr (.inl 0)), .inl a1, .inl 0, .inr (.inr (.inl u24)), .inl 0, .inl 0] [] 229 jr0 g25
        have hq27 : ∀ i k : Int, ¬ i = 1 → ¬ i = 111 → g25 i k = (jit (jBk (36 + 3 * a1)) (0 : Int).toNat (jup h (36 + 3 * a1) 3 3)) i k := by
          rw [jit_0]
          exact fun i k p1 p2 => (congrFun (congrFun eg25 i) k).trans (jup_cc (by omega) rfl rfl (ft22 i k (by unfold w_X7_forget; omega)))
        have e28 : h u17 3 = h (36 + 3 * a1) 3 := by rw [qu17]
        have e29 : h u24 3 = h (36 + 3 * a1) 3 := by rw [qu24]
        have e30 : h u17 3 = h (36 + 3 * a1) 3 := by rw [qu17]
        have e31 : g25 111 9 = g23 111 9 := jup_o eg25 (by first | exact fun q => absurd q.1 (by decide) | exact fun q => absurd q.2 (by decide) | omega)
        have e32 : g25 111 10 = g23 111 10 := jup_o eg25 (by first | exact fun q => absurd q.1 (by decide) | exact fun q => absurd q.2 (by decide) | omega)
        have e33 : g25 111 11 = g23 111 11 := jup_o eg25 (by first | exact fun q => absurd q.1 (by decide) | exact fun q => absurd q.2 (by decide) | omega)
        exact (key 1000000000000) u24 0 0 g25 (by omega) hu24 (by exact hq27) (by rfl) (by omega) (by omega) (by omega) (by exact ⟨((jup_o eg25 (by first | exact fun q => absurd q.1 (by decide) | exact fun q => absurd q.2 (by decide) | omega))).trans zt22.1, ((jup_o eg25 (by first | exact fun q => absurd q.1 (by decide) | exact fun q => absurd q.2 (by decide) | omega))).trans zt22.2.1, ((jup_o eg25 (by first | exact fun q => absurd q.1 (by decide) | exact fun q => absurd q.2 (by decide) | omega))).trans zt22.2.2⟩) fg25 (by omega)
      · replace c21 : ¬ (0 : Int) = 0 := by first | exact c21 | exact Int.not_le.mp c21 | exact Int.not_lt.mp c21 | exact Decidable.not_not.mp c21
        exfalso; omega
    · replace c20 : ¬ v18 = 2 := by first | exact c20 | exact Int.not_le.mp c20 | exact Int.not_lt.mp c20 | exact Decidable.not_not.mp c20
      show jGo E l 96 229 229 _ 34 [.inr (.inr (.inl 0)), .inl a1, .inr (.inr (.inr ())), .inr (.inr (.inr ())), .inr (.inr (.inr ())), .inr (.inr (.inr ()))] [.inl (-3)] 229 jr0 h
      refine jGo_blk qX11_breakUp_34 ?_
      refine And.intro (fun c34 => ?_) (fun c34 => ?_)
      · replace c34 : (-3 : Int) = 0 := c34
        exfalso; omega
      · replace c34 : ¬ (-3 : Int) = 0 := by first | exact c34 | exact Int.not_le.mp c34 | exact Int.not_lt.mp c34 | exact Decidable.not_not.mp c34
        refine st_cv (na := 1) (st := [.inl (-3), .inr (.inr (.inl 0))]) jo_0 rfl rfl rfl (c_X11_refused (-3) h (by omega)) rfl ?_
        rintro _ _ g36 ⟨rfl, ft35, t35, rfl, ht35, zt35⟩ kt35
        replace kt35 : -2147483648 ≤ t35 ∧ t35 ≤ 2147483647 := kt35
        replace ht35 : -7 ≤ t35 ∧ t35 ≤ -1 := ht35
        have fg36 : jfr w_X11_breakUp h g36 := jfr_tr f0 ft35 ws_X11_refused__X11_breakUp
        replace zt35 : t35 = (-3 : Int) := zt35
        have e37 : h u17 3 = h (36 + 3 * a1) 3 := by rw [qu17]
        have e38 : h u17 3 = h (36 + 3 * a1) 3 := by rw [qu17]
        have hs39 : ∀ i k : Int, ¬ i = 1 → ¬ i = 111 → g36 i k = h i k := fun i k p1 p2 => (ft35 i k (by unfold w_X11_refused; omega))
        exact st_r0 (ls := []) ⟨rfl, rfl, fg36, t35, rfl, trivial, (by refine ⟨by unfold P_X11_breakUp; first | exact Or.inl ⟨by omega, hs39⟩ | exact Or.inr (Or.inl ⟨by omega, hs39⟩), Or.inr ⟨by omega, fun i k p1 => (ft35 i k (by first | exact p1 | (unfold w_X11_refused; omega)))⟩⟩)⟩
  · replace c16 : t14 = 0 := by first | exact c16 | exact Int.not_le.mp c16 | exact Int.not_lt.mp c16 | exact Decidable.not_not.mp c16
    show jGo E l 96 229 229 _ 34 [.inr (.inr (.inl 0)), .inl a1, .inr (.inr (.inr ())), .inr (.inr (.inr ())), .inr (.inr (.inr ())), .inr (.inr (.inr ()))] [.inl (-1)] 229 jr0 h
    refine jGo_blk qX11_breakUp_34 ?_
    refine And.intro (fun c40 => ?_) (fun c40 => ?_)
    · replace c40 : (-1 : Int) = 0 := c40
      exfalso; omega
    · replace c40 : ¬ (-1 : Int) = 0 := by first | exact c40 | exact Int.not_le.mp c40 | exact Int.not_lt.mp c40 | exact Decidable.not_not.mp c40
      refine st_cv (na := 1) (st := [.inl (-1), .inr (.inr (.inl 0))]) jo_0 rfl rfl rfl (c_X11_refused (-1) h (by omega)) rfl ?_
      rintro _ _ g42 ⟨rfl, ft41, t41, rfl, ht41, zt41⟩ kt41
      replace kt41 : -2147483648 ≤ t41 ∧ t41 ≤ 2147483647 := kt41
      replace ht41 : -7 ≤ t41 ∧ t41 ≤ -1 := ht41
      have fg42 : jfr w_X11_breakUp h g42 := jfr_tr f0 ft41 ws_X11_refused__X11_breakUp
      replace zt41 : t41 = (-1 : Int) := zt41
      have hs43 : ∀ i k : Int, ¬ i = 1 → ¬ i = 111 → g42 i k = h i k := fun i k p1 p2 => (ft41 i k (by unfold w_X11_refused; omega))
      exact st_r0 (ls := []) ⟨rfl, rfl, fg42, t41, rfl, trivial, (by refine ⟨by unfold P_X11_breakUp; first | exact Or.inl ⟨by omega, hs43⟩ | exact Or.inr (Or.inl ⟨by omega, hs43⟩), Or.inr ⟨by omega, fun i k p1 => (ft41 i k (by first | exact p1 | (unfold w_X11_refused; omega)))⟩⟩)⟩

def w_X12_breakUp (i k : Int) : Prop := (i = 181) ∨ (i = 192) ∨ (i = 219)
theorem ws_X12_refuse__X12_breakUp (i k : Int) (q : w_X12_refuse i k) : w_X12_breakUp i k := by
  unfold w_X12_refuse at q; unfold w_X12_breakUp
  exact (Or.inr (Or.inr (by omega)))
def k_X12_breakUp (a1 : Int) (h : JH) (v : Option JV) (r' g : JH) : Prop := r' = jr0 ∧ jfr w_X12_breakUp h g ∧ ∃ x : Int, v = some (.inl x) ∧ (True) ∧ ((P_X12_breakUp a1 x h g) ∧ jRx (¬ (0 ≤ a1 ∧ a1 < h 176 14 ∧ h 192 a1 = 2)) h g)
set_option maxHeartbeats 4000000 in
theorem c_X12_breakUp {E : JE} {l : Launch} (a1 : Int) (h : JH) : jMt E l 97 [.inr (.inr (.inl 176)), .inl a1] 229 jr0 h (k_X12_breakUp a1 h) := by
  refine jMt0 (nL := 5) (ls := [.inr (.inr (.inl 176)), .inl a1, .inr (.inr (.inr ())), .inr (.inr (.inr ())), .inr (.inr (.inr ()))]) (by decide +kernel) (by decide +kernel) (by decide +kernel) rfl rfl ?_
  have f0 : jfr w_X12_breakUp h h := jfr_rf _ _
  have key : ∀ N : Nat, (∀ (x2 : Int) (x3 : Int) (x4 : JV) (g : JH), (0 ≤ a1 ∧ a1 ≤ 15 ∧ 0 ≤ x3 ∧ x3 ≤ 6) → (g = jit (jmBk a1) (x3).toNat h) → (x2 = jsu (jmBk a1) (jmBkx a1) (x3).toNat h) → (0 ≤ a1 ∧ a1 < h 176 14 ∧ h 176 14 ≤ 16 ∧ h 192 a1 = 2) → (0 ≤ x3 ∧ x3 ≤ 6) → jfr w_X12_breakUp h g → (6 - x3) < (N : Int) → jGo E l 97 229 229 (jRK (k_X12_breakUp a1 h)) 35 [.inr (.inr (.inl 176)), .inl a1, .inl x2, .inl x3, x4] [] 229 jr0 g) := by
    intro N
    induction N with
    | zero => exact fun _ _ _ _ hi hx0 hx1 hx2 hx3 _ hN => absurd hN (by omega)
    | succ N ih =>
      intro x2 x3 x4 g hi hx0 hx1 hx2 hx3 hf hN
      refine jGo_ok (fun hls _ => ?_)
      have rx2 : -2147483648 ≤ x2 ∧ x2 ≤ 2147483647 := hls (.inl x2) (by simp)
      refine jGo_blk qX12_breakUp_35 ?_
      refine And.intro (fun c1 => ?_) (fun c1 => ?_)
      · replace c1 : 6 ≤ x3 := c1
        show jGo E l 97 229 229 _ 108 [.inr (.inr (.inl 176)), .inl a1, .inl x2, .inl x3, x4] [] 229 jr0 g
        refine jGo_blk qX12_breakUp_108 ?_
        refine st_gr jo_176 jr_176_18 ?_
        refine st_si jo_192 (show 0 ≤ a1 by omega) (show a1 < ((16 : Nat) : Int) by omega) (fun hx => (jba_192 _ _).2 (show 0 ≤ 3 ∧ 3 ≤ 3 by omega)) (fun g2 eg2 => ?_)
        replace eg2 : g2 = jup g 192 a1 3 := eg2
        have fg2 : jfr w_X12_breakUp h g2 := jfr_up hf eg2 (by unfold w_X12_breakUp; omega)
        have e3 : g2 192 a1 = 3 := jup_s eg2
        exact st_r0 (ls := []) ⟨rfl, rfl, fg2, x2, rfl, trivial, (by refine ⟨by unfold P_X12_breakUp; rw [show x3 = 6 by omega, jtn6] at hx0 hx1; exact Or.inr (Or.inr ⟨by omega, hx1, fun i k _ => by rw [eg2, hx0]⟩), fun b9 => absurd b9 (by omega)⟩)⟩
      · replace c1 : x3 < 6 := by first | exact c1 | exact Int.not_le.mp c1 | exact Int.not_lt.mp c1 | exact Decidable.not_not.mp c1
        refine st_gr jo_176 jr_176_26 ?_
        have e4 : jw32 (6 * a1) = 6 * a1 := jzj32 (by omega)
        have e5 : jw32 ((jw32 (6 * a1)) + x3) = (jw32 (6 * a1)) + x3 := jzj32 (by omega)
        refine st_ai jo_200 (show 0 ≤ jw32 ((jw32 (6 * a1)) + x3) by omega) (show jw32 ((jw32 (6 * a1)) + x3) < ((96 : Nat) : Int) by omega) (fun v6 ev6 b7 => ?_)
        replace ev6 : v6 = g 200 (jw32 ((jw32 (6 * a1)) + x3)) := ev6
        replace b7 := (jba_200 (jw32 ((jw32 (6 * a1)) + x3)) _).1 b7
        refine And.intro (show 2 ≠ 0 by omega) ?_
        refine st_gr jo_176 jr_176_5 ?_
        refine st_ai jo_181 (show 0 ≤ x3 by omega) (show x3 < ((6 : Nat) : Int) by omega) (fun v8 ev8 b9 => ?_)
        replace ev8 : v8 = g 181 x3 := ev8
        replace b9 := (jba_181 x3 _).1 b9
        refine And.intro (fun c10 => ?_) (fun c10 => ?_)
        · replace c10 : jw32 (1000000 - v8) ≤ jw32 (v6.tdiv 2) := c10
          show jGo E l 97 229 229 _ 75 [.inr (.inr (.inl 176)), .inl a1, .inl x2, .inl x3, .inl (jw32 (v6.tdiv 2))] [] 229 jr0 g
          refine jGo_blk qX12_breakUp_75 ?_
          refine st_gr jo_176 jr_176_5 ?_
          refine st_ai jo_181 (show 0 ≤ x3 by omega) (show x3 < ((6 : Nat) : Int) by omega) (fun v11 ev11 b12 => ?_)
          replace ev11 : v11 = g 181 x3 := ev11
          replace b12 := (jba_181 x3 _).1 b12
          show jGo E l 97 229 229 _ 84 [.inr (.inr (.inl 176)), .inl a1, .inl x2, .inl x3, .inl (jw32 (v6.tdiv 2))] [.inl (jw32 (1000000 - v11))] 229 jr0 g
          refine jGo_blk qX12_breakUp_84 ?_
          refine st_gr jo_176 jr_176_5 ?_
          refine st_ai jo_181 (show 0 ≤ x3 by omega) (show x3 < ((6 : Nat) : Int) by omega) (fun v13 ev13 b14 => ?_)
          replace ev13 : v13 = g 181 x3 := ev13
          replace b14 := (jba_181 x3 _).1 b14
          refine st_si jo_181 (show 0 ≤ x3 by omega) (show x3 < ((6 : Nat) : Int) by omega) (fun hx => (jba_181 _ _).2 hx) (fun g15 eg15 => ?_)
          replace eg15 : g15 = jup g 181 x3 (jw32 (v13 + (jw32 (1000000 - v11)))) := eg15
          have fg15 : jfr w_X12_breakUp h g15 := jfr_up hf eg15 (by unfold w_X12_breakUp; omega)
          have e16 : g15 181 x3 = jw32 (v13 + (jw32 (1000000 - v11))) := jup_s eg15
          have e17 : jw32 (x3 + 1) = x3 + 1 := jzj32 (by omega)
          show jGo E l 97 229 229 _ 35 [.inr (.inr (.inl 176)), .inl a1, .inl (jw32 (x2 + (jw32 (1000000 - v11)))), .inl (jw32 (x3 + 1)), .inl (jw32 (1000000 - v11))] [] 229 jr0 g15
          have i9 : jw32 (jw32 (6 * a1) + x3) = 6 * a1 + x3 := by omega
          exact ih (jw32 (x2 + (jw32 (1000000 - v11)))) (jw32 (x3 + 1)) (.inl (jw32 (1000000 - v11))) g15 (by omega) (by rw [show jw32 (x3 + 1) = x3 + 1 by omega, jit_s (by omega), ← hx0]; subst eg15 ev13 ev11 ev8 ev6; rw [i9] at c10; unfold jmBk jmii; (repeat (first | rw [if_pos (by omega)] | rw [if_neg (by omega)])); all_goals ((try rw [i9]); (try rfl))) (by rw [show jw32 (x3 + 1) = x3 + 1 by omega, jsu_s (by omega), ← hx0, ← hx1]; subst eg15 ev13 ev11 ev8 ev6; rw [i9] at c10; unfold jmBkx jmii; (repeat (first | rw [if_pos (by omega)] | rw [if_neg (by omega)])); all_goals ((try rw [i9]); (try rfl))) (by exact hx2) (by omega) fg15 (by omega)
        · replace c10 : jw32 (v6.tdiv 2) < jw32 (1000000 - v8) := by first | exact c10 | exact Int.not_le.mp c10 | exact Int.not_lt.mp c10 | exact Decidable.not_not.mp c10
          show jGo E l 97 229 229 _ 84 [.inr (.inr (.inl 176)), .inl a1, .inl x2, .inl x3, .inl (jw32 (v6.tdiv 2))] [.inl (jw32 (v6.tdiv 2))] 229 jr0 g
          refine jGo_blk qX12_breakUp_84 ?_
          refine st_gr jo_176 jr_176_5 ?_
          refine st_ai jo_181 (show 0 ≤ x3 by omega) (show x3 < ((6 : Nat) : Int) by omega) (fun v18 ev18 b19 => ?_)
          replace ev18 : v18 = g 181 x3 := ev18
          replace b19 := (jba_181 x3 _).1 b19
          refine st_si jo_181 (show 0 ≤ x3 by omega) (show x3 < ((6 : Nat) : Int) by omega) (fun hx => (jba_181 _ _).2 hx) (fun g20 eg20 => ?_)
          replace eg20 : g20 = jup g 181 x3 (jw32 (v18 + (jw32 (v6.tdiv 2)))) := eg20
          have fg20 : jfr w_X12_breakUp h g20 := jfr_up hf eg20 (by unfold w_X12_breakUp; omega)
          have e21 : g20 181 x3 = jw32 (v18 + (jw32 (v6.tdiv 2))) := jup_s eg20
          have e22 : jw32 (x3 + 1) = x3 + 1 := jzj32 (by omega)
          show jGo E l 97 229 229 _ 35 [.inr (.inr (.inl 176)), .inl a1, .inl (jw32 (x2 + (jw32 (v6.tdiv 2)))), .inl (jw32 (x3 + 1)), .inl (jw32 (v6.tdiv 2))] [] 229 jr0 g20
          have i9 : jw32 (jw32 (6 * a1) + x3) = 6 * a1 + x3 := by omega
          exact ih (jw32 (x2 + (jw32 (v6.tdiv 2)))) (jw32 (x3 + 1)) (.inl (jw32 (v6.tdiv 2))) g20 (by omega) (by rw [show jw32 (x3 + 1) = x3 + 1 by omega, jit_s (by omega), ← hx0]; subst eg20 ev18 ev8 ev6; rw [i9] at c10; unfold jmBk jmii; (repeat (first | rw [if_pos (by omega)] | rw [if_neg (by omega)])); all_goals ((try rw [i9]); (try rfl))) (by rw [show jw32 (x3 + 1) = x3 + 1 by omega, jsu_s (by omega), ← hx0, ← hx1]; subst eg20 ev18 ev8 ev6; rw [i9] at c10; unfold jmBkx jmii; (repeat (first | rw [if_pos (by omega)] | rw [if_neg (by omega)])); all_goals ((try rw [i9]); (try rfl))) (by exact hx2) (by omega) fg20 (by omega)
  refine jGo_blk qX12_breakUp_0 ?_
  refine st_cv (na := 1) (st := [.inl a1, .inr (.inr (.inl 176))]) jo_176 rfl rfl rfl (c_X12_isHull a1 h) rfl ?_
  rintro _ _ _ ⟨rfl, rfl, t23, rfl, ht23, zt23⟩ kt23
  replace kt23 : -2147483648 ≤ t23 ∧ t23 ≤ 2147483647 := kt23
  replace ht23 : 0 ≤ t23 ∧ t23 ≤ 1 := ht23
  replace zt23 : (t23 = 1 ∧ 0 ≤ a1 ∧ a1 < h 176 14 ∧ h 176 14 ≤ 16) ∨ (t23 = 0 ∧ ¬ (0 ≤ a1 ∧ a1 < h 176 14)) := zt23
  refine And.intro (fun c25 => ?_) (fun c25 => ?_)
  · replace c25 : ¬ t23 = 0 := c25
    show jGo E l 97 229 229 _ 14 [.inr (.inr (.inl 176)), .inl a1, .inr (.inr (.inr ())), .inr (.inr (.inr ())), .inr (.inr (.inr ()))] [] 229 jr0 h
    refine jGo_blk qX12_breakUp_14 ?_
    refine st_gr jo_176 jr_176_18 ?_
    refine st_ai jo_192 (show 0 ≤ a1 by omega) (show a1 < ((16 : Nat) : Int) by omega) (fun v26 ev26 b27 => ?_)
    replace ev26 : v26 = h 192 a1 := ev26
    replace b27 := (jba_192 a1 _).1 b27
    refine And.intro (fun c28 => ?_) (fun c28 => ?_)
    · replace c28 : v26 = 2 := c28
      show jGo E l 97 229 229 _ 31 [.inr (.inr (.inl 176)), .inl a1, .inr (.inr (.inr ())), .inr (.inr (.inr ())), .inr (.inr (.inr ()))] [] 229 jr0 h
      refine jGo_blk qX12_breakUp_31 ?_
      show jGo E l 97 229 229 _ 35 [.inr (.inr (.inl 176)), .inl a1, .inl 0, .inl 0, .inr (.inr (.inr ()))] [] 229 jr0 h
      exact (key 1000000000000) 0 0 (.inr (.inr (.inr ()))) h (by omega) (by rfl) (by rfl) (by omega) (by omega) f0 (by omega)
    · replace c28 : ¬ v26 = 2 := by first | exact c28 | exact Int.not_le.mp c28 | exact Int.not_lt.mp c28 | exact Decidable.not_not.mp c28
      refine st_cv (na := 1) (st := [.inl (-3), .inr (.inr (.inl 176))]) jo_176 rfl rfl rfl (c_X12_refuse (-3) h (by omega)) rfl ?_
      rintro _ _ g30 ⟨rfl, ft29, t29, rfl, ht29, zt29⟩ kt29
      replace kt29 : -2147483648 ≤ t29 ∧ t29 ≤ 2147483647 := kt29
      replace ht29 : -7 ≤ t29 ∧ t29 ≤ -1 := ht29
      have fg30 : jfr w_X12_breakUp h g30 := jfr_tr f0 ft29 ws_X12_refuse__X12_breakUp
      replace zt29 : t29 = (-3 : Int) := zt29
      have hs31 : ∀ i k : Int, ¬ i = 219 → g30 i k = h i k := fun i k p1 => (ft29 i k (by first | exact p1 | (unfold w_X12_refuse; omega)))
      exact st_r0 (ls := []) ⟨rfl, rfl, fg30, t29, rfl, trivial, (by refine ⟨by unfold P_X12_breakUp; first | exact Or.inl ⟨by omega, hs31⟩ | exact Or.inr (Or.inl ⟨by omega, hs31⟩), fun _ i k q9 => ?_⟩; exact (ft29 i k (jzma_w_X12_refuse q9)))⟩
  · replace c25 : t23 = 0 := by first | exact c25 | exact Int.not_le.mp c25 | exact Int.not_lt.mp c25 | exact Decidable.not_not.mp c25
    refine st_cv (na := 1) (st := [.inl (-1), .inr (.inr (.inl 176))]) jo_176 rfl rfl rfl (c_X12_refuse (-1) h (by omega)) rfl ?_
    rintro _ _ g33 ⟨rfl, ft32, t32, rfl, ht32, zt32⟩ kt32
    replace kt32 : -2147483648 ≤ t32 ∧ t32 ≤ 2147483647 := kt32
    replace ht32 : -7 ≤ t32 ∧ t32 ≤ -1 := ht32
    have fg33 : jfr w_X12_breakUp h g33 := jfr_tr f0 ft32 ws_X12_refuse__X12_breakUp
    replace zt32 : t32 = (-1 : Int) := zt32
    have hs34 : ∀ i k : Int, ¬ i = 219 → g33 i k = h i k := fun i k p1 => (ft32 i k (by first | exact p1 | (unfold w_X12_refuse; omega)))
    exact st_r0 (ls := []) ⟨rfl, rfl, fg33, t32, rfl, trivial, (by refine ⟨by unfold P_X12_breakUp; first | exact Or.inl ⟨by omega, hs34⟩ | exact Or.inr (Or.inl ⟨by omega, hs34⟩), fun _ i k q9 => ?_⟩; exact (ft32 i k (jzma_w_X12_refuse q9)))⟩

def w_X11_growth (i k : Int) : Prop := (i = 1) ∨ (i = 90)
theorem ws_X11_refused__X11_growth (i k : Int) (q : w_X11_refused i k) : w_X11_growth i k := by
  unfold w_X11_refused at q; unfold w_X11_growth
  exact (Or.inl (by omega))
def k_X11_growth (a1 : Int) (a2 : Int) (h : JH) (v : Option JV) (r' g : JH) : Prop := r' = jr0 ∧ jfr w_X11_growth h g ∧ ∃ x : Int, v = some (.inl x) ∧ (-7 ≤ x ∧ x ≤ 9) ∧ (P_X11_growth a1 a2 x h g)
set_option maxHeartbeats 4000000 in
theorem c_X11_growth {E : JE} {l : Launch} (a1 : Int) (a2 : Int) (h : JH) : jMt E l 98 [.inr (.inr (.inl 0)), .inl a1, .inl a2] 229 jr0 h (k_X11_growth a1 a2 h) := by
  refine jMt0 (nL := 5) (ls := [.inr (.inr (.inl 0)), .inl a1, .inl a2, .inr (.inr (.inr ())), .inr (.inr (.inr ()))]) (by decide +kernel) (by decide +kernel) (by decide +kernel) rfl rfl ?_
  have f0 : jfr w_X11_growth h h := jfr_rf _ _
  refine jGo_blk qX11_growth_0 ?_
  refine st_cs (na := 2) (st := [.inl 3, .inl a1]) rfl rfl rfl (c_X11_within a1 3 h) rfl ?_
  rintro _ _ _ ⟨rfl, rfl, t1, rfl, ht1, zt1⟩ kt1
  replace kt1 : -2147483648 ≤ t1 ∧ t1 ≤ 2147483647 := kt1
  replace ht1 : 0 ≤ t1 ∧ t1 ≤ 1 := ht1
  replace zt1 : (t1 = 1 ∧ 0 ≤ a1 ∧ a1 < (3 : Int)) ∨ (t1 = 0 ∧ ¬ (0 ≤ a1 ∧ a1 < (3 : Int))) := zt1
  refine And.intro (fun c3 => ?_) (fun c3 => ?_)
  · replace c3 : ¬ t1 = 0 := c3
    show jGo E l 98 229 229 _ 12 [.inr (.inr (.inl 0)), .inl a1, .inl a2, .inr (.inr (.inr ())), .inr (.inr (.inr ()))] [] 229 jr0 h
    refine jGo_blk qX11_growth_12 ?_
    refine st_cs (na := 3) (st := [.inl 9, .inl 0, .inl a2]) rfl rfl rfl (c_X11_outside a2 0 9 h) rfl ?_
    rintro _ _ _ ⟨rfl, rfl, t4, rfl, ht4, zt4⟩ kt4
    replace kt4 : -2147483648 ≤ t4 ∧ t4 ≤ 2147483647 := kt4
    replace ht4 : -6 ≤ t4 ∧ t4 ≤ 0 := ht4
    replace zt4 : (t4 = -4 ∧ a2 < (0 : Int)) ∨ (t4 = -6 ∧ (0 : Int) ≤ a2 ∧ (9 : Int) < a2) ∨ (t4 = 0 ∧ (0 : Int) ≤ a2 ∧ a2 ≤ (9 : Int)) := zt4
    show jGo E l 98 229 229 _ 19 [.inr (.inr (.inl 0)), .inl a1, .inl a2, .inr (.inr (.inr ())), .inr (.inr (.inr ()))] [.inl t4] 229 jr0 h
    refine jGo_blk qX11_growth_19 ?_
    refine And.intro (fun c6 => ?_) (fun c6 => ?_)
    · replace c6 : t4 = 0 := c6
      show jGo E l 98 229 229 _ 30 [.inr (.inr (.inl 0)), .inl a1, .inl a2, .inl t4, .inr (.inr (.inr ()))] [] 229 jr0 h
      refine jGo_blk qX11_growth_30 ?_
      refine st_gr jo_0 jr_0_6 ?_
      refine st_gr jo_84 jr_84_6 ?_
      refine st_ai jo_90 (show 0 ≤ a1 by omega) (show a1 < ((3 : Nat) : Int) by omega) (fun v7 ev7 b8 => ?_)
      replace ev7 : v7 = h 90 a1 := ev7
      replace b8 := (jba_90 a1 _).1 b8
      refine st_gr jo_0 jr_0_6 ?_
      refine st_gr jo_84 jr_84_6 ?_
      refine st_si jo_90 (show 0 ≤ a1 by omega) (show a1 < ((3 : Nat) : Int) by omega) (fun hx => (jba_90 _ _).2 (show 0 ≤ a2 ∧ a2 ≤ 9 by omega)) (fun g9 eg9 => ?_)
      replace eg9 : g9 = jup h 90 a1 a2 := eg9
      have fg9 : jfr w_X11_growth h g9 := jfr_up f0 eg9 (by unfold w_X11_growth; omega)
      have e10 : g9 90 a1 = a2 := jup_s eg9
      have hs11 : g9 90 a1 = a2 := by
        exact jup_s eg9
      have hs12 : ∀ i k : Int, 90 ≤ i → i ≤ 90 → ¬ (i = 90 ∧ k = a1) → g9 i k = h i k := fun i k p1 p2 p3 => (jup_o eg9 (by first | exact fun q => absurd q.1 (by decide) | exact fun q => absurd q.2 (by decide) | omega))
      exact st_r0 (ls := []) ⟨rfl, rfl, fg9, v7, rfl, (by omega), (by unfold P_X11_growth; first | exact Or.inr (Or.inr (Or.inr ⟨by omega, ⟨hs11, hs12⟩⟩)))⟩
    · replace c6 : ¬ t4 = 0 := by first | exact c6 | exact Int.not_le.mp c6 | exact Int.not_lt.mp c6 | exact Decidable.not_not.mp c6
      refine st_cv (na := 1) (st := [.inl t4, .inr (.inr (.inl 0))]) jo_0 rfl rfl rfl (c_X11_refused t4 h (by omega)) rfl ?_
      rintro _ _ g14 ⟨rfl, ft13, t13, rfl, ht13, zt13⟩ kt13
      replace kt13 : -2147483648 ≤ t13 ∧ t13 ≤ 2147483647 := kt13
      replace ht13 : -7 ≤ t13 ∧ t13 ≤ -1 := ht13
      have fg14 : jfr w_X11_growth h g14 := jfr_tr f0 ft13 ws_X11_refused__X11_growth
      replace zt13 : t13 = t4 := zt13
      have hs15 : ∀ i k : Int, 90 ≤ i → i ≤ 90 → g14 i k = h i k := fun i k p1 p2 => (ft13 i k (by unfold w_X11_refused; omega))
      exact st_r0 (ls := []) ⟨rfl, rfl, fg14, t13, rfl, (by omega), (by unfold P_X11_growth; by_cases zz : t13 = -4 <;> first | exact Or.inl ⟨by omega, hs15⟩ | exact Or.inr (Or.inl ⟨by omega, hs15⟩) | exact Or.inr (Or.inr (Or.inl ⟨by omega, hs15⟩)))⟩
  · replace c3 : t1 = 0 := by first | exact c3 | exact Int.not_le.mp c3 | exact Int.not_lt.mp c3 | exact Decidable.not_not.mp c3
    show jGo E l 98 229 229 _ 19 [.inr (.inr (.inl 0)), .inl a1, .inl a2, .inr (.inr (.inr ())), .inr (.inr (.inr ()))] [.inl (-1)] 229 jr0 h
    refine jGo_blk qX11_growth_19 ?_
    refine And.intro (fun c16 => ?_) (fun c16 => ?_)
    · replace c16 : (-1 : Int) = 0 := c16
      exfalso; omega
    · replace c16 : ¬ (-1 : Int) = 0 := by first | exact c16 | exact Int.not_le.mp c16 | exact Int.not_lt.mp c16 | exact Decidable.not_not.mp c16
      refine st_cv (na := 1) (st := [.inl (-1), .inr (.inr (.inl 0))]) jo_0 rfl rfl rfl (c_X11_refused (-1) h (by omega)) rfl ?_
      rintro _ _ g18 ⟨rfl, ft17, t17, rfl, ht17, zt17⟩ kt17
      replace kt17 : -2147483648 ≤ t17 ∧ t17 ≤ 2147483647 := kt17
      replace ht17 : -7 ≤ t17 ∧ t17 ≤ -1 := ht17
      have fg18 : jfr w_X11_growth h g18 := jfr_tr f0 ft17 ws_X11_refused__X11_growth
      replace zt17 : t17 = (-1 : Int) := zt17
      have hs19 : ∀ i k : Int, 90 ≤ i → i ≤ 90 → g18 i k = h i k := fun i k p1 p2 => (ft17 i k (by unfold w_X11_refused; omega))
      exact st_r0 (ls := []) ⟨rfl, rfl, fg18, t17, rfl, (by omega), (by unfold P_X11_growth; by_cases zz : t17 = -4 <;> first | exact Or.inl ⟨by omega, hs19⟩ | exact Or.inr (Or.inl ⟨by omega, hs19⟩) | exact Or.inr (Or.inr (Or.inl ⟨by omega, hs19⟩)))⟩

def w_X12_growth (i k : Int) : Prop := (i = 204) ∨ (i = 219)
theorem ws_X12_refuse__X12_growth (i k : Int) (q : w_X12_refuse i k) : w_X12_growth i k := by
  unfold w_X12_refuse at q; unfold w_X12_growth
  exact (Or.inr (by omega))
def k_X12_growth (a1 : Int) (a2 : Int) (h : JH) (v : Option JV) (r' g : JH) : Prop := r' = jr0 ∧ jfr w_X12_growth h g ∧ ∃ x : Int, v = some (.inl x) ∧ (-7 ≤ x ∧ x ≤ 9) ∧ (P_X12_growth a1 a2 x h g)
set_option maxHeartbeats 4000000 in
theorem c_X12_growth {E : JE} {l : Launch} (a1 : Int) (a2 : Int) (h : JH) : jMt E l 99 [.inr (.inr (.inl 176)), .inl a1, .inl a2] 229 jr0 h (k_X12_growth a1 a2 h) := by
  refine jMt0 (nL := 4) (ls := [.inr (.inr (.inl 176)), .inl a1, .inl a2, .inr (.inr (.inr ()))]) (by decide +kernel) (by decide +kernel) (by decide +kernel) rfl rfl ?_
  have f0 : jfr w_X12_growth h h := jfr_rf _ _
  refine jGo_blk qX12_growth_0 ?_
  refine st_cs (na := 3) (st := [.inl 2, .inl 0, .inl a1]) rfl rfl rfl (c_X12_in a1 0 2 h) rfl ?_
  rintro _ _ _ ⟨rfl, rfl, t1, rfl, ht1, zt1⟩ kt1
  replace kt1 : -2147483648 ≤ t1 ∧ t1 ≤ 2147483647 := kt1
  replace ht1 : 0 ≤ t1 ∧ t1 ≤ 1 := ht1
  replace zt1 : (t1 = 1 ∧ (0 : Int) ≤ a1 ∧ a1 ≤ (2 : Int)) ∨ (t1 = 0 ∧ ¬ ((0 : Int) ≤ a1 ∧ a1 ≤ (2 : Int))) := zt1
  refine And.intro (fun c3 => ?_) (fun c3 => ?_)
  · replace c3 : ¬ t1 = 0 := c3
    show jGo E l 99 229 229 _ 15 [.inr (.inr (.inl 176)), .inl a1, .inl a2, .inr (.inr (.inr ()))] [] 229 jr0 h
    refine jGo_blk qX12_growth_15 ?_
    refine And.intro (fun c4 => ?_) (fun c4 => ?_)
    · replace c4 : 0 ≤ a2 := c4
      show jGo E l 99 229 229 _ 26 [.inr (.inr (.inl 176)), .inl a1, .inl a2, .inr (.inr (.inr ()))] [] 229 jr0 h
      refine jGo_blk qX12_growth_26 ?_
      refine And.intro (fun c5 => ?_) (fun c5 => ?_)
      · replace c5 : a2 ≤ 9 := c5
        show jGo E l 99 229 229 _ 39 [.inr (.inr (.inl 176)), .inl a1, .inl a2, .inr (.inr (.inr ()))] [] 229 jr0 h
        refine jGo_blk qX12_growth_39 ?_
        refine st_gr jo_176 jr_176_33 ?_
        refine st_ai jo_204 (show 0 ≤ a1 by omega) (show a1 < ((3 : Nat) : Int) by omega) (fun v6 ev6 b7 => ?_)
        replace ev6 : v6 = h 204 a1 := ev6
        replace b7 := (jba_204 a1 _).1 b7
        refine st_gr jo_176 jr_176_33 ?_
        refine st_si jo_204 (show 0 ≤ a1 by omega) (show a1 < ((3 : Nat) : Int) by omega) (fun hx => (jba_204 _ _).2 (show 0 ≤ a2 ∧ a2 ≤ 9 by omega)) (fun g8 eg8 => ?_)
        replace eg8 : g8 = jup h 204 a1 a2 := eg8
        have fg8 : jfr w_X12_growth h g8 := jfr_up f0 eg8 (by unfold w_X12_growth; omega)
        have e9 : g8 204 a1 = a2 := jup_s eg8
        have hs10 : g8 204 a1 = a2 := by
          exact jup_s eg8
        have hs11 : ∀ i k : Int, 204 ≤ i → i ≤ 204 → ¬ (i = 204 ∧ k = a1) → g8 i k = h i k := fun i k p1 p2 p3 => (jup_o eg8 (by first | exact fun q => absurd q.1 (by decide) | exact fun q => absurd q.2 (by decide) | omega))
        exact st_r0 (ls := []) ⟨rfl, rfl, fg8, v6, rfl, (by omega), (by unfold P_X12_growth; first | exact Or.inr (Or.inr (Or.inr ⟨by omega, ⟨hs10, hs11⟩⟩)))⟩
      · replace c5 : 9 < a2 := by first | exact c5 | exact Int.not_le.mp c5 | exact Int.not_lt.mp c5 | exact Decidable.not_not.mp c5
        refine st_cv (na := 1) (st := [.inl (-6), .inr (.inr (.inl 176))]) jo_176 rfl rfl rfl (c_X12_refuse (-6) h (by omega)) rfl ?_
        rintro _ _ g13 ⟨rfl, ft12, t12, rfl, ht12, zt12⟩ kt12
        replace kt12 : -2147483648 ≤ t12 ∧ t12 ≤ 2147483647 := kt12
        replace ht12 : -7 ≤ t12 ∧ t12 ≤ -1 := ht12
        have fg13 : jfr w_X12_growth h g13 := jfr_tr f0 ft12 ws_X12_refuse__X12_growth
        replace zt12 : t12 = (-6 : Int) := zt12
        have hs14 : ∀ i k : Int, 204 ≤ i → i ≤ 204 → g13 i k = h i k := fun i k p1 p2 => (ft12 i k (by unfold w_X12_refuse; omega))
        exact st_r0 (ls := []) ⟨rfl, rfl, fg13, t12, rfl, (by omega), (by unfold P_X12_growth; by_cases zz : t12 = -4 <;> first | exact Or.inl ⟨by omega, hs14⟩ | exact Or.inr (Or.inl ⟨by omega, hs14⟩) | exact Or.inr (Or.inr (Or.inl ⟨by omega, hs14⟩)))⟩
    · replace c4 : a2 < 0 := by first | exact c4 | exact Int.not_le.mp c4 | exact Int.not_lt.mp c4 | exact Decidable.not_not.mp c4
      refine st_cv (na := 1) (st := [.inl (-4), .inr (.inr (.inl 176))]) jo_176 rfl rfl rfl (c_X12_refuse (-4) h (by omega)) rfl ?_
      rintro _ _ g16 ⟨rfl, ft15, t15, rfl, ht15, zt15⟩ kt15
      replace kt15 : -2147483648 ≤ t15 ∧ t15 ≤ 2147483647 := kt15
      replace ht15 : -7 ≤ t15 ∧ t15 ≤ -1 := ht15
      have fg16 : jfr w_X12_growth h g16 := jfr_tr f0 ft15 ws_X12_refuse__X12_growth
      replace zt15 : t15 = (-4 : Int) := zt15
      have hs17 : ∀ i k : Int, 204 ≤ i → i ≤ 204 → g16 i k = h i k := fun i k p1 p2 => (ft15 i k (by unfold w_X12_refuse; omega))
      exact st_r0 (ls := []) ⟨rfl, rfl, fg16, t15, rfl, (by omega), (by unfold P_X12_growth; by_cases zz : t15 = -4 <;> first | exact Or.inl ⟨by omega, hs17⟩ | exact Or.inr (Or.inl ⟨by omega, hs17⟩) | exact Or.inr (Or.inr (Or.inl ⟨by omega, hs17⟩)))⟩
  · replace c3 : t1 = 0 := by first | exact c3 | exact Int.not_le.mp c3 | exact Int.not_lt.mp c3 | exact Decidable.not_not.mp c3
    refine st_cv (na := 1) (st := [.inl (-1), .inr (.inr (.inl 176))]) jo_176 rfl rfl rfl (c_X12_refuse (-1) h (by omega)) rfl ?_
    rintro _ _ g19 ⟨rfl, ft18, t18, rfl, ht18, zt18⟩ kt18
    replace kt18 : -2147483648 ≤ t18 ∧ t18 ≤ 2147483647 := kt18
    replace ht18 : -7 ≤ t18 ∧ t18 ≤ -1 := ht18
    have fg19 : jfr w_X12_growth h g19 := jfr_tr f0 ft18 ws_X12_refuse__X12_growth
    replace zt18 : t18 = (-1 : Int) := zt18
    have hs20 : ∀ i k : Int, 204 ≤ i → i ≤ 204 → g19 i k = h i k := fun i k p1 p2 => (ft18 i k (by unfold w_X12_refuse; omega))
    exact st_r0 (ls := []) ⟨rfl, rfl, fg19, t18, rfl, (by omega), (by unfold P_X12_growth; by_cases zz : t18 = -4 <;> first | exact Or.inl ⟨by omega, hs20⟩ | exact Or.inr (Or.inl ⟨by omega, hs20⟩) | exact Or.inr (Or.inr (Or.inl ⟨by omega, hs20⟩)))⟩

def w_X3_plant (i k : Int) : Prop := (85 ≤ i ∧ i ≤ 89) ∨ (i = 84 ∧ k = 0)
def k_X3_plant (a1 : Int) (a2 : Int) (a3 : Int) (h : JH) (v : Option JV) (r' g : JH) : Prop := r' = jr0 ∧ jfr w_X3_plant h g ∧ ∃ x : Int, v = some (.inl x) ∧ (0 ≤ x ∧ x ≤ 39) ∧ (((∀ t : Int, g 87 t = h 87 t ∨ (1 ≤ g 87 t ∧ g 87 t ≤ 500)) ∧ x = h 84 0 ∧ g 84 0 = h 84 0 + 1) ∧ jSx g (jup (jup (jup (jup (jup (jup h 85 (h 84 0) a1) 86 (h 84 0) a2) 87 (h 84 0) a3) 88 (h 84 0) (-9)) 89 (h 84 0) (-9)) 84 0 (h 84 0 + 1)))
set_option maxHeartbeats 4000000 in
theorem c_X3_plant {E : JE} {l : Launch} (a1 : Int) (a2 : Int) (a3 : Int) (h : JH) (p1 : 0 ≤ a1 ∧ a1 ≤ 2) (p2 : -9 ≤ a2 ∧ a2 ≤ 9) (p3 : 1 ≤ a3 ∧ a3 ≤ 500) (q0 : h 84 0 ≤ 39) : jMt E l 100 [.inr (.inr (.inl 84)), .inl a1, .inl a2, .inl a3] 229 jr0 h (k_X3_plant a1 a2 a3 h) := by
  refine jMt0 (nL := 4) (ls := [.inr (.inr (.inl 84)), .inl a1, .inl a2, .inl a3]) (by decide +kernel) (by decide +kernel) (by decide +kernel) rfl rfl ?_
  have f0 : jfr w_X3_plant h h := jfr_rf _ _
  refine jGo_blk qX3_plant_0 ?_
  refine st_gr jo_84 jr_84_1 ?_
  refine st_gi jo_84 (fun v1 ev1 b2 => ?_)
  replace ev1 : v1 = h 84 0 := ev1
  replace b2 := (jbf_3_0 jo_84 _).1 b2
  refine st_si jo_85 (show 0 ≤ v1 by omega) (show v1 < ((40 : Nat) : Int) by omega) (fun hx => (jba_85 _ _).2 (show 0 ≤ a1 ∧ a1 ≤ 2 by omega)) (fun g3 eg3 => ?_)
  replace eg3 : g3 = jup h 85 v1 a1 := eg3
  have fg3 : jfr w_X3_plant h g3 := jfr_up f0 eg3 (by unfold w_X3_plant; omega)
  have e4 : g3 85 v1 = a1 := jup_s eg3
  refine st_gr jo_84 jr_84_2 ?_
  refine st_gi jo_84 (fun v5 ev5 b6 => ?_)
  replace ev5 : v5 = g3 84 0 := ev5
  replace b6 := (jbf_3_0 jo_84 _).1 b6
  have e7 : g3 84 0 = h 84 0 := jup_o eg3 (by first | exact fun q => absurd q.1 (by decide) | exact fun q => absurd q.2 (by decide) | omega)
  refine st_si jo_86 (show 0 ≤ v5 by omega) (show v5 < ((40 : Nat) : Int) by omega) (fun hx => (jba_86 _ _).2 (show -9 ≤ a2 ∧ a2 ≤ 9 by omega)) (fun g8 eg8 => ?_)
  replace eg8 : g8 = jup g3 86 v5 a2 := eg8
  have fg8 : jfr w_X3_plant h g8 := jfr_up fg3 eg8 (by unfold w_X3_plant; omega)
  have e9 : g8 86 v5 = a2 := jup_s eg8
  refine st_gr jo_84 jr_84_3 ?_
  refine st_gi jo_84 (fun v10 ev10 b11 => ?_)
  replace ev10 : v10 = g8 84 0 := ev10
  replace b11 := (jbf_3_0 jo_84 _).1 b11
  have e12 : g8 84 0 = g3 84 0 := jup_o eg8 (by first | exact fun q => absurd q.1 (by decide) | exact fun q => absurd q.2 (by decide) | omega)
  refine st_si jo_87 (show 0 ≤ v10 by omega) (show v10 < ((40 : Nat) : Int) by omega) (fun hx => (jba_87 _ _).2 hx) (fun g13 eg13 => ?_)
  replace eg13 : g13 = jup g8 87 v10 a3 := eg13
  have fg13 : jfr w_X3_plant h g13 := jfr_up fg8 eg13 (by unfold w_X3_plant; omega)
  have e14 : g13 87 v10 = a3 := jup_s eg13
  refine st_gr jo_84 jr_84_4 ?_
  refine st_gi jo_84 (fun v15 ev15 b16 => ?_)
  replace ev15 : v15 = g13 84 0 := ev15
  replace b16 := (jbf_3_0 jo_84 _).1 b16
  have e17 : g13 84 0 = g8 84 0 := jup_o eg13 (by first | exact fun q => absurd q.1 (by decide) | exact fun q => absurd q.2 (by decide) | omega)
  refine st_si jo_88 (show 0 ≤ v15 by omega) (show v15 < ((40 : Nat) : Int) by omega) (fun hx => (jba_88 _ _).2 (show -9 ≤ (-9) ∧ (-9) ≤ 15 by omega)) (fun g18 eg18 => ?_)
  replace eg18 : g18 = jup g13 88 v15 (-9) := eg18
  have fg18 : jfr w_X3_plant h g18 := jfr_up fg13 eg18 (by unfold w_X3_plant; omega)
  have e19 : g18 88 v15 = (-9) := jup_s eg18
  refine st_gr jo_84 jr_84_5 ?_
  refine st_gi jo_84 (fun v20 ev20 b21 => ?_)
  replace ev20 : v20 = g18 84 0 := ev20
  replace b21 := (jbf_3_0 jo_84 _).1 b21
  have e22 : g18 84 0 = g13 84 0 := jup_o eg18 (by first | exact fun q => absurd q.1 (by decide) | exact fun q => absurd q.2 (by decide) | omega)
  refine st_si jo_89 (show 0 ≤ v20 by omega) (show v20 < ((40 : Nat) : Int) by omega) (fun hx => (jba_89 _ _).2 (show -9 ≤ (-9) ∧ (-9) ≤ 5 by omega)) (fun g23 eg23 => ?_)
  replace eg23 : g23 = jup g18 89 v20 (-9) := eg23
  have fg23 : jfr w_X3_plant h g23 := jfr_up fg18 eg23 (by unfold w_X3_plant; omega)
  have e24 : g23 89 v20 = (-9) := jup_s eg23
  refine st_gi jo_84 (fun v25 ev25 b26 => ?_)
  replace ev25 : v25 = g23 84 0 := ev25
  replace b26 := (jbf_3_0 jo_84 _).1 b26
  have e27 : g23 84 0 = g18 84 0 := jup_o eg23 (by first | exact fun q => absurd q.1 (by decide) | exact fun q => absurd q.2 (by decide) | omega)
  have e28 : jw32 (v25 + 1) = v25 + 1 := jzj32 (by omega)
  refine st_pi jo_84 (fun hx => (jbf_3_0 jo_84 _).2 (show 0 ≤ jw32 (v25 + 1) ∧ jw32 (v25 + 1) ≤ 40 by omega)) (fun g29 eg29 => ?_)
  replace eg29 : g29 = jup g23 84 0 (jw32 (v25 + 1)) := eg29
  have fg29 : jfr w_X3_plant h g29 := jfr_up fg23 eg29 (by unfold w_X3_plant; omega)
  have e30 : g29 84 0 = jw32 (v25 + 1) := jup_s eg29
  refine st_gi jo_84 (fun v31 ev31 b32 => ?_)
  replace ev31 : v31 = g29 84 0 := ev31
  replace b32 := (jbf_3_0 jo_84 _).1 b32
  have e33 : jw32 (v31 - 1) = v31 - 1 := jzj32 (by omega)
  have hp34 : ∀ t : Int, g29 87 t = h 87 t ∨ (1 ≤ g29 87 t ∧ g29 87 t ≤ 500) := by
    intro t
    rw [jup_o eg29 (by first | exact fun q => absurd q.1 (by decide) | exact fun q => absurd q.2 (by decide) | omega)]
    rw [jup_o eg23 (by first | exact fun q => absurd q.1 (by decide) | exact fun q => absurd q.2 (by decide) | omega)]
    rw [jup_o eg18 (by first | exact fun q => absurd q.1 (by decide) | exact fun q => absurd q.2 (by decide) | omega)]
    by_cases q : t = v10
    · subst q; rw [jup_s eg13]; exact Or.inr ⟨by omega, by omega⟩
    rw [jup_o eg13 (by first | exact fun q => absurd q.1 (by decide) | exact fun q => absurd q.2 (by decide) | omega)]
    rw [jup_o eg8 (by first | exact fun q => absurd q.1 (by decide) | exact fun q => absurd q.2 (by decide) | omega)]
    rw [jup_o eg3 (by first | exact fun q => absurd q.1 (by decide) | exact fun q => absurd q.2 (by decide) | omega)]
    exact Or.inl rfl
  have e35 : g3 84 0 = h 84 0 := (jup_o eg3 (by first | exact fun q => absurd q.1 (by decide) | exact fun q => absurd q.2 (by decide) | omega))
  have e36 : g8 84 0 = h 84 0 := ((jup_o eg8 (by first | exact fun q => absurd q.1 (by decide) | exact fun q => absurd q.2 (by decide) | omega)).trans (jup_o eg3 (by first | exact fun q => absurd q.1 (by decide) | exact fun q => absurd q.2 (by decide) | omega)))
  have e37 : g13 84 0 = h 84 0 := ((jup_o eg13 (by first | exact fun q => absurd q.1 (by decide) | exact fun q => absurd q.2 (by decide) | omega)).trans ((jup_o eg8 (by first | exact fun q => absurd q.1 (by decide) | exact fun q => absurd q.2 (by decide) | omega)).trans (jup_o eg3 (by first | exact fun q => absurd q.1 (by decide) | exact fun q => absurd q.2 (by decide) | omega))))
  have e38 : g18 84 0 = h 84 0 := ((jup_o eg18 (by first | exact fun q => absurd q.1 (by decide) | exact fun q => absurd q.2 (by decide) | omega)).trans ((jup_o eg13 (by first | exact fun q => absurd q.1 (by decide) | exact fun q => absurd q.2 (by decide) | omega)).trans ((jup_o eg8 (by first | exact fun q => absurd q.1 (by decide) | exact fun q => absurd q.2 (by decide) | omega)).trans (jup_o eg3 (by first | exact fun q => absurd q.1 (by decide) | exact fun q => absurd q.2 (by decide) | omega)))))
  have e39 : g23 84 0 = h 84 0 := ((jup_o eg23 (by first | exact fun q => absurd q.1 (by decide) | exact fun q => absurd q.2 (by decide) | omega)).trans ((jup_o eg18 (by first | exact fun q => absurd q.1 (by decide) | exact fun q => absurd q.2 (by decide) | omega)).trans ((jup_o eg13 (by first | exact fun q => absurd q.1 (by decide) | exact fun q => absurd q.2 (by decide) | omega)).trans ((jup_o eg8 (by first | exact fun q => absurd q.1 (by decide) | exact fun q => absurd q.2 (by decide) | omega)).trans (jup_o eg3 (by first | exact fun q => absurd q.1 (by decide) | exact fun q => absurd q.2 (by decide) | omega))))))
  have hq40 : ∀ i k : Int, ¬ i = 1 → ¬ i = 111 → g29 i k = (jup (jup (jup (jup (jup (jup h 85 (h 84 0) a1) 86 (h 84 0) a2) 87 (h 84 0) a3) 88 (h 84 0) (-9)) 89 (h 84 0) (-9)) 84 0 (h 84 0 + 1)) i k := fun i k p1 p2 => ((congrFun (congrFun eg29 i) k).trans (jup_cc (by omega) (by omega) (by first | rfl | omega | exact congrArg jw32 (by omega)) ((congrFun (congrFun eg23 i) k).trans (jup_cc (by omega) (by omega) (by first | rfl | omega | exact congrArg jw32 (by omega)) ((congrFun (congrFun eg18 i) k).trans (jup_cc (by omega) (by omega) (by first | rfl | omega | exact congrArg jw32 (by omega)) ((congrFun (congrFun eg13 i) k).trans (jup_cc (by omega) (by omega) (by first | rfl | omega | exact congrArg jw32 (by omega)) ((congrFun (congrFun eg8 i) k).trans (jup_cc (by omega) (by omega) (by first | rfl | omega | exact congrArg jw32 (by omega)) ((congrFun (congrFun eg3 i) k).trans (jup_cc (by omega) (by omega) (by first | rfl | omega | exact congrArg jw32 (by omega)) rfl))))))))))))
  exact st_r0 (ls := []) ⟨rfl, rfl, fg29, jw32 (v31 - 1), rfl, (by omega), (by refine ⟨by exact ⟨hp34, by omega, by omega⟩, hq40⟩)⟩

def w_X11_tree (i k : Int) : Prop := (i = 1) ∨ (85 ≤ i ∧ i ≤ 89) ∨ (i = 84 ∧ k = 0)
theorem ws_X11_refused__X11_tree (i k : Int) (q : w_X11_refused i k) : w_X11_tree i k := by
  unfold w_X11_refused at q; unfold w_X11_tree
  exact (Or.inl (by omega))
theorem ws_X3_plant__X11_tree (i k : Int) (q : w_X3_plant i k) : w_X11_tree i k := by
  unfold w_X3_plant at q; unfold w_X11_tree
  rcases q with q | q
  · exact (Or.inr (Or.inl (by omega)))
  · exact (Or.inr (Or.inr (by omega)))
def k_X11_tree (a1 : Int) (a2 : Int) (a3 : Int) (h : JH) (v : Option JV) (r' g : JH) : Prop := r' = jr0 ∧ jfr w_X11_tree h g ∧ ∃ x : Int, v = some (.inl x) ∧ (-7 ≤ x ∧ x ≤ 39) ∧ ((∀ t : Int, g 87 t = h 87 t ∨ (1 ≤ g 87 t ∧ g 87 t ≤ 500)) ∧ P_X11_tree a1 a2 a3 x h g)
set_option maxHeartbeats 4000000 in
theorem c_X11_tree {E : JE} {l : Launch} (a1 : Int) (a2 : Int) (a3 : Int) (h : JH) : jMt E l 101 [.inr (.inr (.inl 0)), .inl a1, .inl a2, .inl a3] 229 jr0 h (k_X11_tree a1 a2 a3 h) := by
  refine jMt0 (nL := 4) (ls := [.inr (.inr (.inl 0)), .inl a1, .inl a2, .inl a3]) (by decide +kernel) (by decide +kernel) (by decide +kernel) rfl rfl ?_
  have f0 : jfr w_X11_tree h h := jfr_rf _ _
  refine jGo_blk qX11_tree_0 ?_
  refine st_cs (na := 2) (st := [.inl 3, .inl a1]) rfl rfl rfl (c_X11_within a1 3 h) rfl ?_
  rintro _ _ _ ⟨rfl, rfl, t1, rfl, ht1, zt1⟩ kt1
  replace kt1 : -2147483648 ≤ t1 ∧ t1 ≤ 2147483647 := kt1
  replace ht1 : 0 ≤ t1 ∧ t1 ≤ 1 := ht1
  replace zt1 : (t1 = 1 ∧ 0 ≤ a1 ∧ a1 < (3 : Int)) ∨ (t1 = 0 ∧ ¬ (0 ≤ a1 ∧ a1 < (3 : Int))) := zt1
  refine And.intro (fun c3 => ?_) (fun c3 => ?_)
  · replace c3 : ¬ t1 = 0 := c3
    show jGo E l 101 229 229 _ 14 [.inr (.inr (.inl 0)), .inl a1, .inl a2, .inl a3] [] 229 jr0 h
    refine jGo_blk qX11_tree_14 ?_
    refine And.intro (fun c4 => ?_) (fun c4 => ?_)
    · replace c4 : a2 < (-9) := c4
      show jGo E l 101 229 229 _ 25 [.inr (.inr (.inl 0)), .inl a1, .inl a2, .inl a3] [] 229 jr0 h
      refine jGo_blk qX11_tree_25 ?_
      refine st_cv (na := 1) (st := [.inl (-4), .inr (.inr (.inl 0))]) jo_0 rfl rfl rfl (c_X11_refused (-4) h (by omega)) rfl ?_
      rintro _ _ g6 ⟨rfl, ft5, t5, rfl, ht5, zt5⟩ kt5
      replace kt5 : -2147483648 ≤ t5 ∧ t5 ≤ 2147483647 := kt5
      replace ht5 : -7 ≤ t5 ∧ t5 ≤ -1 := ht5
      have fg6 : jfr w_X11_tree h g6 := jfr_tr f0 ft5 ws_X11_refused__X11_tree
      replace zt5 : t5 = (-4 : Int) := zt5
      have e7 : g6 84 0 = h 84 0 := ft5 84 0 (by unfold w_X11_refused; omega)
      have hs8 : ∀ i k : Int, ¬ i = 1 → ¬ i = 111 → g6 i k = h i k := fun i k p1 p2 => (ft5 i k (by unfold w_X11_refused; omega))
      exact st_r0 (ls := []) ⟨rfl, rfl, fg6, t5, rfl, (by omega), (by exact ⟨fun t => Or.inl (ft5 87 t (by unfold w_X11_refused; omega)), by unfold P_X11_tree; by_cases zz : t5 = -4 <;> first | exact Or.inl ⟨by omega, hs8⟩ | exact Or.inr (Or.inl ⟨by omega, hs8⟩) | exact Or.inr (Or.inr (Or.inl ⟨by omega, hs8⟩))⟩)⟩
    · replace c4 : (-9) ≤ a2 := by first | exact c4 | exact Int.not_le.mp c4 | exact Int.not_lt.mp c4 | exact Decidable.not_not.mp c4
      refine And.intro (fun c9 => ?_) (fun c9 => ?_)
      · replace c9 : 1 ≤ a3 := c9
        show jGo E l 101 229 229 _ 32 [.inr (.inr (.inl 0)), .inl a1, .inl a2, .inl a3] [] 229 jr0 h
        refine jGo_blk qX11_tree_32 ?_
        refine And.intro (fun c10 => ?_) (fun c10 => ?_)
        · replace c10 : 9 < a2 := c10
          show jGo E l 101 229 229 _ 57 [.inr (.inr (.inl 0)), .inl a1, .inl a2, .inl a3] [] 229 jr0 h
          refine jGo_blk qX11_tree_57 ?_
          refine st_cv (na := 1) (st := [.inl (-6), .inr (.inr (.inl 0))]) jo_0 rfl rfl rfl (c_X11_refused (-6) h (by omega)) rfl ?_
          rintro _ _ g12 ⟨rfl, ft11, t11, rfl, ht11, zt11⟩ kt11
          replace kt11 : -2147483648 ≤ t11 ∧ t11 ≤ 2147483647 := kt11
          replace ht11 : -7 ≤ t11 ∧ t11 ≤ -1 := ht11
          have fg12 : jfr w_X11_tree h g12 := jfr_tr f0 ft11 ws_X11_refused__X11_tree
          replace zt11 : t11 = (-6 : Int) := zt11
          have e13 : g12 84 0 = h 84 0 := ft11 84 0 (by unfold w_X11_refused; omega)
          have hs14 : ∀ i k : Int, ¬ i = 1 → ¬ i = 111 → g12 i k = h i k := fun i k p1 p2 => (ft11 i k (by unfold w_X11_refused; omega))
          exact st_r0 (ls := []) ⟨rfl, rfl, fg12, t11, rfl, (by omega), (by exact ⟨fun t => Or.inl (ft11 87 t (by unfold w_X11_refused; omega)), by unfold P_X11_tree; by_cases zz : t11 = -4 <;> first | exact Or.inl ⟨by omega, hs14⟩ | exact Or.inr (Or.inl ⟨by omega, hs14⟩) | exact Or.inr (Or.inr (Or.inl ⟨by omega, hs14⟩))⟩)⟩
        · replace c10 : a2 ≤ 9 := by first | exact c10 | exact Int.not_le.mp c10 | exact Int.not_lt.mp c10 | exact Decidable.not_not.mp c10
          refine And.intro (fun c15 => ?_) (fun c15 => ?_)
          · replace c15 : 500 < a3 := c15
            show jGo E l 101 229 229 _ 57 [.inr (.inr (.inl 0)), .inl a1, .inl a2, .inl a3] [] 229 jr0 h
            refine jGo_blk qX11_tree_57 ?_
            refine st_cv (na := 1) (st := [.inl (-6), .inr (.inr (.inl 0))]) jo_0 rfl rfl rfl (c_X11_refused (-6) h (by omega)) rfl ?_
            rintro _ _ g17 ⟨rfl, ft16, t16, rfl, ht16, zt16⟩ kt16
            replace kt16 : -2147483648 ≤ t16 ∧ t16 ≤ 2147483647 := kt16
            replace ht16 : -7 ≤ t16 ∧ t16 ≤ -1 := ht16
            have fg17 : jfr w_X11_tree h g17 := jfr_tr f0 ft16 ws_X11_refused__X11_tree
            replace zt16 : t16 = (-6 : Int) := zt16
            have e18 : g17 84 0 = h 84 0 := ft16 84 0 (by unfold w_X11_refused; omega)
            have hs19 : ∀ i k : Int, ¬ i = 1 → ¬ i = 111 → g17 i k = h i k := fun i k p1 p2 => (ft16 i k (by unfold w_X11_refused; omega))
            exact st_r0 (ls := []) ⟨rfl, rfl, fg17, t16, rfl, (by omega), (by exact ⟨fun t => Or.inl (ft16 87 t (by unfold w_X11_refused; omega)), by unfold P_X11_tree; by_cases zz : t16 = -4 <;> first | exact Or.inl ⟨by omega, hs19⟩ | exact Or.inr (Or.inl ⟨by omega, hs19⟩) | exact Or.inr (Or.inr (Or.inl ⟨by omega, hs19⟩))⟩)⟩
          · replace c15 : a3 ≤ 500 := by first | exact c15 | exact Int.not_le.mp c15 | exact Int.not_lt.mp c15 | exact Decidable.not_not.mp c15
            refine st_gr jo_0 jr_0_6 ?_
            refine st_gi jo_84 (fun v20 ev20 b21 => ?_)
            replace ev20 : v20 = h 84 0 := ev20
            replace b21 := (jbf_3_0 jo_84 _).1 b21
            refine And.intro (fun c22 => ?_) (fun c22 => ?_)
            · replace c22 : v20 < 40 := c22
              show jGo E l 101 229 229 _ 64 [.inr (.inr (.inl 0)), .inl a1, .inl a2, .inl a3] [] 229 jr0 h
              refine jGo_blk qX11_tree_64 ?_
              refine st_gr jo_0 jr_0_6 ?_
              refine st_cv (na := 3) (st := [.inl a3, .inl a2, .inl a1, .inr (.inr (.inl 84))]) jo_84 rfl rfl rfl (c_X3_plant a1 a2 a3 h (by omega) (by omega) (by omega) (by omega)) rfl ?_
              rintro _ _ g24 ⟨rfl, ft23, t23, rfl, ht23, zt23⟩ kt23
              replace kt23 : -2147483648 ≤ t23 ∧ t23 ≤ 2147483647 := kt23
              replace ht23 : 0 ≤ t23 ∧ t23 ≤ 39 := ht23
              have fg24 : jfr w_X11_tree h g24 := jfr_tr f0 ft23 ws_X3_plant__X11_tree
              replace zt23 : ((∀ t : Int, g24 87 t = h 87 t ∨ (1 ≤ g24 87 t ∧ g24 87 t ≤ 500)) ∧ t23 = h 84 0 ∧ g24 84 0 = h 84 0 + 1) ∧ jSx g24 (jup (jup (jup (jup (jup (jup h 85 (h 84 0) a1) 86 (h 84 0) a2) 87 (h 84 0) a3) 88 (h 84 0) (-9)) 89 (h 84 0) (-9)) 84 0 (h 84 0 + 1)) := zt23
              exact st_r0 (ls := []) ⟨rfl, rfl, fg24, t23, rfl, (by omega), (by exact ⟨zt23.1.1, by unfold P_X11_tree; exact Or.inr (Or.inr (Or.inr ⟨by omega, by have q9 := zt23.1.2; omega, zt23.2⟩))⟩)⟩
            · replace c22 : 40 ≤ v20 := by first | exact c22 | exact Int.not_le.mp c22 | exact Int.not_lt.mp c22 | exact Decidable.not_not.mp c22
              show jGo E l 101 229 229 _ 57 [.inr (.inr (.inl 0)), .inl a1, .inl a2, .inl a3] [] 229 jr0 h
              refine jGo_blk qX11_tree_57 ?_
              refine st_cv (na := 1) (st := [.inl (-6), .inr (.inr (.inl 0))]) jo_0 rfl rfl rfl (c_X11_refused (-6) h (by omega)) rfl ?_
              rintro _ _ g26 ⟨rfl, ft25, t25, rfl, ht25, zt25⟩ kt25
              replace kt25 : -2147483648 ≤ t25 ∧ t25 ≤ 2147483647 := kt25
              replace ht25 : -7 ≤ t25 ∧ t25 ≤ -1 := ht25
              have fg26 : jfr w_X11_tree h g26 := jfr_tr f0 ft25 ws_X11_refused__X11_tree
              replace zt25 : t25 = (-6 : Int) := zt25
              have e27 : g26 84 0 = h 84 0 := ft25 84 0 (by unfold w_X11_refused; omega)
              have rv28 : v20 = h 84 0 := by omega
              subst rv28
              have hs29 : ∀ i k : Int, ¬ i = 1 → ¬ i = 111 → g26 i k = h i k := fun i k p1 p2 => (ft25 i k (by unfold w_X11_refused; omega))
              exact st_r0 (ls := []) ⟨rfl, rfl, fg26, t25, rfl, (by omega), (by exact ⟨fun t => Or.inl (ft25 87 t (by unfold w_X11_refused; omega)), by unfold P_X11_tree; by_cases zz : t25 = -4 <;> first | exact Or.inl ⟨by omega, hs29⟩ | exact Or.inr (Or.inl ⟨by omega, hs29⟩) | exact Or.inr (Or.inr (Or.inl ⟨by omega, hs29⟩))⟩)⟩
      · replace c9 : a3 < 1 := by first | exact c9 | exact Int.not_le.mp c9 | exact Int.not_lt.mp c9 | exact Decidable.not_not.mp c9
        show jGo E l 101 229 229 _ 25 [.inr (.inr (.inl 0)), .inl a1, .inl a2, .inl a3] [] 229 jr0 h
        refine jGo_blk qX11_tree_25 ?_
        refine st_cv (na := 1) (st := [.inl (-4), .inr (.inr (.inl 0))]) jo_0 rfl rfl rfl (c_X11_refused (-4) h (by omega)) rfl ?_
        rintro _ _ g31 ⟨rfl, ft30, t30, rfl, ht30, zt30⟩ kt30
        replace kt30 : -2147483648 ≤ t30 ∧ t30 ≤ 2147483647 := kt30
        replace ht30 : -7 ≤ t30 ∧ t30 ≤ -1 := ht30
        have fg31 : jfr w_X11_tree h g31 := jfr_tr f0 ft30 ws_X11_refused__X11_tree
        replace zt30 : t30 = (-4 : Int) := zt30
        have e32 : g31 84 0 = h 84 0 := ft30 84 0 (by unfold w_X11_refused; omega)
        have hs33 : ∀ i k : Int, ¬ i = 1 → ¬ i = 111 → g31 i k = h i k := fun i k p1 p2 => (ft30 i k (by unfold w_X11_refused; omega))
        exact st_r0 (ls := []) ⟨rfl, rfl, fg31, t30, rfl, (by omega), (by exact ⟨fun t => Or.inl (ft30 87 t (by unfold w_X11_refused; omega)), by unfold P_X11_tree; by_cases zz : t30 = -4 <;> first | exact Or.inl ⟨by omega, hs33⟩ | exact Or.inr (Or.inl ⟨by omega, hs33⟩) | exact Or.inr (Or.inr (Or.inl ⟨by omega, hs33⟩))⟩)⟩
  · replace c3 : t1 = 0 := by first | exact c3 | exact Int.not_le.mp c3 | exact Int.not_lt.mp c3 | exact Decidable.not_not.mp c3
    refine st_cv (na := 1) (st := [.inl (-1), .inr (.inr (.inl 0))]) jo_0 rfl rfl rfl (c_X11_refused (-1) h (by omega)) rfl ?_
    rintro _ _ g35 ⟨rfl, ft34, t34, rfl, ht34, zt34⟩ kt34
    replace kt34 : -2147483648 ≤ t34 ∧ t34 ≤ 2147483647 := kt34
    replace ht34 : -7 ≤ t34 ∧ t34 ≤ -1 := ht34
    have fg35 : jfr w_X11_tree h g35 := jfr_tr f0 ft34 ws_X11_refused__X11_tree
    replace zt34 : t34 = (-1 : Int) := zt34
    have e36 : g35 84 0 = h 84 0 := ft34 84 0 (by unfold w_X11_refused; omega)
    have hs37 : ∀ i k : Int, ¬ i = 1 → ¬ i = 111 → g35 i k = h i k := fun i k p1 p2 => (ft34 i k (by unfold w_X11_refused; omega))
    exact st_r0 (ls := []) ⟨rfl, rfl, fg35, t34, rfl, (by omega), (by exact ⟨fun t => Or.inl (ft34 87 t (by unfold w_X11_refused; omega)), by unfold P_X11_tree; by_cases zz : t34 = -4 <;> first | exact Or.inl ⟨by omega, hs37⟩ | exact Or.inr (Or.inl ⟨by omega, hs37⟩) | exact Or.inr (Or.inr (Or.inl ⟨by omega, hs37⟩))⟩)⟩
