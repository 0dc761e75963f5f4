def w_X12_match (i k : Int) : Prop := (i = 219) ∨ (221 ≤ i ∧ i ≤ 223) ∨ (i = 176 ∧ 55 ≤ k ∧ k ≤ 58)
theorem ws_X12_findMatch__X12_match (i k : Int) (q : w_X12_findMatch i k) : w_X12_match i k := by
  unfold w_X12_findMatch at q; unfold w_X12_match
  rcases q with q | q
  · exact (Or.inr (Or.inl (by omega)))
  · exact (Or.inr (Or.inr (by omega)))
theorem ws_X12_refuse__X12_match (i k : Int) (q : w_X12_refuse i k) : w_X12_match i k := by
  unfold w_X12_refuse at q; unfold w_X12_match
  exact (Or.inl (by omega))
def k_X12_match (a1 : Int) (a2 : Int) (h : JH) (v : Option JV) (r' g : JH) : Prop := r' = jr0 ∧ jfr w_X12_match h g ∧ ∃ x : Int, v = some (.inl x) ∧ (True) ∧ (P_X12_match a1 a2 x h)
set_option maxHeartbeats 4000000 in
theorem c_X12_match {E : JE} {l : Launch} (a1 : Int) (a2 : Int) (h : JH) (q0 : jM7 h) : jMt E l 119 [.inr (.inr (.inl 176)), .inl a1, .inl a2] 229 jr0 h (k_X12_match a1 a2 h) := by
  refine jMt0 (nL := 3) (ls := [.inr (.inr (.inl 176)), .inl a1, .inl a2]) (by decide +kernel) (by decide +kernel) (by decide +kernel) rfl rfl ?_
  have f0 : jfr w_X12_match h h := jfr_rf _ _
  refine jGo_blk qX12_match_0 ?_
  refine st_cs (na := 3) (st := [.inl 2, .inl 0, .inl a1]) rfl rfl rfl (c_X12_in a1 0 2 h) rfl ?_
  rintro _ _ _ ⟨rfl, rfl, t1, rfl, ht1, zt1⟩ kt1
  replace kt1 : -2147483648 ≤ t1 ∧ t1 ≤ 2147483647 := kt1
  replace ht1 : 0 ≤ t1 ∧ t1 ≤ 1 := ht1
  replace zt1 : (t1 = 1 ∧ (0 : Int) ≤ a1 ∧ a1 ≤ (2 : Int)) ∨ (t1 = 0 ∧ ¬ ((0 : Int) ≤ a1 ∧ a1 ≤ (2 : Int))) := zt1
  refine And.intro (fun c3 => ?_) (fun c3 => ?_)
  · replace c3 : ¬ t1 = 0 := c3
    show jGo E l 119 229 229 _ 15 [.inr (.inr (.inl 176)), .inl a1, .inl a2] [] 229 jr0 h
    refine jGo_blk qX12_match_15 ?_
    refine st_gr jo_176 jr_176_40 ?_
    refine st_ai jo_210 (show 0 ≤ a1 by omega) (show a1 < ((3 : Nat) : Int) by omega) (fun v4 ev4 b5 => ?_)
    replace ev4 : v4 = h 210 a1 := ev4
    replace b5 := (jba_210 a1 _).1 b5
    have e6 : jw32 (1 + v4) = 1 + v4 := jzj32 (by omega)
    refine st_cs (na := 3) (st := [.inl (jw32 (1 + v4)), .inl 0, .inl a2]) rfl rfl rfl (c_X12_in a2 0 (jw32 (1 + v4)) h) rfl ?_
    rintro _ _ _ ⟨rfl, rfl, t7, rfl, ht7, zt7⟩ kt7
    replace kt7 : -2147483648 ≤ t7 ∧ t7 ≤ 2147483647 := kt7
    replace ht7 : 0 ≤ t7 ∧ t7 ≤ 1 := ht7
    replace zt7 : (t7 = 1 ∧ (0 : Int) ≤ a2 ∧ a2 ≤ (jw32 (1 + v4))) ∨ (t7 = 0 ∧ ¬ ((0 : Int) ≤ a2 ∧ a2 ≤ (jw32 (1 + v4)))) := zt7
    refine And.intro (fun c9 => ?_) (fun c9 => ?_)
    · replace c9 : ¬ t7 = 0 := c9
      show jGo E l 119 229 229 _ 38 [.inr (.inr (.inl 176)), .inl a1, .inl a2] [] 229 jr0 h
      refine jGo_blk qX12_match_38 ?_
      refine st_cv (na := 1) (st := [.inl a1, .inr (.inr (.inl 176))]) jo_176 rfl rfl rfl (c_X12_findMatch a1 h (by omega) q0) rfl ?_
      rintro _ _ g11 ⟨rfl, ft10, rfl, zt10⟩ kt10
      have fg11 : jfr w_X12_match h g11 := jfr_tr f0 ft10 ws_X12_findMatch__X12_match
      replace zt10 : jMmP a1 h g11 := zt10
      refine And.intro (fun c12 => ?_) (fun c12 => ?_)
      · replace c12 : ¬ a2 = 0 := c12
        show jGo E l 119 229 229 _ 54 [.inr (.inr (.inl 176)), .inl a1, .inl a2] [] 229 jr0 g11
        refine jGo_blk qX12_match_54 ?_
        refine And.intro (fun c13 => ?_) (fun c13 => ?_)
        · replace c13 : ¬ a2 = 1 := c13
          show jGo E l 119 229 229 _ 66 [.inr (.inr (.inl 176)), .inl a1, .inl a2] [] 229 jr0 g11
          refine jGo_blk qX12_match_66 ?_
          refine st_gr jo_176 jr_176_53 ?_
          have e14 : jw32 (a2 - 2) = a2 - 2 := jzj32 (by omega)
          refine st_ai jo_222 (show 0 ≤ jw32 (a2 - 2) by omega) (show jw32 (a2 - 2) < ((6 : Nat) : Int) by omega) (fun v15 ev15 b16 => ?_)
          replace ev15 : v15 = g11 222 (jw32 (a2 - 2)) := ev15
          replace b16 := (jba_222 (jw32 (a2 - 2)) _).1 b16
          show jGo E l 119 229 229 _ 74 [.inr (.inr (.inl 176)), .inl a1, .inl a2] [.inl v15] 229 jr0 g11
          refine jGo_blk qX12_match_74 ?_
          have hc17 : ∀ d : Nat → Nat, jOp (jmB h a1) (jmOv h a1) (h 176 34).toNat d → v15 = jMx d (jcs (jmOv h a1) d) a2 := by
            intro d op
            obtain ⟨e2, e3, e1⟩ := zt10 d op
            unfold jMx
            have e4 := e1 (a2 - 2).toNat (by omega)
            rw [Int.toNat_of_nonneg (show 0 ≤ a2 - 2 by omega)] at e4
            rw [if_neg (by omega), if_neg (by omega), ← e4, ev15]
            exact congrArg (g11 222) (by omega)
          exact st_r0 (ls := []) ⟨rfl, rfl, fg11, v15, rfl, trivial, (by unfold P_X12_match; exact Or.inr (Or.inr ⟨by omega, by omega, by omega, hc17⟩))⟩
        · replace c13 : a2 = 1 := by first | exact c13 | exact Int.not_le.mp c13 | exact Int.not_lt.mp c13 | exact Decidable.not_not.mp c13
          refine st_gi jo_176 (fun v18 ev18 b19 => ?_)
          replace ev18 : v18 = g11 176 58 := ev18
          replace b19 := (jbf_12_58 jo_176 _).1 b19
          show jGo E l 119 229 229 _ 74 [.inr (.inr (.inl 176)), .inl a1, .inl a2] [.inl v18] 229 jr0 g11
          refine jGo_blk qX12_match_74 ?_
          have hc20 : ∀ d : Nat → Nat, jOp (jmB h a1) (jmOv h a1) (h 176 34).toNat d → v18 = jMx d (jcs (jmOv h a1) d) a2 := by
            intro d op
            obtain ⟨e2, e3, e1⟩ := zt10 d op
            unfold jMx
            rw [if_neg (by omega), if_pos (by omega)]; omega
          exact st_r0 (ls := []) ⟨rfl, rfl, fg11, v18, rfl, trivial, (by unfold P_X12_match; exact Or.inr (Or.inr ⟨by omega, by omega, by omega, hc20⟩))⟩
      · replace c12 : a2 = 0 := by first | exact c12 | exact Int.not_le.mp c12 | exact Int.not_lt.mp c12 | exact Decidable.not_not.mp c12
        refine st_gi jo_176 (fun v21 ev21 b22 => ?_)
        replace ev21 : v21 = g11 176 57 := ev21
        replace b22 := (jbf_12_57 jo_176 _).1 b22
        show jGo E l 119 229 229 _ 74 [.inr (.inr (.inl 176)), .inl a1, .inl a2] [.inl v21] 229 jr0 g11
        refine jGo_blk qX12_match_74 ?_
        have hc23 : ∀ d : Nat → Nat, jOp (jmB h a1) (jmOv h a1) (h 176 34).toNat d → v21 = jMx d (jcs (jmOv h a1) d) a2 := by
          intro d op
          obtain ⟨e2, e3, e1⟩ := zt10 d op
          unfold jMx
          rw [if_pos (by omega)]; omega
        exact st_r0 (ls := []) ⟨rfl, rfl, fg11, v21, rfl, trivial, (by unfold P_X12_match; exact Or.inr (Or.inr ⟨by omega, by omega, by omega, hc23⟩))⟩
    · replace c9 : t7 = 0 := by first | exact c9 | exact Int.not_le.mp c9 | exact Int.not_lt.mp c9 | exact Decidable.not_not.mp c9
      refine st_cv (na := 1) (st := [.inl (-2), .inr (.inr (.inl 176))]) jo_176 rfl rfl rfl (c_X12_refuse (-2) h (by omega)) rfl ?_
      rintro _ _ g25 ⟨rfl, ft24, t24, rfl, ht24, zt24⟩ kt24
      replace kt24 : -2147483648 ≤ t24 ∧ t24 ≤ 2147483647 := kt24
      replace ht24 : -7 ≤ t24 ∧ t24 ≤ -1 := ht24
      have fg25 : jfr w_X12_match h g25 := jfr_tr f0 ft24 ws_X12_refuse__X12_match
      replace zt24 : t24 = (-2 : Int) := zt24
      exact st_r0 (ls := []) ⟨rfl, rfl, fg25, t24, rfl, trivial, (by unfold P_X12_match; by_cases zz : t24 = -1 <;> first | exact Or.inl (by omega) | exact Or.inr (Or.inl (by omega)))⟩
  · replace c3 : t1 = 0 := by first | exact c3 | exact Int.not_le.mp c3 | exact Int.not_lt.mp c3 | exact Decidable.not_not.mp c3
    refine st_cv (na := 1) (st := [.inl (-1), .inr (.inr (.inl 176))]) jo_176 rfl rfl rfl (c_X12_refuse (-1) h (by omega)) rfl ?_
    rintro _ _ g27 ⟨rfl, ft26, t26, rfl, ht26, zt26⟩ kt26
    replace kt26 : -2147483648 ≤ t26 ∧ t26 ≤ 2147483647 := kt26
    replace ht26 : -7 ≤ t26 ∧ t26 ≤ -1 := ht26
    have fg27 : jfr w_X12_match h g27 := jfr_tr f0 ft26 ws_X12_refuse__X12_match
    replace zt26 : t26 = (-1 : Int) := zt26
    exact st_r0 (ls := []) ⟨rfl, rfl, fg27, t26, rfl, trivial, (by unfold P_X12_match; by_cases zz : t26 = -1 <;> first | exact Or.inl (by omega) | exact Or.inr (Or.inl (by omega)))⟩

def w_X3_fellFor (i k : Int) : Prop := (88 ≤ i ∧ i ≤ 89)
def k_X3_fellFor (a1 : Int) (a2 : Int) (a3 : Int) (h : JH) (v : Option JV) (r' g : JH) : Prop := r' = jr0 ∧ jfr w_X3_fellFor h g ∧ v = none ∧ (g = jup (jup h 88 a1 a2) 89 a1 a3)
set_option maxHeartbeats 4000000 in
theorem c_X3_fellFor {E : JE} {l : Launch} (a1 : Int) (a2 : Int) (a3 : Int) (h : JH) (p1 : 0 ≤ a1 ∧ a1 ≤ 39) (p2 : 0 ≤ a2 ∧ a2 ≤ 15) (p3 : 0 ≤ a3 ∧ a3 ≤ 5) : jMt E l 120 [.inr (.inr (.inl 84)), .inl a1, .inl a2, .inl a3] 229 jr0 h (k_X3_fellFor a1 a2 a3 h) := by
  refine jMt0 (nL := 4) (ls := [.inr (.inr (.inl 84)), .inl a1, .inl a2, .inl a3]) (by decide +kernel) (by decide +kernel) (by decide +kernel) rfl rfl ?_
  have f0 : jfr w_X3_fellFor h h := jfr_rf _ _
  refine jGo_blk qX3_fellFor_0 ?_
  refine st_gr jo_84 jr_84_4 ?_
  refine st_si jo_88 (show 0 ≤ a1 by omega) (show a1 < ((40 : Nat) : Int) by omega) (fun hx => (jba_88 _ _).2 (show -9 ≤ a2 ∧ a2 ≤ 15 by omega)) (fun g1 eg1 => ?_)
  replace eg1 : g1 = jup h 88 a1 a2 := eg1
  have fg1 : jfr w_X3_fellFor h g1 := jfr_up f0 eg1 (by unfold w_X3_fellFor; omega)
  have e2 : g1 88 a1 = a2 := jup_s eg1
  refine st_gr jo_84 jr_84_5 ?_
  refine st_si jo_89 (show 0 ≤ a1 by omega) (show a1 < ((40 : Nat) : Int) by omega) (fun hx => (jba_89 _ _).2 (show -9 ≤ a3 ∧ a3 ≤ 5 by omega)) (fun g3 eg3 => ?_)
  replace eg3 : g3 = jup g1 89 a1 a3 := eg3
  have fg3 : jfr w_X3_fellFor h g3 := jfr_up fg1 eg3 (by unfold w_X3_fellFor; omega)
  have e4 : g3 89 a1 = a3 := jup_s eg3
  exact ⟨rfl, rfl, fg3, rfl, (by subst eg3 eg1; rfl)⟩

def w_X11_fell (i k : Int) : Prop := (i = 1) ∨ (36 ≤ i ∧ i ≤ 83) ∨ (88 ≤ i ∧ i ≤ 89) ∨ (98 ≤ i ∧ i ≤ 100) ∨ (i = 97 ∧ 0 ≤ k ∧ k ≤ 1)
theorem ws_X3_fellFor__X11_fell (i k : Int) (q : w_X3_fellFor i k) : w_X11_fell i k := by
  unfold w_X3_fellFor at q; unfold w_X11_fell
  exact (Or.inr (Or.inr (Or.inl (by omega))))
theorem ws_X11_refused__X11_fell (i k : Int) (q : w_X11_refused i k) : w_X11_fell i k := by
  unfold w_X11_refused at q; unfold w_X11_fell
  exact (Or.inl (by omega))
theorem ws_X6_solve__X11_fell (i k : Int) (q : w_X6_solve i k) : w_X11_fell i k := by
  unfold w_X6_solve at q; unfold w_X11_fell
  rcases q with q | q
  · exact (Or.inr (Or.inr (Or.inr (Or.inl (by omega)))))
  · exact (Or.inr (Or.inr (Or.inr (Or.inr (by omega)))))
def k_X11_fell (a1 : Int) (h : JH) (v : Option JV) (r' g : JH) : Prop := r' = jr0 ∧ jfr w_X11_fell h g ∧ ∃ x : Int, v = some (.inl x) ∧ (True) ∧ ((∀ i k : Int, 36 ≤ i → i ≤ 83 → ¬ k = 10 → g i k = h i k) ∧ P_X11_fell a1 x h g)
set_option maxHeartbeats 4000000 in
theorem c_X11_fell {E : JE} {l : Launch} (a1 : Int) (h : JH) (q0 : jGok h) : jMt E l 121 [.inr (.inr (.inl 0)), .inl a1] 229 jr0 h (k_X11_fell a1 h) := by
  refine jMt0 (nL := 5) (ls := [.inr (.inr (.inl 0)), .inl a1, .inr (.inr (.inr ())), .inr (.inr (.inr ())), .inr (.inr (.inr ()))]) (by decide +kernel) (by decide +kernel) (by decide +kernel) rfl rfl ?_
  have f0 : jfr w_X11_fell h h := jfr_rf _ _
  refine jGo_bd (fun hbf => ?_)
  have key : ∀ N : Nat, (∀ (x3 : Int) (x4 : Int) (g : JH), (0 ≤ a1 ∧ a1 ≤ 15 ∧ 0 ≤ x3 ∧ x3 ≤ 2 ∧ 0 ≤ x4 ∧ x4 ≤ 6) → (∀ i k : Int, 36 ≤ i → i ≤ 83 → ¬ k = 10 → g i k = h i k) → ((jM5 h → ∃ d : Nat → Nat, jOp (jcA h (h (36 + 3 * a1) 0)) (jcO h (h (36 + 3 * a1) 0)) (h 84 0).toNat d ∧ ((∀ i : Nat, (i : Int) < h 92 x3 → g 98 i = if d i = 40 then -9 else (d i : Int)) ∧ g 97 0 = jcn d) ∧ jFl 88 d a1 (x4 : Int).toNat h g)) → (x3 = h (36 + 3 * a1) 0 ∧ 0 ≤ x3 ∧ x3 ≤ 2 ∧ 0 ≤ x4 ∧ x4 ≤ h 92 x3 ∧ h 92 x3 ≤ 6) → (0 ≤ a1 ∧ a1 < h 29 4 ∧ h 29 4 ≤ 16 ∧ (h (36 + 3 * a1) 3 = 0 ∨ h (36 + 3 * a1) 3 = 1) ∧ h (36 + 3 * a1) 10 = 0) → (g (36 + 3 * a1) 10 = 1 ∧ (∀ i : Int, 36 ≤ i → i ≤ 83 → ¬ i = (36 + 3 * a1) → g i 10 = h i 10) ∧ (∀ k : Int, g 92 k = h 92 k)) → jfr w_X11_fell h g → (6 - x4) < (N : Int) → jGo E l 121 229 229 (jRK (k_X11_fell a1 h)) 104 [.inr (.inr (.inl 0)), .inl a1, .inl 0, .inl x3, .inl x4] [] 229 jr0 g) := by
    intro N
    induction N with
    | zero => exact fun _ _ _ hi hx0 hx1 hx2 hx3 hx4 _ hN => absurd hN (by omega)
    | succ N ih =>
      intro x3 x4 g hi hx0 hx1 hx2 hx3 hx4 hf hN
      refine jGo_blk qX11_fell_104 ?_
      refine st_gr jo_0 jr_0_7 ?_
      refine st_gr jo_91 jr_91_0 ?_
      refine st_ai jo_92 (show 0 ≤ x3 by omega) (show x3 < ((3 : Nat) : Int) by omega) (fun v1 ev1 b2 => ?_)
      replace ev1 : v1 = g 92 x3 := ev1
      replace b2 := (jba_92 x3 _).1 b2
      refine And.intro (fun c3 => ?_) (fun c3 => ?_)
      · replace c3 : v1 ≤ x4 := c3
        show jGo E l 121 229 229 _ 159 [.inr (.inr (.inl 0)), .inl a1, .inl 0, .inl x3, .inl x4] [] 229 jr0 g
        refine jGo_blk qX11_fell_159 ?_
        refine st_gr jo_0 jr_0_8 ?_
        refine st_gi jo_97 (fun v4 ev4 b5 => ?_)
        replace ev4 : v4 = g 97 0 := ev4
        replace b5 := (jbf_6_0 jo_97 _).1 b5
        have hc6 : (jM5 h → ∃ d : Nat → Nat, jOp (jcA h (h (36 + 3 * a1) 0)) (jcO h (h (36 + 3 * a1) 0)) (h 84 0).toNat d ∧ (v4 = jcn d) ∧ jFl 88 d a1 6 h g) := by
          intro q9
          obtain ⟨d, op, ⟨e1, e2⟩, e3⟩ := hx1 q9
          have k3 := hx2
          have k4 := hx4.2.2 x3
          refine ⟨d, op, by omega, jFl_e e3 (by omega) (by omega) (fun i p1 p2 => ?_)⟩
          rcases op.1.1 i p2 with z | z
          · exact z
          · have y := (of_decide_eq_true z.2).2.1; rw [← k3.1] at y; omega
        exact st_r0 (ls := []) ⟨rfl, rfl, hf, v4, rfl, trivial, (by refine ⟨fun i k p1 p2 p3 => hx0 i k p1 p2 p3, ?_⟩; unfold P_X11_fell; exact Or.inr (Or.inr ⟨hx3, by omega, by omega, hc6, hx4.1, hx4.2.1⟩))⟩
      · replace c3 : x4 < v1 := by first | exact c3 | exact Int.not_le.mp c3 | exact Int.not_lt.mp c3 | exact Decidable.not_not.mp c3
        refine st_gr jo_0 jr_0_8 ?_
        refine st_gr jo_97 jr_97_2 ?_
        refine st_ai jo_98 (show 0 ≤ x4 by omega) (show x4 < ((6 : Nat) : Int) by omega) (fun v7 ev7 b8 => ?_)
        replace ev7 : v7 = g 98 x4 := ev7
        replace b8 := (jba_98 x4 _).1 b8
        refine And.intro (fun c9 => ?_) (fun c9 => ?_)
        · replace c9 : v7 = (-9) := c9
          show jGo E l 121 229 229 _ 153 [.inr (.inr (.inl 0)), .inl a1, .inl 0, .inl x3, .inl x4] [] 229 jr0 g
          refine jGo_blk qX11_fell_153 ?_
          have e10 : jw32 (x4 + 1) = x4 + 1 := jzj32 (by omega)
          show jGo E l 121 229 229 _ 104 [.inr (.inr (.inl 0)), .inl a1, .inl 0, .inl x3, .inl (jw32 (x4 + 1))] [] 229 jr0 g
          have hq11 : ∀ i k : Int, 36 ≤ i → i ≤ 83 → ¬ k = 10 → g i k = h i k := fun i k p1 p2 p3 => hx0 i k p1 p2 p3
          have hc12 : (jM5 h → ∃ d : Nat → Nat, jOp (jcA h (h (36 + 3 * a1) 0)) (jcO h (h (36 + 3 * a1) 0)) (h 84 0).toNat d ∧ ((∀ i : Nat, (i : Int) < h 92 x3 → g 98 i = if d i = 40 then -9 else (d i : Int)) ∧ g 97 0 = jcn d) ∧ jFl 88 d a1 ((jw32 (x4 + 1)) : Int).toNat h g) := by
            intro q9
            obtain ⟨d, op, ⟨e1, e2⟩, e3⟩ := hx1 q9
            have k9 := hx4.2.2 x3
            have k4 := e1 x4.toNat (by omega); rw [Int.toNat_of_nonneg (show 0 ≤ x4 by omega)] at k4
            rw [show jw32 (x4 + 1) = x4 + 1 by omega]
            have k6 : d x4.toNat = 40 := by by_cases z : d x4.toNat = 40; exact z; rw [if_neg z] at k4; omega
            exact ⟨d, op, ⟨e1, e2⟩, jFl_n e3 (by omega) k6⟩
          have hc13 : g (36 + 3 * a1) 10 = 1 ∧ (∀ i : Int, 36 ≤ i → i ≤ 83 → ¬ i = (36 + 3 * a1) → g i 10 = h i 10) ∧ (∀ k : Int, g 92 k = h 92 k) := by
            exact hx4
          exact ih x3 (jw32 (x4 + 1)) g (by omega) (by exact hq11) (by exact hc12) (by have y9 := hx4.2.2 x3; omega) (by exact hx3) (by exact hc13) hf (by omega)
        · replace c9 : ¬ v7 = (-9) := by first | exact c9 | exact Int.not_le.mp c9 | exact Int.not_lt.mp c9 | exact Decidable.not_not.mp c9
          refine st_gr jo_0 jr_0_6 ?_
          refine st_gr jo_0 jr_0_8 ?_
          refine st_gr jo_97 jr_97_2 ?_
          refine st_ai jo_98 (show 0 ≤ x4 by omega) (show x4 < ((6 : Nat) : Int) by omega) (fun v14 ev14 b15 => ?_)
          replace ev14 : v14 = g 98 x4 := ev14
          replace b15 := (jba_98 x4 _).1 b15
          refine st_cv (na := 3) (st := [.inl x4, .inl a1, .inl v14, .inr (.inr (.inl 84))]) jo_84 rfl rfl rfl (c_X3_fellFor v14 a1 x4 g (by omega) (by omega) (by omega)) rfl ?_
          rintro _ _ g17 ⟨rfl, ft16, rfl, zt16⟩ kt16
          have fg17 : jfr w_X11_fell h g17 := jfr_tr hf ft16 ws_X3_fellFor__X11_fell
          replace zt16 : g17 = jup (jup g 88 v14 a1) 89 v14 x4 := zt16
          show jGo E l 121 229 229 _ 153 [.inr (.inr (.inl 0)), .inl a1, .inl 0, .inl x3, .inl x4] [] 229 jr0 g17
          refine jGo_blk qX11_fell_153 ?_
          have e18 : jw32 (x4 + 1) = x4 + 1 := jzj32 (by omega)
          show jGo E l 121 229 229 _ 104 [.inr (.inr (.inl 0)), .inl a1, .inl 0, .inl x3, .inl (jw32 (x4 + 1))] [] 229 jr0 g17
          have hq19 : ∀ i k : Int, 36 ≤ i → i ≤ 83 → ¬ k = 10 → g17 i k = h i k := fun i k p1 p2 p3 => ((ft16 i k (by unfold w_X3_fellFor; omega))).trans (hx0 i k p1 p2 p3)
          have e20 : g17 97 0 = g 97 0 := ft16 97 0 (by unfold w_X3_fellFor; omega)
          have hc21 : (jM5 h → ∃ d : Nat → Nat, jOp (jcA h (h (36 + 3 * a1) 0)) (jcO h (h (36 + 3 * a1) 0)) (h 84 0).toNat d ∧ ((∀ i : Nat, (i : Int) < h 92 x3 → g17 98 i = if d i = 40 then -9 else (d i : Int)) ∧ g17 97 0 = jcn d) ∧ jFl 88 d a1 ((jw32 (x4 + 1)) : Int).toNat h g17) := by
            intro q9
            obtain ⟨d, op, ⟨e1, e2⟩, e3⟩ := hx1 q9
            have k9 := hx4.2.2 x3
            have k4 := e1 x4.toNat (by omega); rw [Int.toNat_of_nonneg (show 0 ≤ x4 by omega)] at k4
            rw [show jw32 (x4 + 1) = x4 + 1 by omega]
            have k6 : (d x4.toNat : Int) = v14 := by by_cases z : d x4.toNat = 40; rw [if_pos z] at k4; omega; rw [if_neg z] at k4; omega
            have k7 : ∀ i k : Int, g17 i k = if i = 89 ∧ k = v14 then x4 else if i = 88 ∧ k = v14 then a1 else g i k := fun i k => by rw [zt16]; rfl
            refine ⟨d, op, ⟨fun i hi => by rw [k7, if_neg (by omega), if_neg (by omega)]; exact e1 i hi, by rw [k7, if_neg (by omega), if_neg (by omega)]; exact e2⟩, jFl_y e3 (by omega) k6 ?_ ?_ (fun t q => ⟨?_, ?_⟩)⟩
            · rw [k7, if_neg (by omega), if_pos (by omega)]
            · rw [k7, if_pos (by omega)]
            · rw [k7, if_neg (by omega), if_neg (by omega)]
            · rw [k7, if_neg (by omega), if_neg (by omega)]
          have hc22 : g17 (36 + 3 * a1) 10 = 1 ∧ (∀ i : Int, 36 ≤ i → i ≤ 83 → ¬ i = (36 + 3 * a1) → g17 i 10 = h i 10) ∧ (∀ k : Int, g17 92 k = h 92 k) := by
            exact ⟨((ft16 (36 + 3 * a1) 10 (by unfold w_X3_fellFor; omega))).trans hx4.1, fun i p1 p2 p3 => ((ft16 i 10 (by unfold w_X3_fellFor; omega))).trans (hx4.2.1 i p1 p2 p3), fun k => ((ft16 92 k (by unfold w_X3_fellFor; omega))).trans (hx4.2.2 k)⟩
          exact ih x3 (jw32 (x4 + 1)) g17 (by omega) (by exact hq19) (by exact hc21) (by have y9 := hx4.2.2 x3; omega) (by exact hx3) (by exact hc22) fg17 (by omega)
  refine jGo_blk qX11_fell_0 ?_
  refine st_cv (na := 1) (st := [.inl a1, .inr (.inr (.inl 0))]) jo_0 rfl rfl rfl (c_X11_isHull a1 h) rfl ?_
  rintro _ _ _ ⟨rfl, rfl, t23, rfl, ht23, zt23⟩ kt23
  replace kt23 : -2147483648 ≤ t23 ∧ t23 ≤ 2147483647 := kt23
  replace ht23 : 0 ≤ t23 ∧ t23 ≤ 1 := ht23
  replace zt23 : (t23 = 1 ∧ 0 ≤ a1 ∧ a1 < h 29 4 ∧ h 29 4 ≤ 16) ∨ (t23 = 0 ∧ ¬ (0 ≤ a1 ∧ a1 < h 29 4)) := zt23
  refine And.intro (fun c25 => ?_) (fun c25 => ?_)
  · replace c25 : ¬ t23 = 0 := c25
    show jGo E l 121 229 229 _ 12 [.inr (.inr (.inl 0)), .inl a1, .inr (.inr (.inr ())), .inr (.inr (.inr ())), .inr (.inr (.inr ()))] [] 229 jr0 h
    refine jGo_blk qX11_fell_12 ?_
    refine st_gr jo_0 jr_0_5 ?_
    refine st_gr jo_29 jr_29_3 ?_
    refine st_ar jo_33 (by decide) (show 0 ≤ a1 by omega) (show a1 < ((16 : Nat) : Int) by omega) (fun u26 eu26 => ?_)
    replace eu26 : u26 = jr0 33 a1 := eu26
    have qu26 : u26 = 36 + 3 * a1 := eu26.trans (jhul_33 a1 (by omega) (by omega)).1
    have hu26 : jHl u26 := by rw [eu26]; exact (jhul_33 a1 (by omega) (by omega)).2
    refine st_cv (na := 0) (st := [.inr (.inr (.inl u26))]) hu26.1 rfl rfl rfl (c_X4_isUnderWay u26 h hu26) rfl ?_
    rintro _ _ _ ⟨rfl, rfl, t27, rfl, ht27, zt27⟩ kt27
    replace kt27 : -2147483648 ≤ t27 ∧ t27 ≤ 2147483647 := kt27
    replace ht27 : 0 ≤ t27 ∧ t27 ≤ 1 := ht27
    replace zt27 : (t27 = 1 ∧ (h u26 3 = 0 ∨ h u26 3 = 1)) ∨ (t27 = 0 ∧ ¬ (h u26 3 = 0 ∨ h u26 3 = 1)) := zt27
    refine And.intro (fun c29 => ?_) (fun c29 => ?_)
    · replace c29 : t27 = 0 := c29
      show jGo E l 121 229 229 _ 42 [.inr (.inr (.inl 0)), .inl a1, .inr (.inr (.inr ())), .inr (.inr (.inr ())), .inr (.inr (.inr ()))] [] 229 jr0 h
      refine jGo_blk qX11_fell_42 ?_
      show jGo E l 121 229 229 _ 48 [.inr (.inr (.inl 0)), .inl a1, .inr (.inr (.inr ())), .inr (.inr (.inr ())), .inr (.inr (.inr ()))] [.inl (-3)] 229 jr0 h
      refine jGo_blk qX11_fell_48 ?_
      refine And.intro (fun c30 => ?_) (fun c30 => ?_)
      · replace c30 : (-3 : Int) = 0 := c30
        exfalso; omega
      · replace c30 : ¬ (-3 : Int) = 0 := by first | exact c30 | exact Int.not_le.mp c30 | exact Int.not_lt.mp c30 | exact Decidable.not_not.mp c30
        refine st_cv (na := 1) (st := [.inl (-3), .inr (.inr (.inl 0))]) jo_0 rfl rfl rfl (c_X11_refused (-3) h (by omega)) rfl ?_
        rintro _ _ g32 ⟨rfl, ft31, t31, rfl, ht31, zt31⟩ kt31
        replace kt31 : -2147483648 ≤ t31 ∧ t31 ≤ 2147483647 := kt31
        replace ht31 : -7 ≤ t31 ∧ t31 ≤ -1 := ht31
        have fg32 : jfr w_X11_fell h g32 := jfr_tr f0 ft31 ws_X11_refused__X11_fell
        replace zt31 : t31 = (-3 : Int) := zt31
        have e33 : h u26 3 = h (36 + 3 * a1) 3 := by rw [qu26]
        have e34 : h u26 10 = h (36 + 3 * a1) 10 := by rw [qu26]
        have hs35 : ∀ i k : Int, ¬ i = 1 → ¬ i = 111 → g32 i k = h i k := fun i k p1 p2 => (ft31 i k (by unfold w_X11_refused; omega))
        have hq36 : ∀ i k : Int, 36 ≤ i → i ≤ 83 → ¬ k = 10 → g32 i k = h i k := fun i k p1 p2 p3 => (ft31 i k (by unfold w_X11_refused; omega))
        exact st_r0 (ls := []) ⟨rfl, rfl, fg32, t31, rfl, trivial, (by refine ⟨by exact hq36, ?_⟩; unfold P_X11_fell; by_cases zz : t31 = -1 <;> first | exact Or.inl ⟨by omega, hs35⟩ | exact Or.inr (Or.inl ⟨by omega, hs35⟩))⟩
    · replace c29 : ¬ t27 = 0 := by first | exact c29 | exact Int.not_le.mp c29 | exact Int.not_lt.mp c29 | exact Decidable.not_not.mp c29
      refine st_gr jo_0 jr_0_5 ?_
      refine st_gr jo_29 jr_29_3 ?_
      refine st_ar jo_33 (by decide) (show 0 ≤ a1 by omega) (show a1 < ((16 : Nat) : Int) by omega) (fun u37 eu37 => ?_)
      replace eu37 : u37 = jr0 33 a1 := eu37
      have qu37 : u37 = 36 + 3 * a1 := eu37.trans (jhul_33 a1 (by omega) (by omega)).1
      have hu37 : jHl u37 := by rw [eu37]; exact (jhul_33 a1 (by omega) (by omega)).2
      refine st_gi hu37.1 (fun v38 ev38 b39 => ?_)
      replace ev38 : v38 = h u37 10 := ev38
      replace b39 := (jbf_4_10 hu37.1 _).1 b39
      refine And.intro (fun c40 => ?_) (fun c40 => ?_)
      · replace c40 : v38 = 0 := c40
        show jGo E l 121 229 229 _ 47 [.inr (.inr (.inl 0)), .inl a1, .inr (.inr (.inr ())), .inr (.inr (.inr ())), .inr (.inr (.inr ()))] [] 229 jr0 h
        refine jGo_blk qX11_fell_47 ?_
        show jGo E l 121 229 229 _ 48 [.inr (.inr (.inl 0)), .inl a1, .inr (.inr (.inr ())), .inr (.inr (.inr ())), .inr (.inr (.inr ()))] [.inl 0] 229 jr0 h
        refine jGo_blk qX11_fell_48 ?_
        refine And.intro (fun c41 => ?_) (fun c41 => ?_)
        · replace c41 : (0 : Int) = 0 := c41
          show jGo E l 121 229 229 _ 59 [.inr (.inr (.inl 0)), .inl a1, .inl 0, .inr (.inr (.inr ())), .inr (.inr (.inr ()))] [] 229 jr0 h
          refine jGo_blk qX11_fell_59 ?_
          refine st_gr jo_0 jr_0_5 ?_
          refine st_gr jo_29 jr_29_3 ?_
          refine st_ar jo_33 (by decide) (show 0 ≤ a1 by omega) (show a1 < ((16 : Nat) : Int) by omega) (fun u42 eu42 => ?_)
          replace eu42 : u42 = jr0 33 a1 := eu42
          have qu42 : u42 = 36 + 3 * a1 := eu42.trans (jhul_33 a1 (by omega) (by omega)).1
          have hu42 : jHl u42 := by rw [eu42]; exact (jhul_33 a1 (by omega) (by omega)).2
          refine st_pi hu42.1 (fun hx => (jbf_4_10 hu42.1 _).2 (show 0 ≤ 1 ∧ 1 ≤ 1 by omega)) (fun g43 eg43 => ?_)
          replace eg43 : g43 = jup h u42 10 1 := eg43
          have fg43 : jfr w_X11_fell h g43 := jfr_up f0 eg43 (by unfold w_X11_fell; omega)
          have e44 : g43 u42 10 = 1 := jup_s eg43
          refine st_gr jo_0 jr_0_5 ?_
          refine st_gr jo_29 jr_29_3 ?_
          refine st_ar jo_33 (by decide) (show 0 ≤ a1 by omega) (show a1 < ((16 : Nat) : Int) by omega) (fun u45 eu45 => ?_)
          replace eu45 : u45 = jr0 33 a1 := eu45
          have qu45 : u45 = 36 + 3 * a1 := eu45.trans (jhul_33 a1 (by omega) (by omega)).1
          have hu45 : jHl u45 := by rw [eu45]; exact (jhul_33 a1 (by omega) (by omega)).2
          refine st_gi hu45.1 (fun v46 ev46 b47 => ?_)
          replace ev46 : v46 = g43 u45 0 := ev46
          replace b47 := (jbf_4_0 hu45.1 _).1 b47
          refine st_gr jo_0 jr_0_8 ?_
          refine st_gr jo_0 jr_0_6 ?_
          refine st_gr jo_0 jr_0_7 ?_
          refine st_cv (na := 3) (st := [.inl v46, .inr (.inr (.inl 91)), .inr (.inr (.inl 84)), .inr (.inr (.inl 97))]) jo_97 rfl rfl rfl (c_X6_solve v46 g43 (by omega) (jGok_fr q0 (fun s => fg43 87 s (by unfold w_X11_fell; omega)))) rfl ?_
          rintro _ _ g49 ⟨rfl, ft48, rfl, zt48⟩ kt48
          have fg49 : jfr w_X11_fell h g49 := jfr_tr fg43 ft48 ws_X6_solve__X11_fell
          replace zt48 : jMtP v46 g43 g49 := zt48
          show jGo E l 121 229 229 _ 104 [.inr (.inr (.inl 0)), .inl a1, .inl 0, .inl v46, .inl 0] [] 229 jr0 g49
          have hq50 : ∀ i k : Int, 36 ≤ i → i ≤ 83 → ¬ k = 10 → g49 i k = h i k := fun i k p1 p2 p3 => ((ft48 i k (by unfold w_X6_solve; omega)).trans (jup_o eg43 (by first | exact fun q => absurd q.1 (by decide) | exact fun q => absurd q.2 (by decide) | omega)))
          have e52 : v46 = h (36 + 3 * a1) 0 := ev46.trans ((jup_o eg43 (by first | exact fun q => absurd q.1 (by decide) | exact fun q => absurd q.2 (by decide) | omega)).trans (congrArg (fun z => h z 0) (by omega)))
          have hc51 : (jM5 h → ∃ d : Nat → Nat, jOp (jcA h (h (36 + 3 * a1) 0)) (jcO h (h (36 + 3 * a1) 0)) (h 84 0).toNat d ∧ ((∀ i : Nat, (i : Int) < h 92 v46 → g49 98 i = if d i = 40 then -9 else (d i : Int)) ∧ g49 97 0 = jcn d) ∧ jFl 88 d a1 (0 : Int).toNat h g49) := by
            intro q9
            have k5 : ∀ i k : Int, 84 ≤ i → i ≤ 96 → g43 i k = h i k := fun i k p1 p2 => jup_o eg43 (by first | exact fun q => absurd q.1 (by decide) | exact fun q => absurd q.2 (by decide) | omega)
            obtain ⟨d, op, e1, e2, e3⟩ := zt48 (jM5_c (fun k => k5 87 k (by decide) (by decide)) (k5 84 0 (by decide) (by decide)) q9)
            rw [k5 84 0 (by decide) (by decide), jcA_c (fun i k p1 p2 => k5 i k (by omega) p2), jcO_c (fun i k p1 p2 => k5 i k (by omega) p2)] at op
            rw [show h (36 + 3 * a1) 0 = v46 by omega]
            exact ⟨d, op, ⟨fun i hi => e1 i (by rw [k5 92 _ (by decide) (by decide)]; exact hi), e2⟩, jFl_0 (fun t => ⟨((ft48 88 t (by unfold w_X6_solve; omega)).trans (jup_o eg43 (by first | exact fun q => absurd q.1 (by decide) | exact fun q => absurd q.2 (by decide) | omega))), ((ft48 (88 + 1) t (by unfold w_X6_solve; omega)).trans (jup_o eg43 (by first | exact fun q => absurd q.1 (by decide) | exact fun q => absurd q.2 (by decide) | omega)))⟩)⟩
          have e53 : h u37 10 = h (36 + 3 * a1) 10 := by rw [qu37]
          have b54 := (jba_92 v46 _).1 (hbf 92 v46)
          have e55 : h u37 10 = h (36 + 3 * a1) 10 := by rw [qu37]
          have e56 : h u26 3 = h (36 + 3 * a1) 3 := by rw [qu26]
          have e57 : h u26 10 = h (36 + 3 * a1) 10 := by rw [qu26]
          have e58 : h u37 3 = h (36 + 3 * a1) 3 := by rw [qu37]
          have e59 : h u37 10 = h (36 + 3 * a1) 10 := by rw [qu37]
          have e60 : h u42 3 = h (36 + 3 * a1) 3 := by rw [qu42]
          have e61 : h u42 10 = h (36 + 3 * a1) 10 := by rw [qu42]
          have e62 : h u45 3 = h (36 + 3 * a1) 3 := by rw [qu45]
          have e63 : h u45 10 = h (36 + 3 * a1) 10 := by rw [qu45]
          have hc64 : g49 (36 + 3 * a1) 10 = 1 ∧ (∀ i : Int, 36 ≤ i → i ≤ 83 → ¬ i = (36 + 3 * a1) → g49 i 10 = h i 10) ∧ (∀ k : Int, g49 92 k = h 92 k) := by
            refine ⟨?_, fun i p1 p2 p3 => (ft48 i 10 (by unfold w_X6_solve; omega)).trans (jup_o eg43 (by first | exact fun q => absurd q.1 (by decide) | exact fun q => absurd q.2 (by decide) | omega)), fun k => (ft48 92 k (by unfold w_X6_solve; omega)).trans (jup_o eg43 (by first | exact fun q => absurd q.1 (by decide) | exact fun q => absurd q.2 (by decide) | omega))⟩
            rw [ft48 (36 + 3 * a1) 10 (by unfold w_X6_solve; omega), show (36 + 3 * a1) = u42 by omega]; exact jup_s eg43
          exact (key 1000000000000) v46 0 g49 (by omega) (by exact hq50) (by exact hc51) (by omega) (by omega) (by exact hc64) fg49 (by omega)
        · replace c41 : ¬ (0 : Int) = 0 := by first | exact c41 | exact Int.not_le.mp c41 | exact Int.not_lt.mp c41 | exact Decidable.not_not.mp c41
          exfalso; omega
      · replace c40 : ¬ v38 = 0 := by first | exact c40 | exact Int.not_le.mp c40 | exact Int.not_lt.mp c40 | exact Decidable.not_not.mp c40
        show jGo E l 121 229 229 _ 42 [.inr (.inr (.inl 0)), .inl a1, .inr (.inr (.inr ())), .inr (.inr (.inr ())), .inr (.inr (.inr ()))] [] 229 jr0 h
        refine jGo_blk qX11_fell_42 ?_
        show jGo E l 121 229 229 _ 48 [.inr (.inr (.inl 0)), .inl a1, .inr (.inr (.inr ())), .inr (.inr (.inr ())), .inr (.inr (.inr ()))] [.inl (-3)] 229 jr0 h
        refine jGo_blk qX11_fell_48 ?_
        refine And.intro (fun c65 => ?_) (fun c65 => ?_)
        · replace c65 : (-3 : Int) = 0 := c65
          exfalso; omega
        · replace c65 : ¬ (-3 : Int) = 0 := by first | exact c65 | exact Int.not_le.mp c65 | exact Int.not_lt.mp c65 | exact Decidable.not_not.mp c65
          refine st_cv (na := 1) (st := [.inl (-3), .inr (.inr (.inl 0))]) jo_0 rfl rfl rfl (c_X11_refused (-3) h (by omega)) rfl ?_
          rintro _ _ g67 ⟨rfl, ft66, t66, rfl, ht66, zt66⟩ kt66
          replace kt66 : -2147483648 ≤ t66 ∧ t66 ≤ 2147483647 := kt66
          replace ht66 : -7 ≤ t66 ∧ t66 ≤ -1 := ht66
          have fg67 : jfr w_X11_fell h g67 := jfr_tr f0 ft66 ws_X11_refused__X11_fell
          replace zt66 : t66 = (-3 : Int) := zt66
          have e68 : h u37 10 = h (36 + 3 * a1) 10 := by rw [qu37]
          have e69 : h u26 3 = h (36 + 3 * a1) 3 := by rw [qu26]
          have e70 : h u26 10 = h (36 + 3 * a1) 10 := by rw [qu26]
          have e71 : h u37 3 = h (36 + 3 * a1) 3 := by rw [qu37]
          have e72 : h u37 10 = h (36 + 3 * a1) 10 := by rw [qu37]
          have hs73 : ∀ i k : Int, ¬ i = 1 → ¬ i = 111 → g67 i k = h i k := fun i k p1 p2 => (ft66 i k (by unfold w_X11_refused; omega))
          have hq74 : ∀ i k : Int, 36 ≤ i → i ≤ 83 → ¬ k = 10 → g67 i k = h i k := fun i k p1 p2 p3 => (ft66 i k (by unfold w_X11_refused; omega))
          exact st_r0 (ls := []) ⟨rfl, rfl, fg67, t66, rfl, trivial, (by refine ⟨by exact hq74, ?_⟩; unfold P_X11_fell; by_cases zz : t66 = -1 <;> first | exact Or.inl ⟨by omega, hs73⟩ | exact Or.inr (Or.inl ⟨by omega, hs73⟩))⟩
  · replace c25 : t23 = 0 := by first | exact c25 | exact Int.not_le.mp c25 | exact Int.not_lt.mp c25 | exact Decidable.not_not.mp c25
    show jGo E l 121 229 229 _ 48 [.inr (.inr (.inl 0)), .inl a1, .inr (.inr (.inr ())), .inr (.inr (.inr ())), .inr (.inr (.inr ()))] [.inl (-1)] 229 jr0 h
    refine jGo_blk qX11_fell_48 ?_
    refine And.intro (fun c75 => ?_) (fun c75 => ?_)
    · replace c75 : (-1 : Int) = 0 := c75
      exfalso; omega
    · replace c75 : ¬ (-1 : Int) = 0 := by first | exact c75 | exact Int.not_le.mp c75 | exact Int.not_lt.mp c75 | exact Decidable.not_not.mp c75
      refine st_cv (na := 1) (st := [.inl (-1), .inr (.inr (.inl 0))]) jo_0 rfl rfl rfl (c_X11_refused (-1) h (by omega)) rfl ?_
      rintro _ _ g77 ⟨rfl, ft76, t76, rfl, ht76, zt76⟩ kt76
      replace kt76 : -2147483648 ≤ t76 ∧ t76 ≤ 2147483647 := kt76
      replace ht76 : -7 ≤ t76 ∧ t76 ≤ -1 := ht76
      have fg77 : jfr w_X11_fell h g77 := jfr_tr f0 ft76 ws_X11_refused__X11_fell
      replace zt76 : t76 = (-1 : Int) := zt76
      have hs78 : ∀ i k : Int, ¬ i = 1 → ¬ i = 111 → g77 i k = h i k := fun i k p1 p2 => (ft76 i k (by unfold w_X11_refused; omega))
      have hq79 : ∀ i k : Int, 36 ≤ i → i ≤ 83 → ¬ k = 10 → g77 i k = h i k := fun i k p1 p2 p3 => (ft76 i k (by unfold w_X11_refused; omega))
      exact st_r0 (ls := []) ⟨rfl, rfl, fg77, t76, rfl, trivial, (by refine ⟨by exact hq79, ?_⟩; unfold P_X11_fell; by_cases zz : t76 = -1 <;> first | exact Or.inl ⟨by omega, hs78⟩ | exact Or.inr (Or.inl ⟨by omega, hs78⟩))⟩

def w_X12_fell (i k : Int) : Prop := (i = 201) ∨ (208 ≤ i ∧ i ≤ 209) ∨ (i = 219) ∨ (221 ≤ i ∧ i ≤ 223) ∨ (i = 176 ∧ 55 ≤ k ∧ k ≤ 58)
theorem ws_X12_refuse__X12_fell (i k : Int) (q : w_X12_refuse i k) : w_X12_fell i k := by
  unfold w_X12_refuse at q; unfold w_X12_fell
  exact (Or.inr (Or.inr (Or.inl (by omega))))
theorem ws_X12_findMatch__X12_fell (i k : Int) (q : w_X12_findMatch i k) : w_X12_fell i k := by
  unfold w_X12_findMatch at q; unfold w_X12_fell
  rcases q with q | q
  · exact (Or.inr (Or.inr (Or.inr (Or.inl (by omega)))))
  · exact (Or.inr (Or.inr (Or.inr (Or.inr (by omega)))))
def k_X12_fell (a1 : Int) (h : JH) (v : Option JV) (r' g : JH) : Prop := r' = jr0 ∧ jfr w_X12_fell h g ∧ ∃ x : Int, v = some (.inl x) ∧ (True) ∧ (P_X12_fell a1 x h g)
set_option maxHeartbeats 4000000 in
theorem c_X12_fell {E : JE} {l : Launch} (a1 : Int) (h : JH) (q0 : jM7 h) : jMt E l 122 [.inr (.inr (.inl 176)), .inl a1] 229 jr0 h (k_X12_fell a1 h) := by
  refine jMt0 (nL := 3) (ls := [.inr (.inr (.inl 176)), .inl a1, .inr (.inr (.inr ()))]) (by decide +kernel) (by decide +kernel) (by decide +kernel) rfl rfl ?_
  have f0 : jfr w_X12_fell h h := jfr_rf _ _
  have key : ∀ N : Nat, (∀ (x2 : Int) (g : JH), (0 ≤ a1 ∧ a1 ≤ 15 ∧ 0 ≤ x2 ∧ x2 ≤ 6) → ((∀ d : Nat → Nat, jOp (jmB h (h 189 a1)) (jmOv h (h 189 a1)) (h 176 34).toNat d → ((∀ q : Nat, q < 6 → g 222 q = if d q = 40 then -9 else (d q : Int)) ∧ g 176 57 = jcn d) ∧ jFl 208 d a1 (x2 : Int).toNat h g)) → (0 ≤ a1 ∧ a1 < h 176 14 ∧ h 176 14 ≤ 16 ∧ h 192 a1 ≤ 1 ∧ h 201 a1 = 0 ∧ 0 ≤ x2 ∧ x2 ≤ 6) → (g 201 a1 = 1 ∧ ∀ k : Int, ¬ k = a1 → g 201 k = h 201 k) → jfr w_X12_fell h g → (6 - x2) < (N : Int) → jGo E l 122 229 229 (jRK (k_X12_fell a1 h)) 59 [.inr (.inr (.inl 176)), .inl a1, .inl x2] [] 229 jr0 g) := by
    intro N
    induction N with
    | zero => exact fun _ _ hi hx0 hx1 hx2 _ hN => absurd hN (by omega)
    | succ N ih =>
      intro x2 g hi hx0 hx1 hx2 hf hN
      refine jGo_blk qX12_fell_59 ?_
      refine And.intro (fun c1 => ?_) (fun c1 => ?_)
      · replace c1 : 6 ≤ x2 := c1
        show jGo E l 122 229 229 _ 104 [.inr (.inr (.inl 176)), .inl a1, .inl x2] [] 229 jr0 g
        refine jGo_blk qX12_fell_104 ?_
        refine st_gi jo_176 (fun v2 ev2 b3 => ?_)
        replace ev2 : v2 = g 176 57 := ev2
        replace b3 := (jbf_12_57 jo_176 _).1 b3
        exact st_r0 (ls := []) ⟨rfl, rfl, hf, v2, rfl, trivial, (by unfold P_X12_fell; exact Or.inr (Or.inr ⟨by omega, fun d op => ⟨by have q9 := (hx0 d op).1.2; omega, by have q9 := (hx0 d op).2; rw [show x2 = 6 by omega] at q9; exact q9⟩, hx2.1, hx2.2⟩))⟩
      · replace c1 : x2 < 6 := by first | exact c1 | exact Int.not_le.mp c1 | exact Int.not_lt.mp c1 | exact Decidable.not_not.mp c1
        refine st_gr jo_176 jr_176_53 ?_
        refine st_ai jo_222 (show 0 ≤ x2 by omega) (show x2 < ((6 : Nat) : Int) by omega) (fun v4 ev4 b5 => ?_)
        replace ev4 : v4 = g 222 x2 := ev4
        replace b5 := (jba_222 x2 _).1 b5
        refine And.intro (fun c6 => ?_) (fun c6 => ?_)
        · replace c6 : v4 < 0 := c6
          show jGo E l 122 229 229 _ 98 [.inr (.inr (.inl 176)), .inl a1, .inl x2] [] 229 jr0 g
          refine jGo_blk qX12_fell_98 ?_
          have e7 : jw32 (x2 + 1) = x2 + 1 := jzj32 (by omega)
          show jGo E l 122 229 229 _ 59 [.inr (.inr (.inl 176)), .inl a1, .inl (jw32 (x2 + 1))] [] 229 jr0 g
          have hc8 : (∀ d : Nat → Nat, jOp (jmB h (h 189 a1)) (jmOv h (h 189 a1)) (h 176 34).toNat d → ((∀ q : Nat, q < 6 → g 222 q = if d q = 40 then -9 else (d q : Int)) ∧ g 176 57 = jcn d) ∧ jFl 208 d a1 ((jw32 (x2 + 1)) : Int).toNat h g) := by
            intro d op
            obtain ⟨⟨e1, e2⟩, e3⟩ := hx0 d op
            have k4 := e1 x2.toNat (by omega); rw [Int.toNat_of_nonneg (show 0 ≤ x2 by omega)] at k4
            rw [show jw32 (x2 + 1) = x2 + 1 by omega]
            have k6 : d x2.toNat = 40 := by by_cases z : d x2.toNat = 40; exact z; rw [if_neg z] at k4; omega
            exact ⟨⟨e1, e2⟩, jFl_n e3 (by omega) k6⟩
          exact ih (jw32 (x2 + 1)) g (by omega) (by exact hc8) (by omega) (by exact hx2) hf (by omega)
        · replace c6 : 0 ≤ v4 := by first | exact c6 | exact Int.not_le.mp c6 | exact Int.not_lt.mp c6 | exact Decidable.not_not.mp c6
          refine st_gr jo_176 jr_176_38 ?_
          refine st_gr jo_176 jr_176_53 ?_
          refine st_ai jo_222 (show 0 ≤ x2 by omega) (show x2 < ((6 : Nat) : Int) by omega) (fun v10 ev10 b11 => ?_)
          replace ev10 : v10 = g 222 x2 := ev10
          replace b11 := (jba_222 x2 _).1 b11
          refine st_si jo_208 (show 0 ≤ v10 by omega) (show v10 < ((40 : Nat) : Int) by omega) (fun hx => (jba_208 _ _).2 (show -1 ≤ a1 ∧ a1 ≤ 15 by omega)) (fun g12 eg12 => ?_)
          replace eg12 : g12 = jup g 208 v10 a1 := eg12
          have fg12 : jfr w_X12_fell h g12 := jfr_up hf eg12 (by unfold w_X12_fell; omega)
          have e13 : g12 208 v10 = a1 := jup_s eg12
          refine st_gr jo_176 jr_176_39 ?_
          refine st_gr jo_176 jr_176_53 ?_
          refine st_ai jo_222 (show 0 ≤ x2 by omega) (show x2 < ((6 : Nat) : Int) by omega) (fun v14 ev14 b15 => ?_)
          replace ev14 : v14 = g12 222 x2 := ev14
          replace b15 := (jba_222 x2 _).1 b15
          have e16 : g12 222 x2 = g 222 x2 := jup_o eg12 (by first | exact fun q => absurd q.1 (by decide) | exact fun q => absurd q.2 (by decide) | omega)
          refine st_si jo_209 (show 0 ≤ v14 by omega) (show v14 < ((40 : Nat) : Int) by omega) (fun hx => (jba_209 _ _).2 (show -1 ≤ x2 ∧ x2 ≤ 5 by omega)) (fun g17 eg17 => ?_)
          replace eg17 : g17 = jup g12 209 v14 x2 := eg17
          have fg17 : jfr w_X12_fell h g17 := jfr_up fg12 eg17 (by unfold w_X12_fell; omega)
          have e18 : g17 209 v14 = x2 := jup_s eg17
          show jGo E l 122 229 229 _ 98 [.inr (.inr (.inl 176)), .inl a1, .inl x2] [] 229 jr0 g17
          refine jGo_blk qX12_fell_98 ?_
          have e19 : jw32 (x2 + 1) = x2 + 1 := jzj32 (by omega)
          show jGo E l 122 229 229 _ 59 [.inr (.inr (.inl 176)), .inl a1, .inl (jw32 (x2 + 1))] [] 229 jr0 g17
          have e20 : g17 176 57 = g12 176 57 := jup_o eg17 (by first | exact fun q => absurd q.1 (by decide) | exact fun q => absurd q.2 (by decide) | omega)
          have e21 : g12 176 57 = g 176 57 := jup_o eg12 (by first | exact fun q => absurd q.1 (by decide) | exact fun q => absurd q.2 (by decide) | omega)
          have hc22 : (∀ d : Nat → Nat, jOp (jmB h (h 189 a1)) (jmOv h (h 189 a1)) (h 176 34).toNat d → ((∀ q : Nat, q < 6 → g17 222 q = if d q = 40 then -9 else (d q : Int)) ∧ g17 176 57 = jcn d) ∧ jFl 208 d a1 ((jw32 (x2 + 1)) : Int).toNat h g17) := by
            intro d op
            obtain ⟨⟨e1, e2⟩, e3⟩ := hx0 d op
            have k4 := e1 x2.toNat (by omega); rw [Int.toNat_of_nonneg (show 0 ≤ x2 by omega)] at k4
            rw [show jw32 (x2 + 1) = x2 + 1 by omega]
            have k8 : v14 = v10 := by omega
            have k6 : (d x2.toNat : Int) = v10 := by by_cases z : d x2.toNat = 40; rw [if_pos z] at k4; omega; rw [if_neg z] at k4; omega
            have k7 : ∀ i k : Int, g17 i k = if i = 209 ∧ k = v10 then x2 else if i = 208 ∧ k = v10 then a1 else g i k := fun i k => by rw [eg17, eg12, k8]; rfl
            refine ⟨⟨fun i hi => by rw [k7, if_neg (by omega), if_neg (by omega)]; exact e1 i hi, by rw [k7, if_neg (by omega), if_neg (by omega)]; exact e2⟩, jFl_y e3 (by omega) k6 ?_ ?_ (fun t q => ⟨?_, ?_⟩)⟩
            · rw [k7, if_neg (by omega), if_pos (by omega)]
            · rw [k7, if_pos (by omega)]
            · rw [k7, if_neg (by omega), if_neg (by omega)]
            · rw [k7, if_neg (by omega), if_neg (by omega)]
          exact ih (jw32 (x2 + 1)) g17 (by omega) (by exact hc22) (by omega) (by exact ⟨(((jup_o eg17 (by first | exact fun q => absurd q.1 (by decide) | exact fun q => absurd q.2 (by decide) | omega)).trans (jup_o eg12 (by first | exact fun q => absurd q.1 (by decide) | exact fun q => absurd q.2 (by decide) | omega)))).trans hx2.1, fun k q => (((jup_o eg17 (by first | exact fun q => absurd q.1 (by decide) | exact fun q => absurd q.2 (by decide) | omega)).trans (jup_o eg12 (by first | exact fun q => absurd q.1 (by decide) | exact fun q => absurd q.2 (by decide) | omega)))).trans (hx2.2 k q)⟩) fg17 (by omega)
  refine jGo_blk qX12_fell_0 ?_
  refine st_cv (na := 1) (st := [.inl a1, .inr (.inr (.inl 176))]) jo_176 rfl rfl rfl (c_X12_isHull a1 h) rfl ?_
  rintro _ _ _ ⟨rfl, rfl, t24, rfl, ht24, zt24⟩ kt24
  replace kt24 : -2147483648 ≤ t24 ∧ t24 ≤ 2147483647 := kt24
  replace ht24 : 0 ≤ t24 ∧ t24 ≤ 1 := ht24
  replace zt24 : (t24 = 1 ∧ 0 ≤ a1 ∧ a1 < h 176 14 ∧ h 176 14 ≤ 16) ∨ (t24 = 0 ∧ ¬ (0 ≤ a1 ∧ a1 < h 176 14)) := zt24
  refine And.intro (fun c26 => ?_) (fun c26 => ?_)
  · replace c26 : ¬ t24 = 0 := c26
    show jGo E l 122 229 229 _ 14 [.inr (.inr (.inl 176)), .inl a1, .inr (.inr (.inr ()))] [] 229 jr0 h
    refine jGo_blk qX12_fell_14 ?_
    refine st_gr jo_176 jr_176_18 ?_
    refine st_ai jo_192 (show 0 ≤ a1 by omega) (show a1 < ((16 : Nat) : Int) by omega) (fun v27 ev27 b28 => ?_)
    replace ev27 : v27 = h 192 a1 := ev27
    replace b28 := (jba_192 a1 _).1 b28
    refine And.intro (fun c29 => ?_) (fun c29 => ?_)
    · replace c29 : 1 < v27 := c29
      show jGo E l 122 229 229 _ 33 [.inr (.inr (.inl 176)), .inl a1, .inr (.inr (.inr ()))] [] 229 jr0 h
      refine jGo_blk qX12_fell_33 ?_
      refine st_cv (na := 1) (st := [.inl (-3), .inr (.inr (.inl 176))]) jo_176 rfl rfl rfl (c_X12_refuse (-3) h (by omega)) rfl ?_
      rintro _ _ g31 ⟨rfl, ft30, t30, rfl, ht30, zt30⟩ kt30
      replace kt30 : -2147483648 ≤ t30 ∧ t30 ≤ 2147483647 := kt30
      replace ht30 : -7 ≤ t30 ∧ t30 ≤ -1 := ht30
      have fg31 : jfr w_X12_fell h g31 := jfr_tr f0 ft30 ws_X12_refuse__X12_fell
      replace zt30 : t30 = (-3 : Int) := zt30
      have hs32 : ∀ i k : Int, ¬ i = 219 → g31 i k = h i k := fun i k p1 => (ft30 i k (by first | exact p1 | (unfold w_X12_refuse; omega)))
      exact st_r0 (ls := []) ⟨rfl, rfl, fg31, t30, rfl, trivial, (by unfold P_X12_fell; by_cases zz : t30 = -1 <;> first | exact Or.inl ⟨by omega, hs32⟩ | exact Or.inr (Or.inl ⟨by omega, hs32⟩))⟩
    · replace c29 : v27 ≤ 1 := by first | exact c29 | exact Int.not_le.mp c29 | exact Int.not_lt.mp c29 | exact Decidable.not_not.mp c29
      refine st_gr jo_176 jr_176_27 ?_
      refine st_bi jo_201 (show 0 ≤ a1 by omega) (show a1 < ((16 : Nat) : Int) by omega) (fun v33 ev33 b34 => ?_)
      replace ev33 : v33 = h 201 a1 := ev33
      replace b34 := (jba_201 a1 _).1 b34
      refine And.intro (fun c35 => ?_) (fun c35 => ?_)
      · replace c35 : v33 = 0 := c35
        show jGo E l 122 229 229 _ 40 [.inr (.inr (.inl 176)), .inl a1, .inr (.inr (.inr ()))] [] 229 jr0 h
        refine jGo_blk qX12_fell_40 ?_
        refine st_gr jo_176 jr_176_15 ?_
        refine st_ai jo_189 (show 0 ≤ a1 by omega) (show a1 < ((16 : Nat) : Int) by omega) (fun v36 ev36 b37 => ?_)
        replace ev36 : v36 = h 189 a1 := ev36
        replace b37 := (jba_189 a1 _).1 b37
        refine st_cv (na := 1) (st := [.inl v36, .inr (.inr (.inl 176))]) jo_176 rfl rfl rfl (c_X12_findMatch v36 h (by omega) q0) rfl ?_
        rintro _ _ g39 ⟨rfl, ft38, rfl, zt38⟩ kt38
        have fg39 : jfr w_X12_fell h g39 := jfr_tr f0 ft38 ws_X12_findMatch__X12_fell
        replace zt38 : jMmP v36 h g39 := zt38
        refine st_gr jo_176 jr_176_27 ?_
        refine st_sb jo_201 (show 0 ≤ a1 by omega) (show a1 < ((16 : Nat) : Int) by omega) (fun hx => (jba_201 _ _).2 (show 0 ≤ 1 ∧ 1 ≤ 1 by omega)) (fun g40 eg40 => ?_)
        replace eg40 : g40 = jup g39 201 a1 1 := eg40
        have fg40 : jfr w_X12_fell h g40 := jfr_up fg39 eg40 (by unfold w_X12_fell; omega)
        have e41 : g40 201 a1 = 1 := jup_s eg40
        show jGo E l 122 229 229 _ 59 [.inr (.inr (.inl 176)), .inl a1, .inl 0] [] 229 jr0 g40
        have e42 : g40 176 57 = g39 176 57 := jup_o eg40 (by first | exact fun q => absurd q.1 (by decide) | exact fun q => absurd q.2 (by decide) | omega)
        have hc43 : (∀ d : Nat → Nat, jOp (jmB h (h 189 a1)) (jmOv h (h 189 a1)) (h 176 34).toNat d → ((∀ q : Nat, q < 6 → g40 222 q = if d q = 40 then -9 else (d q : Int)) ∧ g40 176 57 = jcn d) ∧ jFl 208 d a1 (0 : Int).toNat h g40) := by
          intro d op
          rw [show h 189 a1 = v36 by omega] at op
          obtain ⟨e2, _, e1⟩ := zt38 d op
          exact ⟨⟨fun q hq => (jup_o eg40 (by first | exact fun q => absurd q.1 (by decide) | exact fun q => absurd q.2 (by decide) | omega)).trans (e1 q (by omega)), (jup_o eg40 (by first | exact fun q => absurd q.1 (by decide) | exact fun q => absurd q.2 (by decide) | omega)).trans e2⟩, jFl_0 (fun t => ⟨((jup_o eg40 (by first | exact fun q => absurd q.1 (by decide) | exact fun q => absurd q.2 (by decide) | omega)).trans (ft38 208 t (by unfold w_X12_findMatch; omega))), ((jup_o eg40 (by first | exact fun q => absurd q.1 (by decide) | exact fun q => absurd q.2 (by decide) | omega)).trans (ft38 (208 + 1) t (by unfold w_X12_findMatch; omega)))⟩)⟩
        exact (key 1000000000000) 0 g40 (by omega) (by exact hc43) (by omega) (by exact ⟨jup_s eg40, fun k q => (jup_o eg40 (by first | exact fun q => absurd q.1 (by decide) | exact fun q => absurd q.2 (by decide) | omega)).trans (ft38 201 k (by unfold w_X12_findMatch; omega))⟩) fg40 (by omega)
      · replace c35 : ¬ v33 = 0 := by first | exact c35 | exact Int.not_le.mp c35 | exact Int.not_lt.mp c35 | exact Decidable.not_not.mp c35
        show jGo E l 122 229 229 _ 33 [.inr (.inr (.inl 176)), .inl a1, .inr (.inr (.inr ()))] [] 229 jr0 h
        refine jGo_blk qX12_fell_33 ?_
        refine st_cv (na := 1) (st := [.inl (-3), .inr (.inr (.inl 176))]) jo_176 rfl rfl rfl (c_X12_refuse (-3) h (by omega)) rfl ?_
        rintro _ _ g46 ⟨rfl, ft45, t45, rfl, ht45, zt45⟩ kt45
        replace kt45 : -2147483648 ≤ t45 ∧ t45 ≤ 2147483647 := kt45
        replace ht45 : -7 ≤ t45 ∧ t45 ≤ -1 := ht45
        have fg46 : jfr w_X12_fell h g46 := jfr_tr f0 ft45 ws_X12_refuse__X12_fell
        replace zt45 : t45 = (-3 : Int) := zt45
        have hs47 : ∀ i k : Int, ¬ i = 219 → g46 i k = h i k := fun i k p1 => (ft45 i k (by first | exact p1 | (unfold w_X12_refuse; omega)))
        exact st_r0 (ls := []) ⟨rfl, rfl, fg46, t45, rfl, trivial, (by unfold P_X12_fell; by_cases zz : t45 = -1 <;> first | exact Or.inl ⟨by omega, hs47⟩ | exact Or.inr (Or.inl ⟨by omega, hs47⟩))⟩
  · replace c26 : t24 = 0 := by first | exact c26 | exact Int.not_le.mp c26 | exact Int.not_lt.mp c26 | exact Decidable.not_not.mp c26
    refine st_cv (na := 1) (st := [.inl (-1), .inr (.inr (.inl 176))]) jo_176 rfl rfl rfl (c_X12_refuse (-1) h (by omega)) rfl ?_
    rintro _ _ g49 ⟨rfl, ft48, t48, rfl, ht48, zt48⟩ kt48
    replace kt48 : -2147483648 ≤ t48 ∧ t48 ≤ 2147483647 := kt48
    replace ht48 : -7 ≤ t48 ∧ t48 ≤ -1 := ht48
    have fg49 : jfr w_X12_fell h g49 := jfr_tr f0 ft48 ws_X12_refuse__X12_fell
    replace zt48 : t48 = (-1 : Int) := zt48
    have hs50 : ∀ i k : Int, ¬ i = 219 → g49 i k = h i k := fun i k p1 => (ft48 i k (by first | exact p1 | (unfold w_X12_refuse; omega)))
    exact st_r0 (ls := []) ⟨rfl, rfl, fg49, t48, rfl, trivial, (by unfold P_X12_fell; by_cases zz : t48 = -1 <;> first | exact Or.inl ⟨by omega, hs50⟩ | exact Or.inr (Or.inl ⟨by omega, hs50⟩))⟩

def k_X3_felledFor (a1 : Int) (a2 : Int) (h : JH) (v : Option JV) (r' g : JH) : Prop := r' = jr0 ∧ h = g ∧ ∃ x : Int, v = some (.inl x) ∧ (-9 ≤ x ∧ x ≤ 39) ∧ (x = jff (h 88) (h 89) a1 a2 (h 84 0).toNat)
set_option maxHeartbeats 4000000 in
theorem c_X3_felledFor {E : JE} {l : Launch} (a1 : Int) (a2 : Int) (h : JH) : jMt E l 123 [.inr (.inr (.inl 84)), .inl a1, .inl a2] 229 jr0 h (k_X3_felledFor a1 a2 h) := by
  refine jMt0 (nL := 4) (ls := [.inr (.inr (.inl 84)), .inl a1, .inl a2, .inr (.inr (.inr ()))]) (by decide +kernel) (by decide +kernel) (by decide +kernel) rfl rfl ?_
  refine jGo_bd (fun hbd => ?_)
  have hb0 := (jbf_3_0 jo_84 _).1 (hbd 84 0)
  have key : ∀ N : Nat, (∀ (x3 : Int), (0 ≤ x3 ∧ x3 ≤ 40) → (jff (h 88) (h 89) a1 a2 (x3).toNat = -9) → (x3 = 0 ∨ x3 ≤ h 84 0) → (40 - x3) < (N : Int) → jGo E l 123 229 229 (jRK (k_X3_felledFor a1 a2 h)) 2 [.inr (.inr (.inl 84)), .inl a1, .inl a2, .inl x3] [] 229 jr0 h) := by
    intro N
    induction N with
    | zero => exact fun _ hi hx0 hx1 hN => absurd hN (by omega)
    | succ N ih =>
      intro x3 hi hx0 hx1 hN
      refine jGo_blk qX3_felledFor_2 ?_
      refine st_gi jo_84 (fun v1 ev1 b2 => ?_)
      replace ev1 : v1 = h 84 0 := ev1
      replace b2 := (jbf_3_0 jo_84 _).1 b2
      refine And.intro (fun c3 => ?_) (fun c3 => ?_)
      · replace c3 : v1 ≤ x3 := c3
        show jGo E l 123 229 229 _ 38 [.inr (.inr (.inl 84)), .inl a1, .inl a2, .inl x3] [] 229 jr0 h
        refine jGo_blk qX3_felledFor_38 ?_
        exact st_r0 (ls := []) ⟨rfl, rfl, rfl, (-9), rfl, (by omega), (by rw [show h 84 0 = x3 by omega]; exact hx0.symm)⟩
      · replace c3 : x3 < v1 := by first | exact c3 | exact Int.not_le.mp c3 | exact Int.not_lt.mp c3 | exact Decidable.not_not.mp c3
        refine st_gr jo_84 jr_84_4 ?_
        refine st_ai jo_88 (show 0 ≤ x3 by omega) (show x3 < ((40 : Nat) : Int) by omega) (fun v4 ev4 b5 => ?_)
        replace ev4 : v4 = h 88 x3 := ev4
        replace b5 := (jba_88 x3 _).1 b5
        refine And.intro (fun c6 => ?_) (fun c6 => ?_)
        · replace c6 : ¬ v4 = a1 := c6
          show jGo E l 123 229 229 _ 32 [.inr (.inr (.inl 84)), .inl a1, .inl a2, .inl x3] [] 229 jr0 h
          refine jGo_blk qX3_felledFor_32 ?_
          have e7 : jw32 (x3 + 1) = x3 + 1 := jzj32 (by omega)
          show jGo E l 123 229 229 _ 2 [.inr (.inr (.inl 84)), .inl a1, .inl a2, .inl (jw32 (x3 + 1))] [] 229 jr0 h
          exact ih (jw32 (x3 + 1)) (by omega) (by rw [show jw32 (x3 + 1) = x3 + 1 by omega]; exact jff_n (by omega) hx0 (fun q9 => by omega)) (by omega) (by omega)
        · replace c6 : v4 = a1 := by first | exact c6 | exact Int.not_le.mp c6 | exact Int.not_lt.mp c6 | exact Decidable.not_not.mp c6
          refine st_gr jo_84 jr_84_5 ?_
          refine st_ai jo_89 (show 0 ≤ x3 by omega) (show x3 < ((40 : Nat) : Int) by omega) (fun v8 ev8 b9 => ?_)
          replace ev8 : v8 = h 89 x3 := ev8
          replace b9 := (jba_89 x3 _).1 b9
          refine And.intro (fun c10 => ?_) (fun c10 => ?_)
          · replace c10 : ¬ v8 = a2 := c10
            show jGo E l 123 229 229 _ 32 [.inr (.inr (.inl 84)), .inl a1, .inl a2, .inl x3] [] 229 jr0 h
            refine jGo_blk qX3_felledFor_32 ?_
            have e11 : jw32 (x3 + 1) = x3 + 1 := jzj32 (by omega)
            show jGo E l 123 229 229 _ 2 [.inr (.inr (.inl 84)), .inl a1, .inl a2, .inl (jw32 (x3 + 1))] [] 229 jr0 h
            exact ih (jw32 (x3 + 1)) (by omega) (by rw [show jw32 (x3 + 1) = x3 + 1 by omega]; exact jff_n (by omega) hx0 (fun q9 => by omega)) (by omega) (by omega)
          · replace c10 : v8 = a2 := by first | exact c10 | exact Int.not_le.mp c10 | exact Int.not_lt.mp c10 | exact Decidable.not_not.mp c10
            exact st_r0 (ls := []) ⟨rfl, rfl, rfl, x3, rfl, (by omega), (by exact jff_y (by omega) (by omega) hx0 ⟨by omega, by omega⟩)⟩
  refine jGo_blk qX3_felledFor_0 ?_
  show jGo E l 123 229 229 _ 2 [.inr (.inr (.inl 84)), .inl a1, .inl a2, .inl 0] [] 229 jr0 h
  exact (key 1000000000000) 0 (by omega) (by rfl) (by omega) (by omega)
