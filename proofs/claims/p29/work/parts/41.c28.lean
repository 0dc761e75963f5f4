def w_X10_letIn_119 (i k : Int) : Prop := (i = 121) ∨ (126 ≤ i ∧ i ≤ 173) ∨ (i = 119 ∧ k = 10)
theorem ws_X10_berth_119__X10_letIn_119 (i k : Int) (q : w_X10_berth_119 i k) : w_X10_letIn_119 i k := by
  unfold w_X10_berth_119 at q; unfold w_X10_letIn_119
  rcases q with q | q | q
  · exact (Or.inl (by omega))
  · exact (Or.inr (Or.inl (by omega)))
  · exact (Or.inr (Or.inr (by omega)))
def k_X10_letIn_119 (h : JH) (v : Option JV) (r' g : JH) : Prop := r' = jr0 ∧ jfr w_X10_letIn_119 h g ∧ v = none ∧ (g = jP2 119 121 126 124 h)
set_option maxHeartbeats 4000000 in
theorem c_X10_letIn_119 {E : JE} {l : Launch} (h : JH) : jMt E l 78 [.inr (.inr (.inl 119)), .inr (.inr (.inl 16))] 229 jr0 h (k_X10_letIn_119 h) := by
  refine jMt0 (nL := 3) (ls := [.inr (.inr (.inl 119)), .inr (.inr (.inl 16)), .inr (.inr (.inr ()))]) (by decide +kernel) (by decide +kernel) (by decide +kernel) rfl rfl ?_
  have f0 : jfr w_X10_letIn_119 h h := jfr_rf _ _
  refine jGo_bd (fun hbd => ?_)
  have hb0 := (jbf_10_6 jo_119 _).1 (hbd 119 6)
  have key : ∀ N : Nat, (∀ (x2 : Int) (g : JH), (0 ≤ x2 ∧ x2 ≤ 16) → (g = jit (jLin 119 121 126 124) (x2).toNat h) → (g 119 6 = h 119 6 ∧ 0 ≤ x2 ∧ x2 ≤ h 119 6) → jfr w_X10_letIn_119 h g → (16 - x2) < (N : Int) → jGo E l 78 229 229 (jRK (k_X10_letIn_119 h)) 2 [.inr (.inr (.inl 119)), .inr (.inr (.inl 16)), .inl x2] [] 229 jr0 g) := by
    intro N
    induction N with
    | zero => exact fun _ _ hi hx0 hx1 _ hN => absurd hN (by omega)
    | succ N ih =>
      intro x2 g hi hx0 hx1 hf hN
      refine jGo_blk qX10_letIn_2 ?_
      refine st_gi jo_119 (fun v1 ev1 b2 => ?_)
      replace ev1 : v1 = g 119 6 := ev1
      replace b2 := (jbf_10_6 jo_119 _).1 b2
      refine And.intro (fun c3 => ?_) (fun c3 => ?_)
      · replace c3 : v1 ≤ x2 := c3
        show jGo E l 78 229 229 _ 55 [.inr (.inr (.inl 119)), .inr (.inr (.inl 16)), .inl x2] [] 229 jr0 g
        refine jGo_blk qX10_letIn_55 ?_
        exact ⟨rfl, rfl, hf, rfl, (by unfold jP2; rw [hx0, show x2 = h 119 6 by omega])⟩
      · replace c3 : x2 < v1 := by first | exact c3 | exact Int.not_le.mp c3 | exact Int.not_lt.mp c3 | exact Decidable.not_not.mp c3
        refine st_gr jo_119 jr_119_1 ?_
        refine st_ai jo_121 (show 0 ≤ 0 by omega) (show 0 < ((6 : Nat) : Int) by omega) (fun v4 ev4 b5 => ?_)
        replace ev4 : v4 = g 121 0 := ev4
        replace b5 := (jba_121 0 _).1 b5
        refine And.intro (fun c6 => ?_) (fun c6 => ?_)
        · replace c6 : ¬ v4 = (-1) := c6
          show jGo E l 78 229 229 _ 55 [.inr (.inr (.inl 119)), .inr (.inr (.inl 16)), .inl x2] [] 229 jr0 g
          refine jGo_blk qX10_letIn_55 ?_
          exact ⟨rfl, rfl, hf, rfl, (by unfold jP2; have q9 : ¬ jit (jLin 119 121 126 124) x2.toNat h 121 0 = -1 := (by rw [← hx0]; omega); rw [hx0]; exact (jLin_stop q9 _ (by omega)).symm)⟩
        · replace c6 : v4 = (-1) := by first | exact c6 | exact Int.not_le.mp c6 | exact Int.not_lt.mp c6 | exact Decidable.not_not.mp c6
          refine st_gr jo_119 jr_119_3 ?_
          refine st_gr jo_119 jr_119_5 ?_
          refine st_ai jo_124 (show 0 ≤ x2 by omega) (show x2 < ((16 : Nat) : Int) by omega) (fun v7 ev7 b8 => ?_)
          replace ev7 : v7 = g 124 x2 := ev7
          replace b8 := (jba_124 x2 _).1 b8
          refine st_ar jo_123 (by decide) (show 0 ≤ v7 by omega) (show v7 < ((16 : Nat) : Int) by omega) (fun u9 eu9 => ?_)
          replace eu9 : u9 = jr0 123 v7 := eu9
          have qu9 : u9 = 126 + 3 * v7 := eu9.trans (jhul_123 v7 (by omega) (by omega)).1
          have hu9 : jHl u9 := by rw [eu9]; exact (jhul_123 v7 (by omega) (by omega)).2
          refine st_gi hu9.1 (fun v10 ev10 b11 => ?_)
          replace ev10 : v10 = g u9 3 := ev10
          replace b11 := (jbf_4_3 hu9.1 _).1 b11
          refine And.intro (fun c12 => ?_) (fun c12 => ?_)
          · replace c12 : ¬ v10 = 0 := c12
            show jGo E l 78 229 229 _ 49 [.inr (.inr (.inl 119)), .inr (.inr (.inl 16)), .inl x2] [] 229 jr0 g
            refine jGo_blk qX10_letIn_49 ?_
            have e13 : jw32 (x2 + 1) = x2 + 1 := jzj32 (by omega)
            show jGo E l 78 229 229 _ 2 [.inr (.inr (.inl 119)), .inr (.inr (.inl 16)), .inl (jw32 (x2 + 1))] [] 229 jr0 g
            exact ih (jw32 (x2 + 1)) g (by omega) (by rw [show jw32 (x2 + 1) = x2 + 1 by omega, jit_s (by omega), ← hx0]; subst ev10 qu9 ev7 ev4 ev1; unfold jLin; (repeat (first | rw [if_pos (by omega)] | rw [if_neg (by omega)])); all_goals ((try rw [e13]); (try rfl))) (by omega) hf (by omega)
          · replace c12 : v10 = 0 := by first | exact c12 | exact Int.not_le.mp c12 | exact Int.not_lt.mp c12 | exact Decidable.not_not.mp c12
            refine st_gr jo_119 jr_119_5 ?_
            refine st_ai jo_124 (show 0 ≤ x2 by omega) (show x2 < ((16 : Nat) : Int) by omega) (fun v14 ev14 b15 => ?_)
            replace ev14 : v14 = g 124 x2 := ev14
            replace b15 := (jba_124 x2 _).1 b15
            refine st_cv (na := 3) (st := [.inr (.inr (.inl 16)), .inl 0, .inl v14, .inr (.inr (.inl 119))]) jo_119 rfl rfl rfl (c_X10_berth_119 v14 0 g (by omega) (by omega)) rfl ?_
            rintro _ _ g17 ⟨rfl, ft16, rfl, zt16⟩ kt16
            have fg17 : jfr w_X10_letIn_119 h g17 := jfr_tr hf ft16 ws_X10_berth_119__X10_letIn_119
            replace zt16 : g17 = jBrt 119 121 126 v14 (0 : Int) g := zt16
            show jGo E l 78 229 229 _ 49 [.inr (.inr (.inl 119)), .inr (.inr (.inl 16)), .inl x2] [] 229 jr0 g17
            refine jGo_blk qX10_letIn_49 ?_
            have e18 : jw32 (x2 + 1) = x2 + 1 := jzj32 (by omega)
            show jGo E l 78 229 229 _ 2 [.inr (.inr (.inl 119)), .inr (.inr (.inl 16)), .inl (jw32 (x2 + 1))] [] 229 jr0 g17
            have e19 : g17 119 6 = g 119 6 := ft16 119 6 (by unfold w_X10_berth_119; omega)
            exact ih (jw32 (x2 + 1)) g17 (by omega) (by rw [show jw32 (x2 + 1) = x2 + 1 by omega, jit_s (by omega), ← hx0]; subst zt16 ev14 ev10 qu9 ev7 ev4 ev1; unfold jLin; (repeat (first | rw [if_pos (by omega)] | rw [if_neg (by omega)])); all_goals ((try rw [e18]); (try rfl))) (by omega) fg17 (by omega)
  refine jGo_blk qX10_letIn_0 ?_
  show jGo E l 78 229 229 _ 2 [.inr (.inr (.inl 119)), .inr (.inr (.inl 16)), .inl 0] [] 229 jr0 h
  exact (key 1000000000000) 0 h (by omega) (by rfl) (by omega) f0 (by omega)

def k_X10_hasAll_119 (a1 : Int) (h : JH) (v : Option JV) (r' g : JH) : Prop := r' = jr0 ∧ h = g ∧ ∃ x : Int, v = some (.inl x) ∧ (0 ≤ x ∧ x ≤ 1) ∧ ((x = 1 ∧ jAl 120 a1 h) ∨ (x = 0 ∧ ¬ jAl 120 a1 h))
set_option maxHeartbeats 4000000 in
theorem c_X10_hasAll_119 {E : JE} {l : Launch} (a1 : Int) (h : JH) (ha1 : jF 229 a1 1 6) : jMt E l 79 [.inr (.inr (.inl 119)), .inr (.inr (.inl a1))] 229 jr0 h (k_X10_hasAll_119 a1 h) := by
  refine jMt0 (nL := 3) (ls := [.inr (.inr (.inl 119)), .inr (.inr (.inl a1)), .inr (.inr (.inr ()))]) (by decide +kernel) (by decide +kernel) (by decide +kernel) rfl rfl ?_
  have key : ∀ N : Nat, (∀ (x2 : Int), (0 ≤ x2 ∧ x2 ≤ 6) → (∀ t : Int, 0 ≤ t → t < x2 → h a1 t ≤ h 120 t) → (6 - x2) < (N : Int) → jGo E l 79 229 229 (jRK (k_X10_hasAll_119 a1 h)) 2 [.inr (.inr (.inl 119)), .inr (.inr (.inl a1)), .inl x2] [] 229 jr0 h) := by
    intro N
    induction N with
    | zero => exact fun _ hi hx0 hN => absurd hN (by omega)
    | succ N ih =>
      intro x2 hi hx0 hN
      refine jGo_blk qX10_hasAll_2 ?_
      refine And.intro (fun c1 => ?_) (fun c1 => ?_)
      · replace c1 : 6 ≤ x2 := c1
        show jGo E l 79 229 229 _ 28 [.inr (.inr (.inl 119)), .inr (.inr (.inl a1)), .inl x2] [] 229 jr0 h
        refine jGo_blk qX10_hasAll_28 ?_
        exact st_r1 (ls := []) (show (1 : Int) = 0 ∨ (1 : Int) = 1 by omega) ⟨rfl, rfl, rfl, 1, rfl, (by omega), (by exact Or.inl ⟨rfl, hx0 0 (by omega) (by omega), hx0 1 (by omega) (by omega), hx0 2 (by omega) (by omega), hx0 3 (by omega) (by omega), hx0 4 (by omega) (by omega), hx0 5 (by omega) (by omega)⟩)⟩
      · replace c1 : x2 < 6 := by first | exact c1 | exact Int.not_le.mp c1 | exact Int.not_lt.mp c1 | exact Decidable.not_not.mp c1
        refine st_gr jo_119 jr_119_0 ?_
        refine st_ai jo_120 (show 0 ≤ x2 by omega) (show x2 < ((6 : Nat) : Int) by omega) (fun v2 ev2 b3 => ?_)
        replace ev2 : v2 = h 120 x2 := ev2
        replace b3 := (jba_120 x2 _).1 b3
        refine st_ai ha1 (show 0 ≤ x2 by omega) (show x2 < ((6 : Nat) : Int) by omega) (fun v4 ev4 b5 => ?_)
        replace ev4 : v4 = h a1 x2 := ev4
        refine And.intro (fun c6 => ?_) (fun c6 => ?_)
        · replace c6 : v4 ≤ v2 := c6
          show jGo E l 79 229 229 _ 22 [.inr (.inr (.inl 119)), .inr (.inr (.inl a1)), .inl x2] [] 229 jr0 h
          refine jGo_blk qX10_hasAll_22 ?_
          have e7 : jw32 (x2 + 1) = x2 + 1 := jzj32 (by omega)
          show jGo E l 79 229 229 _ 2 [.inr (.inr (.inl 119)), .inr (.inr (.inl a1)), .inl (jw32 (x2 + 1))] [] 229 jr0 h
          exact ih (jw32 (x2 + 1)) (by omega) (by exact fun t p1 p2 => (by by_cases z : t = x2; exact (by rw [z]; omega); exact hx0 t p1 (by omega))) (by omega)
        · replace c6 : v2 < v4 := by first | exact c6 | exact Int.not_le.mp c6 | exact Int.not_lt.mp c6 | exact Decidable.not_not.mp c6
          exact st_r1 (ls := []) (show (0 : Int) = 0 ∨ (0 : Int) = 1 by omega) ⟨rfl, rfl, rfl, 0, rfl, (by omega), (by exact Or.inr ⟨rfl, fun q => by obtain ⟨q0, q1, q2, q3, q4, q5⟩ := q; rcases (show x2 = 0 ∨ x2 = 1 ∨ x2 = 2 ∨ x2 = 3 ∨ x2 = 4 ∨ x2 = 5 by omega) with z | z | z | z | z | z <;> subst z <;> omega⟩)⟩
  refine jGo_blk qX10_hasAll_0 ?_
  show jGo E l 79 229 229 _ 2 [.inr (.inr (.inl 119)), .inr (.inr (.inl a1)), .inl 0] [] 229 jr0 h
  exact (key 1000000000000) 0 (by omega) (by exact fun t p1 p2 => absurd p2 (by omega)) (by omega)

def w_X10_takeGoods_119 (i k : Int) : Prop := (i = 120) ∨ (126 ≤ i ∧ i ≤ 173) ∨ (i = 119 ∧ k = 10)
def k_X10_takeGoods_119 (h : JH) (v : Option JV) (r' g : JH) : Prop := r' = jr0 ∧ jfr w_X10_takeGoods_119 h g ∧ v = none ∧ (g = jP3 119 120 126 124 h)
set_option maxHeartbeats 4000000 in
theorem c_X10_takeGoods_119 {E : JE} {l : Launch} (h : JH) : jMt E l 80 [.inr (.inr (.inl 119))] 229 jr0 h (k_X10_takeGoods_119 h) := by
  refine jMt0 (nL := 4) (ls := [.inr (.inr (.inl 119)), .inr (.inr (.inr ())), .inr (.inr (.inr ())), .inr (.inr (.inr ()))]) (by decide +kernel) (by decide +kernel) (by decide +kernel) rfl rfl ?_
  have f0 : jfr w_X10_takeGoods_119 h h := jfr_rf _ _
  refine jGo_bd (fun hbd => ?_)
  have hb0 := (jbf_10_6 jo_119 _).1 (hbd 119 6)
  have key : ∀ N : Nat, (∀ (x1 : Int) (x2 : JV) (x3 : JV) (g : JH), (0 ≤ x1 ∧ x1 ≤ 16) → (g = jit (jTg 119 120 126 124) (x1).toNat h) → (g 119 6 = h 119 6 ∧ 0 ≤ x1 ∧ x1 ≤ h 119 6) → jfr w_X10_takeGoods_119 h g → (16 - x1) * 1000000 + 999999 < (N : Int) → jGo E l 80 229 229 (jRK (k_X10_takeGoods_119 h)) 2 [.inr (.inr (.inl 119)), .inl x1, x2, x3] [] 229 jr0 g) ∧
      (∀ (x1 : Int) (x2 : Int) (x3 : Int) (g : JH), (0 ≤ x1 ∧ x1 ≤ 15 ∧ 126 ≤ x2 ∧ x2 + 2 ≤ 173 ∧ 0 ≤ x3 ∧ x3 ≤ 6) → jHl x2 → (g = jit (jTs 120 (x2 + 1)) (x3).toNat (jit (jTg 119 120 126 124) (x1).toNat h)) → (x2 = 126 + 3 * (jit (jTg 119 120 126 124) (x1).toNat h) 124 x1) → ((jit (jTg 119 120 126 124) (x1).toNat h) x2 3 = 1 ∧ (jit (jTg 119 120 126 124) (x1).toNat h) x2 7 = 0 ∧ jAl 120 (x2 + 1) (jit (jTg 119 120 126 124) (x1).toNat h)) → (g 119 6 = h 119 6 ∧ 0 ≤ x1 ∧ x1 < h 119 6) → jfr w_X10_takeGoods_119 h g → (16 - x1) * 1000000 + (6 - x3) < (N : Int) → jGo E l 80 229 229 (jRK (k_X10_takeGoods_119 h)) 53 [.inr (.inr (.inl 119)), .inl x1, .inr (.inr (.inl x2)), .inl x3] [] 229 jr0 g) := by
    intro N
    induction N with
    | zero => exact ⟨fun _ _ _ _ hi hx0 hx1 _ hN => absurd hN (by omega), fun _ _ _ _ hi _ hx0 hx1 hx2 hx3 _ hN => absurd hN (by omega)⟩
    | succ N ih =>
      refine ⟨?_, ?_⟩
      · intro x1 x2 x3 g hi hx0 hx1 hf hN
        refine jGo_blk qX10_takeGoods_2 ?_
        refine st_gi jo_119 (fun v1 ev1 b2 => ?_)
        replace ev1 : v1 = g 119 6 := ev1
        replace b2 := (jbf_10_6 jo_119 _).1 b2
        refine And.intro (fun c3 => ?_) (fun c3 => ?_)
        · replace c3 : v1 ≤ x1 := c3
          show jGo E l 80 229 229 _ 109 [.inr (.inr (.inl 119)), .inl x1, x2, x3] [] 229 jr0 g
          refine jGo_blk qX10_takeGoods_109 ?_
          exact ⟨rfl, rfl, hf, rfl, (by unfold jP3; rw [hx0, show x1 = h 119 6 by omega])⟩
        · replace c3 : x1 < v1 := by first | exact c3 | exact Int.not_le.mp c3 | exact Int.not_lt.mp c3 | exact Decidable.not_not.mp c3
          refine st_gr jo_119 jr_119_3 ?_
          refine st_gr jo_119 jr_119_5 ?_
          refine st_ai jo_124 (show 0 ≤ x1 by omega) (show x1 < ((16 : Nat) : Int) by omega) (fun v4 ev4 b5 => ?_)
          replace ev4 : v4 = g 124 x1 := ev4
          replace b5 := (jba_124 x1 _).1 b5
          refine st_ar jo_123 (by decide) (show 0 ≤ v4 by omega) (show v4 < ((16 : Nat) : Int) by omega) (fun u6 eu6 => ?_)
          replace eu6 : u6 = jr0 123 v4 := eu6
          have qu6 : u6 = 126 + 3 * v4 := eu6.trans (jhul_123 v4 (by omega) (by omega)).1
          have hu6 : jHl u6 := by rw [eu6]; exact (jhul_123 v4 (by omega) (by omega)).2
          refine And.intro (show u6 ≠ -1 by omega) ?_
          refine st_gi hu6.1 (fun v7 ev7 b8 => ?_)
          replace ev7 : v7 = g u6 3 := ev7
          replace b8 := (jbf_4_3 hu6.1 _).1 b8
          refine And.intro (fun c9 => ?_) (fun c9 => ?_)
          · replace c9 : ¬ v7 = 1 := c9
            show jGo E l 80 229 229 _ 103 [.inr (.inr (.inl 119)), .inl x1, .inr (.inr (.inl u6)), x3] [] 229 jr0 g
            refine jGo_blk qX10_takeGoods_103 ?_
            have e10 : jw32 (x1 + 1) = x1 + 1 := jzj32 (by omega)
            show jGo E l 80 229 229 _ 2 [.inr (.inr (.inl 119)), .inl (jw32 (x1 + 1)), .inr (.inr (.inl u6)), x3] [] 229 jr0 g
            exact ih.1 (jw32 (x1 + 1)) (.inr (.inr (.inl u6))) x3 g (by omega) (by rw [show jw32 (x1 + 1) = x1 + 1 by omega, jit_s (by omega)]; rw [← hx0]; subst ev7 qu6 ev4 ev1; unfold jTg; (repeat (first | rw [if_pos (by omega)] | rw [if_neg (by omega)])); all_goals ((try rw [e10]); (try rfl))) (by omega) hf (by omega)
          · replace c9 : v7 = 1 := by first | exact c9 | exact Int.not_le.mp c9 | exact Int.not_lt.mp c9 | exact Decidable.not_not.mp c9
            refine st_gi hu6.1 (fun v11 ev11 b12 => ?_)
            replace ev11 : v11 = g u6 7 := ev11
            replace b12 := (jbf_4_7 hu6.1 _).1 b12
            refine And.intro (fun c13 => ?_) (fun c13 => ?_)
            · replace c13 : v11 = 0 := c13
              show jGo E l 80 229 229 _ 40 [.inr (.inr (.inl 119)), .inl x1, .inr (.inr (.inl u6)), x3] [] 229 jr0 g
              refine jGo_blk qX10_takeGoods_40 ?_
              refine st_gr hu6.1 rfl ?_
              refine st_cv (na := 1) (st := [.inr (.inr (.inl (jr0 u6 11))), .inr (.inr (.inl 119))]) jo_119 rfl rfl rfl (c_X10_hasAll_119 (jr0 u6 11) g hu6.2.1) rfl ?_
              rintro _ _ _ ⟨rfl, rfl, t14, rfl, ht14, zt14⟩ kt14
              replace kt14 : -2147483648 ≤ t14 ∧ t14 ≤ 2147483647 := kt14
              replace ht14 : 0 ≤ t14 ∧ t14 ≤ 1 := ht14
              replace zt14 : (t14 = 1 ∧ jAl 120 (jr0 u6 11) g) ∨ (t14 = 0 ∧ ¬ jAl 120 (jr0 u6 11) g) := zt14
              refine And.intro (fun c16 => ?_) (fun c16 => ?_)
              · replace c16 : t14 = 0 := c16
                show jGo E l 80 229 229 _ 93 [.inr (.inr (.inl 119)), .inl x1, .inr (.inr (.inl u6)), x3] [] 229 jr0 g
                refine jGo_blk qX10_takeGoods_93 ?_
                refine st_gi hu6.1 (fun v17 ev17 b18 => ?_)
                replace ev17 : v17 = g u6 8 := ev17
                replace b18 := (jbf_4_8 hu6.1 _).1 b18
                refine st_pi hu6.1 (fun hx => (jbf_4_8 hu6.1 _).2 hx) (fun g19 eg19 => ?_)
                replace eg19 : g19 = jup g u6 8 (jw32 (v17 + 1)) := eg19
                have fg19 : jfr w_X10_takeGoods_119 h g19 := jfr_up hf eg19 (by unfold w_X10_takeGoods_119; omega)
                have e20 : g19 u6 8 = jw32 (v17 + 1) := jup_s eg19
                show jGo E l 80 229 229 _ 103 [.inr (.inr (.inl 119)), .inl x1, .inr (.inr (.inl u6)), x3] [] 229 jr0 g19
                refine jGo_blk qX10_takeGoods_103 ?_
                have e21 : jw32 (x1 + 1) = x1 + 1 := jzj32 (by omega)
                show jGo E l 80 229 229 _ 2 [.inr (.inr (.inl 119)), .inl (jw32 (x1 + 1)), .inr (.inr (.inl u6)), x3] [] 229 jr0 g19
                have hna9 : ¬ jAl 120 (u6 + 1) g := by have q9 := zt14; rw [hu6.2.2.2.1] at q9; rcases q9 with q9 | q9 <;> first | exact q9.2 | (exfalso; omega)
                have e22 : g19 119 6 = g 119 6 := jup_o eg19 (by first | exact fun q => absurd q.1 (by decide) | exact fun q => absurd q.2 (by decide) | omega)
                exact ih.1 (jw32 (x1 + 1)) (.inr (.inr (.inl u6))) x3 g19 (by omega) (by rw [show jw32 (x1 + 1) = x1 + 1 by omega, jit_s (by omega)]; rw [← hx0]; subst eg19 ev17 ev11 ev7 qu6 ev4 ev1; unfold jTg; (repeat (first | rw [if_pos (by omega)] | rw [if_neg (by omega)])); (try rw [if_neg hna9]); all_goals ((try rw [e21]); (try rfl))) (by omega) fg19 (by omega)
              · replace c16 : ¬ t14 = 0 := by first | exact c16 | exact Int.not_le.mp c16 | exact Int.not_lt.mp c16 | exact Decidable.not_not.mp c16
                show jGo E l 80 229 229 _ 53 [.inr (.inr (.inl 119)), .inl x1, .inr (.inr (.inl u6)), .inl 0] [] 229 jr0 g
                have hal9 : jAl 120 (u6 + 1) g := by have q9 := zt14; rw [hu6.2.2.2.1] at q9; rcases q9 with q9 | q9 <;> first | exact q9.2 | (exfalso; omega)
                exact ih.2 x1 u6 0 g (by omega) hu6 (by rw [← hx0]; rfl) (by rw [← hx0, qu6]; omega) (by rw [← hx0]; exact ⟨by omega, by omega, hal9⟩) (by omega) hf (by omega)
            · replace c13 : ¬ v11 = 0 := by first | exact c13 | exact Int.not_le.mp c13 | exact Int.not_lt.mp c13 | exact Decidable.not_not.mp c13
              show jGo E l 80 229 229 _ 103 [.inr (.inr (.inl 119)), .inl x1, .inr (.inr (.inl u6)), x3] [] 229 jr0 g
              refine jGo_blk qX10_takeGoods_103 ?_
              have e23 : jw32 (x1 + 1) = x1 + 1 := jzj32 (by omega)
              show jGo E l 80 229 229 _ 2 [.inr (.inr (.inl 119)), .inl (jw32 (x1 + 1)), .inr (.inr (.inl u6)), x3] [] 229 jr0 g
              exact ih.1 (jw32 (x1 + 1)) (.inr (.inr (.inl u6))) x3 g (by omega) (by rw [show jw32 (x1 + 1) = x1 + 1 by omega, jit_s (by omega)]; rw [← hx0]; subst ev11 ev7 qu6 ev4 ev1; unfold jTg; (repeat (first | rw [if_pos (by omega)] | rw [if_neg (by omega)])); all_goals ((try rw [e23]); (try rfl))) (by omega) hf (by omega)
      · intro x1 x2 x3 g hi hu2 hx0 hx1 hx2 hx3 hf hN
        refine jGo_blk qX10_takeGoods_53 ?_
        refine And.intro (fun c24 => ?_) (fun c24 => ?_)
        · replace c24 : 6 ≤ x3 := c24
          show jGo E l 80 229 229 _ 80 [.inr (.inr (.inl 119)), .inl x1, .inr (.inr (.inl x2)), .inl x3] [] 229 jr0 g
          refine jGo_blk qX10_takeGoods_80 ?_
          refine st_pi hu2.1 (fun hx => (jbf_4_7 hu2.1 _).2 (show 0 ≤ 1 ∧ 1 ≤ 1 by omega)) (fun g25 eg25 => ?_)
          replace eg25 : g25 = jup g x2 7 1 := eg25
          have fg25 : jfr w_X10_takeGoods_119 h g25 := jfr_up hf eg25 (by unfold w_X10_takeGoods_119; omega)
          have e26 : g25 x2 7 = 1 := jup_s eg25
          refine st_pi jo_119 (fun hx => (jbf_10_10 jo_119 _).2 (show 0 ≤ 1 ∧ 1 ≤ 1 by omega)) (fun g27 eg27 => ?_)
          replace eg27 : g27 = jup g25 119 10 1 := eg27
          have fg27 : jfr w_X10_takeGoods_119 h g27 := jfr_up fg25 eg27 (by unfold w_X10_takeGoods_119; omega)
          have e28 : g27 119 10 = 1 := jup_s eg27
          show jGo E l 80 229 229 _ 103 [.inr (.inr (.inl 119)), .inl x1, .inr (.inr (.inl x2)), .inl x3] [] 229 jr0 g27
          refine jGo_blk qX10_takeGoods_103 ?_
          have e29 : jw32 (x1 + 1) = x1 + 1 := jzj32 (by omega)
          show jGo E l 80 229 229 _ 2 [.inr (.inr (.inl 119)), .inl (jw32 (x1 + 1)), .inr (.inr (.inl x2)), .inl x3] [] 229 jr0 g27
          have tg_end : g27 = jit (jTg 119 120 126 124) (jw32 (x1 + 1)).toNat h := by
            rw [show jw32 (x1 + 1) = x1 + 1 by omega, jit_s (by omega)]
            have k0 := hx0; rw [show x3 = 6 by omega] at k0
            generalize jit (jTg 119 120 126 124) x1.toNat h = P at hx1 hx2 k0 ⊢
            subst eg27 eg25; subst hx1; subst k0; unfold jTg; rw [if_neg (by omega), if_pos hx2.2.2]; rfl
          have e30 : g27 119 6 = g25 119 6 := jup_o eg27 (by first | exact fun q => absurd q.1 (by decide) | exact fun q => absurd q.2 (by decide) | omega)
          have e31 : g25 119 6 = g 119 6 := jup_o eg25 (by first | exact fun q => absurd q.1 (by decide) | exact fun q => absurd q.2 (by decide) | omega)
          exact ih.1 (jw32 (x1 + 1)) (.inr (.inr (.inl x2))) (.inl x3) g27 (by omega) (by exact tg_end) (by omega) fg27 (by omega)
        · replace c24 : x3 < 6 := by first | exact c24 | exact Int.not_le.mp c24 | exact Int.not_lt.mp c24 | exact Decidable.not_not.mp c24
          refine st_gr jo_119 jr_119_0 ?_
          refine st_ai jo_120 (show 0 ≤ x3 by omega) (show x3 < ((6 : Nat) : Int) by omega) (fun v32 ev32 b33 => ?_)
          replace ev32 : v32 = g 120 x3 := ev32
          replace b33 := (jba_120 x3 _).1 b33
          refine st_gr hu2.1 rfl ?_
          refine st_ai hu2.2.1 (show 0 ≤ x3 by omega) (show x3 < ((6 : Nat) : Int) by omega) (fun v34 ev34 b35 => ?_)
          replace ev34 : v34 = g (jr0 x2 11) x3 := ev34
          replace b35 := (hu2.2.2.2.2.2.1 x3 _).1 b35
          refine st_si jo_120 (show 0 ≤ x3 by omega) (show x3 < ((6 : Nat) : Int) by omega) (fun hx => (jba_120 _ _).2 hx) (fun g36 eg36 => ?_)
          replace eg36 : g36 = jup g 120 x3 (jw32 (v32 - v34)) := eg36
          have fg36 : jfr w_X10_takeGoods_119 h g36 := jfr_up hf eg36 (by unfold w_X10_takeGoods_119; omega)
          have e37 : g36 120 x3 = jw32 (v32 - v34) := jup_s eg36
          have e38 : jw32 (x3 + 1) = x3 + 1 := jzj32 (by omega)
          show jGo E l 80 229 229 _ 53 [.inr (.inr (.inl 119)), .inl x1, .inr (.inr (.inl x2)), .inl (jw32 (x3 + 1))] [] 229 jr0 g36
          have e39 : g36 119 6 = g 119 6 := jup_o eg36 (by first | exact fun q => absurd q.1 (by decide) | exact fun q => absurd q.2 (by decide) | omega)
          exact ih.2 x1 x2 (jw32 (x3 + 1)) g36 (by omega) hu2 (by rw [show jw32 (x3 + 1) = x3 + 1 by omega, jit_s (by omega), ← hx0]; subst eg36 ev34 ev32; unfold jTs; (repeat (first | rw [if_pos (by omega)] | rw [if_neg (by omega)])); all_goals ((try rw [e38]); (try rw [hu2.2.2.2.1]); (try rw [hu2.2.2.2.2.1]); (try rfl))) (by exact hx1) (by exact hx2) (by omega) fg36 (by omega)
  refine jGo_blk qX10_takeGoods_0 ?_
  show jGo E l 80 229 229 _ 2 [.inr (.inr (.inl 119)), .inl 0, .inr (.inr (.inr ())), .inr (.inr (.inr ()))] [] 229 jr0 h
  exact (key 1000000000000000000).1 0 (.inr (.inr (.inr ()))) (.inr (.inr (.inr ()))) h (by omega) (by rfl) (by omega) f0 (by omega)

def w_X10_doWork_119_114 (i k : Int) : Prop := (125 ≤ i ∧ i ≤ 173) ∨ (i = 119 ∧ 9 ≤ k ∧ k ≤ 10)
def k_X10_doWork_119_114 (a2 : Int) (a3 : Int) (h : JH) (v : Option JV) (r' g : JH) : Prop := r' = jr0 ∧ jfr w_X10_doWork_119_114 h g ∧ v = none ∧ (g = jP4 119 125 126 124 114 a2 a3 h)
set_option maxHeartbeats 4000000 in
theorem c_X10_doWork_119_114 {E : JE} {l : Launch} (a2 : Int) (a3 : Int) (h : JH) (p2 : 0 ≤ a2 ∧ a2 ≤ 1196) : jMt E l 81 [.inr (.inr (.inl 119)), .inr (.inr (.inl 114)), .inl a2, .inl a3] 229 jr0 h (k_X10_doWork_119_114 a2 a3 h) := by
  refine jMt0 (nL := 7) (ls := [.inr (.inr (.inl 119)), .inr (.inr (.inl 114)), .inl a2, .inl a3, .inr (.inr (.inr ())), .inr (.inr (.inr ())), .inr (.inr (.inr ()))]) (by decide +kernel) (by decide +kernel) (by decide +kernel) rfl rfl ?_
  have f0 : jfr w_X10_doWork_119_114 h h := jfr_rf _ _
  refine jGo_bd (fun hbd => ?_)
  have hb0 := (jbf_10_6 jo_119 _).1 (hbd 119 6)
  have key : ∀ N : Nat, (∀ (x4 : Int) (x5 : JV) (x6 : JV) (g : JH), (0 ≤ x4 ∧ x4 ≤ 16) → (g = jit (jDw 119 125 126 124 a3) (x4).toNat (jcp h 114 a2 125 0 4)) → (g 119 6 = h 119 6 ∧ 0 ≤ x4 ∧ x4 ≤ h 119 6) → jfr w_X10_doWork_119_114 h g → (16 - x4) + 20000 < (N : Int) → jGo E l 81 229 229 (jRK (k_X10_doWork_119_114 a2 a3 h)) 14 [.inr (.inr (.inl 119)), .inr (.inr (.inl 114)), .inl a2, .inl a3, .inl x4, x5, x6] [] 229 jr0 g) ∧
      (∀ (x4 : Int) (x5 : JV) (x6 : JV) (g : JH), (0 ≤ x4 ∧ x4 ≤ 4) → (g = jit (jDi 119 125) (x4).toNat (jit (jDw 119 125 126 124 a3) (h 119 6).toNat (jcp h 114 a2 125 0 4))) → (0 ≤ x4 ∧ x4 ≤ 4) → jfr w_X10_doWork_119_114 h g → (4 - x4) < (N : Int) → jGo E l 81 229 229 (jRK (k_X10_doWork_119_114 a2 a3 h)) 143 [.inr (.inr (.inl 119)), .inr (.inr (.inl 114)), .inl a2, .inl a3, .inl x4, x5, x6] [] 229 jr0 g) := by
    intro N
    induction N with
    | zero => exact ⟨fun _ _ _ _ hi hx0 hx1 _ hN => absurd hN (by omega), fun _ _ _ _ hi hx0 hx1 _ hN => absurd hN (by omega)⟩
    | succ N ih =>
      refine ⟨?_, ?_⟩
      · intro x4 x5 x6 g hi hx0 hx1 hf hN
        refine jGo_blk qX10_doWork_14 ?_
        refine st_gi jo_119 (fun v1 ev1 b2 => ?_)
        replace ev1 : v1 = g 119 6 := ev1
        replace b2 := (jbf_10_6 jo_119 _).1 b2
        refine And.intro (fun c3 => ?_) (fun c3 => ?_)
        · replace c3 : v1 ≤ x4 := c3
          show jGo E l 81 229 229 _ 140 [.inr (.inr (.inl 119)), .inr (.inr (.inl 114)), .inl a2, .inl a3, .inl x4, x5, x6] [] 229 jr0 g
          refine jGo_blk qX10_doWork_140 ?_
          show jGo E l 81 229 229 _ 143 [.inr (.inr (.inl 119)), .inr (.inr (.inl 114)), .inl a2, .inl a3, .inl 0, x5, x6] [] 229 jr0 g
          exact ih.2 0 x5 x6 g (by omega) (by rw [hx0, show x4 = h 119 6 by omega] <;> rfl) (by omega) hf (by omega)
        · replace c3 : x4 < v1 := by first | exact c3 | exact Int.not_le.mp c3 | exact Int.not_lt.mp c3 | exact Decidable.not_not.mp c3
          refine st_gr jo_119 jr_119_3 ?_
          refine st_gr jo_119 jr_119_5 ?_
          refine st_ai jo_124 (show 0 ≤ x4 by omega) (show x4 < ((16 : Nat) : Int) by omega) (fun v4 ev4 b5 => ?_)
          replace ev4 : v4 = g 124 x4 := ev4
          replace b5 := (jba_124 x4 _).1 b5
          refine st_ar jo_123 (by decide) (show 0 ≤ v4 by omega) (show v4 < ((16 : Nat) : Int) by omega) (fun u6 eu6 => ?_)
          replace eu6 : u6 = jr0 123 v4 := eu6
          have qu6 : u6 = 126 + 3 * v4 := eu6.trans (jhul_123 v4 (by omega) (by omega)).1
          have hu6 : jHl u6 := by rw [eu6]; exact (jhul_123 v4 (by omega) (by omega)).2
          refine And.intro (show u6 ≠ -1 by omega) ?_
          refine st_gi hu6.1 (fun v7 ev7 b8 => ?_)
          replace ev7 : v7 = g u6 3 := ev7
          replace b8 := (jbf_4_3 hu6.1 _).1 b8
          refine And.intro (fun c9 => ?_) (fun c9 => ?_)
          · replace c9 : ¬ v7 = 1 := c9
            show jGo E l 81 229 229 _ 134 [.inr (.inr (.inl 119)), .inr (.inr (.inl 114)), .inl a2, .inl a3, .inl x4, .inr (.inr (.inl u6)), x6] [] 229 jr0 g
            refine jGo_blk qX10_doWork_134 ?_
            have e10 : jw32 (x4 + 1) = x4 + 1 := jzj32 (by omega)
            show jGo E l 81 229 229 _ 14 [.inr (.inr (.inl 119)), .inr (.inr (.inl 114)), .inl a2, .inl a3, .inl (jw32 (x4 + 1)), .inr (.inr (.inl u6)), x6] [] 229 jr0 g
            exact ih.1 (jw32 (x4 + 1)) (.inr (.inr (.inl u6))) x6 g (by omega) (by rw [show jw32 (x4 + 1) = x4 + 1 by omega, jit_s (by omega), ← hx0]; subst ev7 qu6 ev4 ev1; unfold jDw jD3 jD2 jD1 jSt; (repeat (first | rw [if_pos (by omega)] | rw [if_neg (by omega)])); all_goals ((try rw [e10]); (try rfl))) (by omega) hf (by omega)
          · replace c9 : v7 = 1 := by first | exact c9 | exact Int.not_le.mp c9 | exact Int.not_lt.mp c9 | exact Decidable.not_not.mp c9
            refine st_gi hu6.1 (fun v11 ev11 b12 => ?_)
            replace ev11 : v11 = g u6 7 := ev11
            replace b12 := (jbf_4_7 hu6.1 _).1 b12
            refine And.intro (fun c13 => ?_) (fun c13 => ?_)
            · replace c13 : v11 = 0 := c13
              show jGo E l 81 229 229 _ 134 [.inr (.inr (.inl 119)), .inr (.inr (.inl 114)), .inl a2, .inl a3, .inl x4, .inr (.inr (.inl u6)), x6] [] 229 jr0 g
              refine jGo_blk qX10_doWork_134 ?_
              have e14 : jw32 (x4 + 1) = x4 + 1 := jzj32 (by omega)
              show jGo E l 81 229 229 _ 14 [.inr (.inr (.inl 119)), .inr (.inr (.inl 114)), .inl a2, .inl a3, .inl (jw32 (x4 + 1)), .inr (.inr (.inl u6)), x6] [] 229 jr0 g
              exact ih.1 (jw32 (x4 + 1)) (.inr (.inr (.inl u6))) x6 g (by omega) (by rw [show jw32 (x4 + 1) = x4 + 1 by omega, jit_s (by omega), ← hx0]; subst ev11 ev7 qu6 ev4 ev1; unfold jDw jD3 jD2 jD1 jSt; (repeat (first | rw [if_pos (by omega)] | rw [if_neg (by omega)])); all_goals ((try rw [e14]); (try rfl))) (by omega) hf (by omega)
            · replace c13 : ¬ v11 = 0 := by first | exact c13 | exact Int.not_le.mp c13 | exact Int.not_lt.mp c13 | exact Decidable.not_not.mp c13
              refine st_gi hu6.1 (fun v15 ev15 b16 => ?_)
              replace ev15 : v15 = g u6 6 := ev15
              replace b16 := (jbf_4_6 hu6.1 _).1 b16
              refine And.intro (fun c17 => ?_) (fun c17 => ?_)
              · replace c17 : v15 ≤ 0 := c17
                show jGo E l 81 229 229 _ 134 [.inr (.inr (.inl 119)), .inr (.inr (.inl 114)), .inl a2, .inl a3, .inl x4, .inr (.inr (.inl u6)), x6] [] 229 jr0 g
                refine jGo_blk qX10_doWork_134 ?_
                have e18 : jw32 (x4 + 1) = x4 + 1 := jzj32 (by omega)
                show jGo E l 81 229 229 _ 14 [.inr (.inr (.inl 119)), .inr (.inr (.inl 114)), .inl a2, .inl a3, .inl (jw32 (x4 + 1)), .inr (.inr (.inl u6)), x6] [] 229 jr0 g
                exact ih.1 (jw32 (x4 + 1)) (.inr (.inr (.inl u6))) x6 g (by omega) (by rw [show jw32 (x4 + 1) = x4 + 1 by omega, jit_s (by omega), ← hx0]; subst ev15 ev11 ev7 qu6 ev4 ev1; unfold jDw jD3 jD2 jD1 jSt; (repeat (first | rw [if_pos (by omega)] | rw [if_neg (by omega)])); all_goals ((try rw [e18]); (try rfl))) (by omega) hf (by omega)
              · replace c17 : 0 < v15 := by first | exact c17 | exact Int.not_le.mp c17 | exact Int.not_lt.mp c17 | exact Decidable.not_not.mp c17
                refine st_gr jo_119 jr_119_11 ?_
                refine st_gi hu6.1 (fun v19 ev19 b20 => ?_)
                replace ev19 : v19 = g u6 5 := ev19
                replace b20 := (jbf_4_5 hu6.1 _).1 b20
                refine st_ai jo_125 (show 0 ≤ v19 by omega) (show v19 < ((4 : Nat) : Int) by omega) (fun v21 ev21 b22 => ?_)
                replace ev21 : v21 = g 125 v19 := ev21
                replace b22 := (jba_125 v19 _).1 b22
                refine st_m0 rfl (fun v23 m1v23 m2v23 m3v23 => ?_)
                replace m1v23 : v23 ≤ v21 := m1v23; replace m2v23 : v23 ≤ a3 := m2v23; replace m3v23 : v23 = v21 ∨ v23 = a3 := m3v23
                have ev23 : v23 = jmin v21 a3 := by unfold jmin; omega
                refine st_gi hu6.1 (fun v24 ev24 b25 => ?_)
                replace ev24 : v24 = g u6 6 := ev24
                replace b25 := (jbf_4_6 hu6.1 _).1 b25
                refine st_m0 rfl (fun v26 m1v26 m2v26 m3v26 => ?_)
                replace m1v26 : v26 ≤ v23 := m1v26; replace m2v26 : v26 ≤ v24 := m2v26; replace m3v26 : v26 = v23 ∨ v26 = v24 := m3v26
                have ev26 : v26 = jmin v23 v24 := by unfold jmin; omega
                refine st_gr jo_119 jr_119_11 ?_
                refine st_gi hu6.1 (fun v27 ev27 b28 => ?_)
                replace ev27 : v27 = g u6 5 := ev27
                replace b28 := (jbf_4_5 hu6.1 _).1 b28
                refine st_ai jo_125 (show 0 ≤ v27 by omega) (show v27 < ((4 : Nat) : Int) by omega) (fun v29 ev29 b30 => ?_)
                replace ev29 : v29 = g 125 v27 := ev29
                replace b30 := (jba_125 v27 _).1 b30
                refine st_si jo_125 (show 0 ≤ v27 by omega) (show v27 < ((4 : Nat) : Int) by omega) (fun hx => (jba_125 _ _).2 hx) (fun g31 eg31 => ?_)
                replace eg31 : g31 = jup g 125 v27 (jw32 (v29 - v26)) := eg31
                have fg31 : jfr w_X10_doWork_119_114 h g31 := jfr_up hf eg31 (by unfold w_X10_doWork_119_114; omega)
                have e32 : g31 125 v27 = jw32 (v29 - v26) := jup_s eg31
                refine st_gi hu6.1 (fun v33 ev33 b34 => ?_)
                replace ev33 : v33 = g31 u6 6 := ev33
                replace b34 := (jbf_4_6 hu6.1 _).1 b34
                refine st_pi hu6.1 (fun hx => (jbf_4_6 hu6.1 _).2 hx) (fun g35 eg35 => ?_)
                replace eg35 : g35 = jup g31 u6 6 (jw32 (v33 - v26)) := eg35
                have fg35 : jfr w_X10_doWork_119_114 h g35 := jfr_up fg31 eg35 (by unfold w_X10_doWork_119_114; omega)
                have e36 : g35 u6 6 = jw32 (v33 - v26) := jup_s eg35
                refine st_gi jo_119 (fun v37 ev37 b38 => ?_)
                replace ev37 : v37 = g35 119 10 := ev37
                replace b38 := (jbf_10_10 jo_119 _).1 b38
                have e39 : g35 119 10 = g31 119 10 := jup_o eg35 (by first | exact fun q => absurd q.1 (by decide) | exact fun q => absurd q.2 (by decide) | omega)
                have e40 : g31 119 10 = g 119 10 := jup_o eg31 (by first | exact fun q => absurd q.1 (by decide) | exact fun q => absurd q.2 (by decide) | omega)
                refine And.intro (fun c41 => ?_) (fun c41 => ?_)
                · replace c41 : ¬ v37 = 0 := c41
                  show jGo E l 81 229 229 _ 126 [.inr (.inr (.inl 119)), .inr (.inr (.inl 114)), .inl a2, .inl a3, .inl x4, .inr (.inr (.inl u6)), .inl v26] [.inr (.inr (.inl 119))] 229 jr0 g35
                  refine jGo_blk qX10_doWork_126 ?_
                  show jGo E l 81 229 229 _ 131 [.inr (.inr (.inl 119)), .inr (.inr (.inl 114)), .inl a2, .inl a3, .inl x4, .inr (.inr (.inl u6)), .inl v26] [.inl 1, .inr (.inr (.inl 119))] 229 jr0 g35
                  refine jGo_blk qX10_doWork_131 ?_
                  refine st_pi jo_119 (fun hx => (jbf_10_10 jo_119 _).2 (show 0 ≤ 1 ∧ 1 ≤ 1 by omega)) (fun g42 eg42 => ?_)
                  replace eg42 : g42 = jup g35 119 10 1 := eg42
                  have fg42 : jfr w_X10_doWork_119_114 h g42 := jfr_up fg35 eg42 (by unfold w_X10_doWork_119_114; omega)
                  have e43 : g42 119 10 = 1 := jup_s eg42
                  show jGo E l 81 229 229 _ 134 [.inr (.inr (.inl 119)), .inr (.inr (.inl 114)), .inl a2, .inl a3, .inl x4, .inr (.inr (.inl u6)), .inl v26] [] 229 jr0 g42
                  refine jGo_blk qX10_doWork_134 ?_
                  have e44 : jw32 (x4 + 1) = x4 + 1 := jzj32 (by omega)
                  show jGo E l 81 229 229 _ 14 [.inr (.inr (.inl 119)), .inr (.inr (.inl 114)), .inl a2, .inl a3, .inl (jw32 (x4 + 1)), .inr (.inr (.inl u6)), .inl v26] [] 229 jr0 g42
                  have e45 : g42 119 6 = g35 119 6 := jup_o eg42 (by first | exact fun q => absurd q.1 (by decide) | exact fun q => absurd q.2 (by decide) | omega)
                  have e46 : g35 119 6 = g31 119 6 := jup_o eg35 (by first | exact fun q => absurd q.1 (by decide) | exact fun q => absurd q.2 (by decide) | omega)
                  have e47 : g31 119 6 = g 119 6 := jup_o eg31 (by first | exact fun q => absurd q.1 (by decide) | exact fun q => absurd q.2 (by decide) | omega)
                  exact ih.1 (jw32 (x4 + 1)) (.inr (.inr (.inl u6))) (.inl v26) g42 (by omega) (by rw [show jw32 (x4 + 1) = x4 + 1 by omega, jit_s (by omega), ← hx0]; subst eg42 ev37 eg35 ev33 eg31 ev29 ev27 ev26 ev24 ev23 ev21 ev19 ev15 ev11 ev7 qu6 ev4 ev1; unfold jDw jD3 jD2 jD1 jSt; (repeat (first | rw [if_pos (by omega)] | rw [if_neg (by omega)])); all_goals ((try rw [e44]); (try rfl))) (by omega) fg42 (by omega)
                · replace c41 : v37 = 0 := by first | exact c41 | exact Int.not_le.mp c41 | exact Int.not_lt.mp c41 | exact Decidable.not_not.mp c41
                  refine And.intro (fun c48 => ?_) (fun c48 => ?_)
                  · replace c48 : v26 ≤ 0 := c48
                    show jGo E l 81 229 229 _ 130 [.inr (.inr (.inl 119)), .inr (.inr (.inl 114)), .inl a2, .inl a3, .inl x4, .inr (.inr (.inl u6)), .inl v26] [.inr (.inr (.inl 119))] 229 jr0 g35
                    refine jGo_blk qX10_doWork_130 ?_
                    show jGo E l 81 229 229 _ 131 [.inr (.inr (.inl 119)), .inr (.inr (.inl 114)), .inl a2, .inl a3, .inl x4, .inr (.inr (.inl u6)), .inl v26] [.inl 0, .inr (.inr (.inl 119))] 229 jr0 g35
                    refine jGo_blk qX10_doWork_131 ?_
                    refine st_pi jo_119 (fun hx => (jbf_10_10 jo_119 _).2 (show 0 ≤ 0 ∧ 0 ≤ 1 by omega)) (fun g49 eg49 => ?_)
                    replace eg49 : g49 = jup g35 119 10 0 := eg49
                    have fg49 : jfr w_X10_doWork_119_114 h g49 := jfr_up fg35 eg49 (by unfold w_X10_doWork_119_114; omega)
                    have e50 : g49 119 10 = 0 := jup_s eg49
                    show jGo E l 81 229 229 _ 134 [.inr (.inr (.inl 119)), .inr (.inr (.inl 114)), .inl a2, .inl a3, .inl x4, .inr (.inr (.inl u6)), .inl v26] [] 229 jr0 g49
                    refine jGo_blk qX10_doWork_134 ?_
                    have e51 : jw32 (x4 + 1) = x4 + 1 := jzj32 (by omega)
                    show jGo E l 81 229 229 _ 14 [.inr (.inr (.inl 119)), .inr (.inr (.inl 114)), .inl a2, .inl a3, .inl (jw32 (x4 + 1)), .inr (.inr (.inl u6)), .inl v26] [] 229 jr0 g49
                    have e52 : g49 119 6 = g35 119 6 := jup_o eg49 (by first | exact fun q => absurd q.1 (by decide) | exact fun q => absurd q.2 (by decide) | omega)
                    have e53 : g35 119 6 = g31 119 6 := jup_o eg35 (by first | exact fun q => absurd q.1 (by decide) | exact fun q => absurd q.2 (by decide) | omega)
                    have e54 : g31 119 6 = g 119 6 := jup_o eg31 (by first | exact fun q => absurd q.1 (by decide) | exact fun q => absurd q.2 (by decide) | omega)
                    exact ih.1 (jw32 (x4 + 1)) (.inr (.inr (.inl u6))) (.inl v26) g49 (by omega) (by rw [show jw32 (x4 + 1) = x4 + 1 by omega, jit_s (by omega), ← hx0]; subst eg49 ev37 eg35 ev33 eg31 ev29 ev27 ev26 ev24 ev23 ev21 ev19 ev15 ev11 ev7 qu6 ev4 ev1; unfold jDw jD3 jD2 jD1 jSt; (repeat (first | rw [if_pos (by omega)] | rw [if_neg (by omega)])); all_goals ((try rw [e51]); (try rfl))) (by omega) fg49 (by omega)
                  · replace c48 : 0 < v26 := by first | exact c48 | exact Int.not_le.mp c48 | exact Int.not_lt.mp c48 | exact Decidable.not_not.mp c48
                    show jGo E l 81 229 229 _ 126 [.inr (.inr (.inl 119)), .inr (.inr (.inl 114)), .inl a2, .inl a3, .inl x4, .inr (.inr (.inl u6)), .inl v26] [.inr (.inr (.inl 119))] 229 jr0 g35
                    refine jGo_blk qX10_doWork_126 ?_
                    show jGo E l 81 229 229 _ 131 [.inr (.inr (.inl 119)), .inr (.inr (.inl 114)), .inl a2, .inl a3, .inl x4, .inr (.inr (.inl u6)), .inl v26] [.inl 1, .inr (.inr (.inl 119))] 229 jr0 g35
                    refine jGo_blk qX10_doWork_131 ?_
                    refine st_pi jo_119 (fun hx => (jbf_10_10 jo_119 _).2 (show 0 ≤ 1 ∧ 1 ≤ 1 by omega)) (fun g55 eg55 => ?_)
                    replace eg55 : g55 = jup g35 119 10 1 := eg55
                    have fg55 : jfr w_X10_doWork_119_114 h g55 := jfr_up fg35 eg55 (by unfold w_X10_doWork_119_114; omega)
                    have e56 : g55 119 10 = 1 := jup_s eg55
                    show jGo E l 81 229 229 _ 134 [.inr (.inr (.inl 119)), .inr (.inr (.inl 114)), .inl a2, .inl a3, .inl x4, .inr (.inr (.inl u6)), .inl v26] [] 229 jr0 g55
                    refine jGo_blk qX10_doWork_134 ?_
                    have e57 : jw32 (x4 + 1) = x4 + 1 := jzj32 (by omega)
                    show jGo E l 81 229 229 _ 14 [.inr (.inr (.inl 119)), .inr (.inr (.inl 114)), .inl a2, .inl a3, .inl (jw32 (x4 + 1)), .inr (.inr (.inl u6)), .inl v26] [] 229 jr0 g55
                    have e58 : g55 119 6 = g35 119 6 := jup_o eg55 (by first | exact fun q => absurd q.1 (by decide) | exact fun q => absurd q.2 (by decide) | omega)
                    have e59 : g35 119 6 = g31 119 6 := jup_o eg35 (by first | exact fun q => absurd q.1 (by decide) | exact fun q => absurd q.2 (by decide) | omega)
                    have e60 : g31 119 6 = g 119 6 := jup_o eg31 (by first | exact fun q => absurd q.1 (by decide) | exact fun q => absurd q.2 (by decide) | omega)
                    exact ih.1 (jw32 (x4 + 1)) (.inr (.inr (.inl u6))) (.inl v26) g55 (by omega) (by rw [show jw32 (x4 + 1) = x4 + 1 by omega, jit_s (by omega), ← hx0]; subst eg55 ev37 eg35 ev33 eg31 ev29 ev27 ev26 ev24 ev23 ev21 ev19 ev15 ev11 ev7 qu6 ev4 ev1; unfold jDw jD3 jD2 jD1 jSt; (repeat (first | rw [if_pos (by omega)] | rw [if_neg (by omega)])); all_goals ((try rw [e57]); (try rfl))) (by omega) fg55 (by omega)
      · intro x4 x5 x6 g hi hx0 hx1 hf hN
        refine jGo_blk qX10_doWork_143 ?_
        refine And.intro (fun c61 => ?_) (fun c61 => ?_)
        · replace c61 : 4 ≤ x4 := c61
          show jGo E l 81 229 229 _ 171 [.inr (.inr (.inl 119)), .inr (.inr (.inl 114)), .inl a2, .inl a3, .inl x4, x5, x6] [] 229 jr0 g
          refine jGo_blk qX10_doWork_171 ?_
          exact ⟨rfl, rfl, hf, rfl, (by unfold jP4; rw [hx0, show x4 = 4 by omega] <;> rfl)⟩
        · replace c61 : x4 < 4 := by first | exact c61 | exact Int.not_le.mp c61 | exact Int.not_lt.mp c61 | exact Decidable.not_not.mp c61
          refine st_gi jo_119 (fun v62 ev62 b63 => ?_)
          replace ev62 : v62 = g 119 9 := ev62
          replace b63 := (jbf_10_9 jo_119 _).1 b63
          refine st_gr jo_119 jr_119_11 ?_
          refine st_ai jo_125 (show 0 ≤ x4 by omega) (show x4 < ((4 : Nat) : Int) by omega) (fun v64 ev64 b65 => ?_)
          replace ev64 : v64 = g 125 x4 := ev64
          replace b65 := (jba_125 x4 _).1 b65
          refine st_pi jo_119 (fun hx => (jbf_10_9 jo_119 _).2 hx) (fun g66 eg66 => ?_)
          replace eg66 : g66 = jup g 119 9 (jw32 (v62 + v64)) := eg66
          have fg66 : jfr w_X10_doWork_119_114 h g66 := jfr_up hf eg66 (by unfold w_X10_doWork_119_114; omega)
          have e67 : g66 119 9 = jw32 (v62 + v64) := jup_s eg66
          have e68 : jw32 (x4 + 1) = x4 + 1 := jzj32 (by omega)
          show jGo E l 81 229 229 _ 143 [.inr (.inr (.inl 119)), .inr (.inr (.inl 114)), .inl a2, .inl a3, .inl (jw32 (x4 + 1)), x5, x6] [] 229 jr0 g66
          exact ih.2 (jw32 (x4 + 1)) x5 x6 g66 (by omega) (by rw [show jw32 (x4 + 1) = x4 + 1 by omega, jit_s (by omega), ← hx0]; subst eg66 ev64 ev62; unfold jDi; (repeat (first | rw [if_pos (by omega)] | rw [if_neg (by omega)])); all_goals ((try rw [e68]); (try rfl))) (by omega) fg66 (by omega)
  refine jGo_blk qX10_doWork_0 ?_
  refine st_gr jo_119 jr_119_11 ?_
  refine st_cp jo_125 jo_114 (show 0 ≤ a2 by omega) (show 0 ≤ 0 by omega) (show 0 ≤ 4 by omega) (show a2 + 4 ≤ ((1200 : Nat) : Int) by omega) (show 0 + 4 ≤ ((4 : Nat) : Int) by omega) rfl (fun hg j _ _ => (jba_125 _ _).2 (jbd_int (by rw [jo_114.2.2]; decide) (hg _ _))) (fun g69 eg69 => ?_)
  replace eg69 : g69 = jcp h 114 a2 125 0 4 := eg69
  have fg69 : jfr w_X10_doWork_119_114 h g69 := jfr_cp f0 eg69 (fun _ => by unfold w_X10_doWork_119_114; omega)
  show jGo E l 81 229 229 _ 14 [.inr (.inr (.inl 119)), .inr (.inr (.inl 114)), .inl a2, .inl a3, .inl 0, .inr (.inr (.inr ())), .inr (.inr (.inr ()))] [] 229 jr0 g69
  have e70 : g69 119 6 = h 119 6 := jcp_o eg69 (by omega)
  exact (key 1000000000000).1 0 (.inr (.inr (.inr ()))) (.inr (.inr (.inr ()))) g69 (by omega) (by exact eg69) (by omega) fg69 (by omega)

def w_X10_drink_119 (i k : Int) : Prop := (i = 120) ∨ (i = 119 ∧ k = 8)
def k_X10_drink_119 (a1 : Int) (h : JH) (v : Option JV) (r' g : JH) : Prop := r' = jr0 ∧ jfr w_X10_drink_119 h g ∧ v = none ∧ (g = jDk 119 120 a1 h)
set_option maxHeartbeats 4000000 in
theorem c_X10_drink_119 {E : JE} {l : Launch} (a1 : Int) (h : JH) : jMt E l 82 [.inr (.inr (.inl 119)), .inl a1] 229 jr0 h (k_X10_drink_119 a1 h) := by
  refine jMt0 (nL := 3) (ls := [.inr (.inr (.inl 119)), .inl a1, .inr (.inr (.inr ()))]) (by decide +kernel) (by decide +kernel) (by decide +kernel) rfl rfl ?_
  have f0 : jfr w_X10_drink_119 h h := jfr_rf _ _
  refine jGo_blk qX10_drink_0 ?_
  refine st_gr jo_119 jr_119_0 ?_
  refine st_ai jo_120 (show 0 ≤ 5 by omega) (show 5 < ((6 : Nat) : Int) by omega) (fun v1 ev1 b2 => ?_)
  replace ev1 : v1 = h 120 5 := ev1
  replace b2 := (jba_120 5 _).1 b2
  refine st_m0 rfl (fun v3 m1v3 m2v3 m3v3 => ?_)
  replace m1v3 : v3 ≤ a1 := m1v3; replace m2v3 : v3 ≤ v1 := m2v3; replace m3v3 : v3 = a1 ∨ v3 = v1 := m3v3
  have ev3 : v3 = jmin a1 v1 := by unfold jmin; omega
  refine st_gr jo_119 jr_119_0 ?_
  refine st_ai jo_120 (show 0 ≤ 5 by omega) (show 5 < ((6 : Nat) : Int) by omega) (fun v4 ev4 b5 => ?_)
  replace ev4 : v4 = h 120 5 := ev4
  replace b5 := (jba_120 5 _).1 b5
  refine st_si jo_120 (show 0 ≤ 5 by omega) (show 5 < ((6 : Nat) : Int) by omega) (fun hx => (jba_120 _ _).2 hx) (fun g6 eg6 => ?_)
  replace eg6 : g6 = jup h 120 5 (jw32 (v4 - v3)) := eg6
  have fg6 : jfr w_X10_drink_119 h g6 := jfr_up f0 eg6 (by unfold w_X10_drink_119; omega)
  have e7 : g6 120 5 = jw32 (v4 - v3) := jup_s eg6
  refine st_gi jo_119 (fun v8 ev8 b9 => ?_)
  replace ev8 : v8 = g6 119 8 := ev8
  replace b9 := (jbf_10_8 jo_119 _).1 b9
  have e10 : g6 119 8 = h 119 8 := jup_o eg6 (by first | exact fun q => absurd q.1 (by decide) | exact fun q => absurd q.2 (by decide) | omega)
  refine st_pi jo_119 (fun hx => (jbf_10_8 jo_119 _).2 hx) (fun g11 eg11 => ?_)
  replace eg11 : g11 = jup g6 119 8 (jw32 (v8 + (jw32 (a1 - v3)))) := eg11
  have fg11 : jfr w_X10_drink_119 h g11 := jfr_up fg6 eg11 (by unfold w_X10_drink_119; omega)
  have e12 : g11 119 8 = jw32 (v8 + (jw32 (a1 - v3))) := jup_s eg11
  exact ⟨rfl, rfl, fg11, rfl, (by subst eg11 ev8 eg6 ev4 ev3 ev1; unfold jDk; (repeat (first | rw [if_pos (by omega)] | rw [if_neg (by omega)])); all_goals ((try rfl)))⟩

def w_X10_passDay_119_113 (i k : Int) : Prop := (120 ≤ i ∧ i ≤ 121) ∨ (125 ≤ i ∧ i ≤ 173) ∨ (i = 119 ∧ 7 ≤ k ∧ k ≤ 10)
theorem ws_X10_moveOn_119__X10_passDay_119_113 (i k : Int) (q : w_X10_moveOn_119 i k) : w_X10_passDay_119_113 i k := by
  unfold w_X10_moveOn_119 at q; unfold w_X10_passDay_119_113
  rcases q with q | q | q
  · exact (Or.inl (by omega))
  · exact (Or.inr (Or.inl (by omega)))
  · exact (Or.inr (Or.inr (by omega)))
theorem ws_X10_letIn_119__X10_passDay_119_113 (i k : Int) (q : w_X10_letIn_119 i k) : w_X10_passDay_119_113 i k := by
  unfold w_X10_letIn_119 at q; unfold w_X10_passDay_119_113
  rcases q with q | q | q
  · exact (Or.inl (by omega))
  · exact (Or.inr (Or.inl (by omega)))
  · exact (Or.inr (Or.inr (by omega)))
theorem ws_X10_takeGoods_119__X10_passDay_119_113 (i k : Int) (q : w_X10_takeGoods_119 i k) : w_X10_passDay_119_113 i k := by
  unfold w_X10_takeGoods_119 at q; unfold w_X10_passDay_119_113
  rcases q with q | q | q
  · exact (Or.inl (by omega))
  · exact (Or.inr (Or.inl (by omega)))
  · exact (Or.inr (Or.inr (by omega)))
theorem ws_X10_doWork_119_114__X10_passDay_119_113 (i k : Int) (q : w_X10_doWork_119_114 i k) : w_X10_passDay_119_113 i k := by
  unfold w_X10_doWork_119_114 at q; unfold w_X10_passDay_119_113
  rcases q with q | q
  · exact (Or.inr (Or.inl (by omega)))
  · exact (Or.inr (Or.inr (by omega)))
theorem ws_X10_drink_119__X10_passDay_119_113 (i k : Int) (q : w_X10_drink_119 i k) : w_X10_passDay_119_113 i k := by
  unfold w_X10_drink_119 at q; unfold w_X10_passDay_119_113
  rcases q with q | q
  · exact (Or.inl (by omega))
  · exact (Or.inr (Or.inr (by omega)))
def k_X10_passDay_119_113 (a1 : Int) (a3 : Int) (h : JH) (v : Option JV) (r' g : JH) : Prop := r' = jr0 ∧ jfr w_X10_passDay_119_113 h g ∧ ∃ x : Int, v = some (.inl x) ∧ (True) ∧ ((x = jMc 121 126 h) ∧ g = jPD 119 120 121 126 124 125 114 115 116 117 a1 a3 h)
set_option maxHeartbeats 4000000 in
theorem c_X10_passDay_119_113 {E : JE} {l : Launch} (a1 : Int) (a3 : Int) (h : JH) (p1 : 0 ≤ a1 ∧ a1 ≤ 2400) (p3 : 0 ≤ a3 ∧ a3 ≤ 299) : jMt E l 83 [.inr (.inr (.inl 119)), .inl a1, .inr (.inr (.inl 113)), .inl a3, .inr (.inr (.inl 16))] 229 jr0 h (k_X10_passDay_119_113 a1 a3 h) := by
  refine jMt0 (nL := 6) (ls := [.inr (.inr (.inl 119)), .inl a1, .inr (.inr (.inl 113)), .inl a3, .inr (.inr (.inl 16)), .inr (.inr (.inr ()))]) (by decide +kernel) (by decide +kernel) (by decide +kernel) rfl rfl ?_
  have f0 : jfr w_X10_passDay_119_113 h h := jfr_rf _ _
  refine jGo_blk qX10_passDay_0 ?_
  refine st_pi jo_119 (fun hx => (jbf_10_10 jo_119 _).2 (show 0 ≤ 0 ∧ 0 ≤ 1 by omega)) (fun g1 eg1 => ?_)
  replace eg1 : g1 = jup h 119 10 0 := eg1
  have fg1 : jfr w_X10_passDay_119_113 h g1 := jfr_up f0 eg1 (by unfold w_X10_passDay_119_113; omega)
  have e2 : g1 119 10 = 0 := jup_s eg1
  refine st_cv (na := 2) (st := [.inr (.inr (.inl 16)), .inl a1, .inr (.inr (.inl 119))]) jo_119 rfl rfl rfl (c_X10_moveOn_119 a1 g1) rfl ?_
  rintro _ _ g4 ⟨rfl, ft3, t3, rfl, ht3, zt3⟩ kt3
  replace kt3 : -2147483648 ≤ t3 ∧ t3 ≤ 2147483647 := kt3
  have fg4 : jfr w_X10_passDay_119_113 h g4 := jfr_tr fg1 ft3 ws_X10_moveOn_119__X10_passDay_119_113
  replace zt3 : (t3 = jMc 121 126 g1) ∧ g4 = jit (jMvr 119 121 126 a1) 6 g1 := zt3
  have y5 := zt3.2
  refine st_cv (na := 1) (st := [.inr (.inr (.inl 16)), .inr (.inr (.inl 119))]) jo_119 rfl rfl rfl (c_X10_letIn_119 g4) rfl ?_
  rintro _ _ g7 ⟨rfl, ft6, rfl, zt6⟩ kt6
  have fg7 : jfr w_X10_passDay_119_113 h g7 := jfr_tr fg4 ft6 ws_X10_letIn_119__X10_passDay_119_113
  replace zt6 : g7 = jP2 119 121 126 124 g4 := zt6
  refine st_cv (na := 0) (st := [.inr (.inr (.inl 119))]) jo_119 rfl rfl rfl (c_X10_takeGoods_119 g7) rfl ?_
  rintro _ _ g9 ⟨rfl, ft8, rfl, zt8⟩ kt8
  have fg9 : jfr w_X10_passDay_119_113 h g9 := jfr_tr fg7 ft8 ws_X10_takeGoods_119__X10_passDay_119_113
  replace zt8 : g9 = jP3 119 120 126 124 g7 := zt8
  refine st_gr jo_113 jr_113_0 ?_
  have e10 : jw32 (a3 * 4) = a3 * 4 := jzj32 (by omega)
  refine st_gr jo_113 jr_113_1 ?_
  refine st_ai jo_115 (show 0 ≤ a3 by omega) (show a3 < ((300 : Nat) : Int) by omega) (fun v11 ev11 b12 => ?_)
  replace ev11 : v11 = g9 115 a3 := ev11
  replace b12 := (jba_115 a3 _).1 b12
  refine st_cv (na := 3) (st := [.inl v11, .inl (jw32 (a3 * 4)), .inr (.inr (.inl 114)), .inr (.inr (.inl 119))]) jo_119 rfl rfl rfl (c_X10_doWork_119_114 (jw32 (a3 * 4)) v11 g9 (by omega)) rfl ?_
  rintro _ _ g14 ⟨rfl, ft13, rfl, zt13⟩ kt13
  have fg14 : jfr w_X10_passDay_119_113 h g14 := jfr_tr fg9 ft13 ws_X10_doWork_119_114__X10_passDay_119_113
  replace zt13 : g14 = jP4 119 125 126 124 114 (jw32 (a3 * 4)) v11 g9 := zt13
  refine st_gi jo_119 (fun v15 ev15 b16 => ?_)
  replace ev15 : v15 = g14 119 7 := ev15
  replace b16 := (jbf_10_7 jo_119 _).1 b16
  have e17 : g14 119 7 = g9 119 7 := ft13 119 7 (by unfold w_X10_doWork_119_114; omega)
  have e18 : g9 119 7 = g7 119 7 := ft8 119 7 (by unfold w_X10_takeGoods_119; omega)
  have e19 : g7 119 7 = g4 119 7 := ft6 119 7 (by unfold w_X10_letIn_119; omega)
  have e20 : g4 119 7 = g1 119 7 := ft3 119 7 (by unfold w_X10_moveOn_119; omega)
  have e21 : g1 119 7 = h 119 7 := jup_o eg1 (by first | exact fun q => absurd q.1 (by decide) | exact fun q => absurd q.2 (by decide) | omega)
  refine st_gr jo_113 jr_113_2 ?_
  refine st_ai jo_116 (show 0 ≤ a3 by omega) (show a3 < ((300 : Nat) : Int) by omega) (fun v22 ev22 b23 => ?_)
  replace ev22 : v22 = g14 116 a3 := ev22
  replace b23 := (jba_116 a3 _).1 b23
  refine st_pi jo_119 (fun hx => (jbf_10_7 jo_119 _).2 hx) (fun g24 eg24 => ?_)
  replace eg24 : g24 = jup g14 119 7 (jw32 (v15 + v22)) := eg24
  have fg24 : jfr w_X10_passDay_119_113 h g24 := jfr_up fg14 eg24 (by unfold w_X10_passDay_119_113; omega)
  have e25 : g24 119 7 = jw32 (v15 + v22) := jup_s eg24
  refine st_gr jo_113 jr_113_3 ?_
  refine st_ai jo_117 (show 0 ≤ a3 by omega) (show a3 < ((300 : Nat) : Int) by omega) (fun v26 ev26 b27 => ?_)
  replace ev26 : v26 = g24 117 a3 := ev26
  replace b27 := (jba_117 a3 _).1 b27
  refine st_cv (na := 1) (st := [.inl v26, .inr (.inr (.inl 119))]) jo_119 rfl rfl rfl (c_X10_drink_119 v26 g24) rfl ?_
  rintro _ _ g29 ⟨rfl, ft28, rfl, zt28⟩ kt28
  have fg29 : jfr w_X10_passDay_119_113 h g29 := jfr_tr fg24 ft28 ws_X10_drink_119__X10_passDay_119_113
  replace zt28 : g29 = jDk 119 120 v26 g24 := zt28
  have hc30 : t3 = jMc 121 126 h := by
    rw [zt3.1]; unfold jMc; rw [eg1, jup_ne (by omega), jup_ne (by omega), jup_ne (by omega)]
  exact st_r0 (ls := []) ⟨rfl, rfl, fg29, t3, rfl, trivial, (by refine ⟨hc30, ?_⟩; subst zt28 ev26 eg24 ev22 ev15 zt13 ev11 zt8 zt6 y5 eg1; unfold jPD jQ5 jQ4 jQ3 jP1 jP5; (repeat (first | rw [if_pos (by omega)] | rw [if_neg (by omega)])); all_goals ((try rw [e10]); (try rfl)))⟩
