def w_X10_letIn_29 (i k : Int) : Prop := (i = 31) ∨ (36 ≤ i ∧ i ≤ 83) ∨ (i = 29 ∧ k = 10)
def k_X10_letIn_29 (h : JH) (v : Option JV) (r' g : JH) : Prop := r' = jr0 ∧ jfr w_X10_letIn_29 h g ∧ v = none ∧ (True)
set_option maxHeartbeats 4000000 in
theorem c_X10_letIn_29 {E : JE} {l : Launch} (h : JH) : jMt E l 78 [.inr (.inr (.inl 29)), .inr (.inr (.inl 16))] 229 jr0 h (k_X10_letIn_29 h) := by
  refine jMt0 (nL := 3) (ls := [.inr (.inr (.inl 29)), .inr (.inr (.inl 16)), .inr (.inr (.inr ()))]) (by decide +kernel) (by decide +kernel) (by decide +kernel) rfl rfl ?_
  have f0 : jfr w_X10_letIn_29 h h := jfr_rf _ _
  have key : ∀ N : Nat, (∀ (x2 : Int) (g : JH), (0 ≤ x2 ∧ x2 ≤ 16) → jfr w_X10_letIn_29 h g → (16 - x2) < (N : Int) → jGo E l 78 229 229 (jRK (k_X10_letIn_29 h)) 2 [.inr (.inr (.inl 29)), .inr (.inr (.inl 16)), .inl x2] [] 229 jr0 g) := by
    intro N
    induction N with
    | zero => exact fun _ _ hi _ hN => absurd hN (by omega)
    | succ N ih =>
      intro x2 g hi hf hN
      refine jGo_blk qX10_letIn_2 ?_
      refine st_gi jo_29 (fun v1 ev1 b2 => ?_)
      have ev1 : v1 = g 29 6 := ev1
      have b2 := (jbf_10_6 jo_29 _).1 b2
      refine And.intro (fun c3 => ?_) (fun c3 => ?_)
      · have c3 : v1 ≤ x2 := c3
        show jGo E l 78 229 229 _ 55 [.inr (.inr (.inl 29)), .inr (.inr (.inl 16)), .inl x2] [] 229 jr0 g
        refine jGo_blk qX10_letIn_55 ?_
        exact ⟨rfl, rfl, hf, rfl, trivial⟩
      · have c3 : x2 < v1 := by first | exact c3 | exact Int.not_le.mp c3 | exact Int.not_lt.mp c3 | exact Decidable.not_not.mp c3
        refine st_gr jo_29 jr_29_1 ?_
        refine st_ai jo_31 (show 0 ≤ 0 by omega) (show 0 < ((6 : Nat) : Int) by omega) (fun v4 ev4 b5 => ?_)
        have ev4 : v4 = g 31 0 := ev4
        have b5 := (jba_31 0 _).1 b5
        refine And.intro (fun c6 => ?_) (fun c6 => ?_)
        · have c6 : ¬ v4 = (-1) := c6
          show jGo E l 78 229 229 _ 55 [.inr (.inr (.inl 29)), .inr (.inr (.inl 16)), .inl x2] [] 229 jr0 g
          refine jGo_blk qX10_letIn_55 ?_
          exact ⟨rfl, rfl, hf, rfl, trivial⟩
        · have c6 : v4 = (-1) := by first | exact c6 | exact Int.not_le.mp c6 | exact Int.not_lt.mp c6 | exact Decidable.not_not.mp c6
          refine st_gr jo_29 jr_29_3 ?_
          refine st_gr jo_29 jr_29_5 ?_
          refine st_ai jo_34 (show 0 ≤ x2 by omega) (show x2 < ((16 : Nat) : Int) by omega) (fun v7 ev7 b8 => ?_)
          have ev7 : v7 = g 34 x2 := ev7
          have b8 := (jba_34 x2 _).1 b8
          refine st_ar jo_33 (by decide) (show 0 ≤ v7 by omega) (show v7 < ((16 : Nat) : Int) by omega) (fun u9 eu9 => ?_)
          have eu9 : u9 = jr0 33 v7 := eu9
          have qu9 : u9 = 36 + 3 * v7 := eu9.trans (jhul_33 v7 (by omega) (by omega)).1
          have hu9 : jHl u9 := by rw [eu9]; exact (jhul_33 v7 (by omega) (by omega)).2
          refine st_gi hu9.1 (fun v10 ev10 b11 => ?_)
          have ev10 : v10 = g u9 3 := ev10
          have b11 := (jbf_4_3 hu9.1 _).1 b11
          refine And.intro (fun c12 => ?_) (fun c12 => ?_)
          · have c12 : ¬ v10 = 0 := c12
            show jGo E l 78 229 229 _ 49 [.inr (.inr (.inl 29)), .inr (.inr (.inl 16)), .inl x2] [] 229 jr0 g
            refine jGo_blk qX10_letIn_49 ?_
            have e13 : jw32 (x2 + 1) = x2 + 1 := j32e (by omega) (by omega)
            show jGo E l 78 229 229 _ 2 [.inr (.inr (.inl 29)), .inr (.inr (.inl 16)), .inl (jw32 (x2 + 1))] [] 229 jr0 g
            exact ih (jw32 (x2 + 1)) g (by omega) hf (by omega)
          · have c12 : v10 = 0 := by first | exact c12 | exact Int.not_le.mp c12 | exact Int.not_lt.mp c12 | exact Decidable.not_not.mp c12
            refine st_gr jo_29 jr_29_5 ?_
            refine st_ai jo_34 (show 0 ≤ x2 by omega) (show x2 < ((16 : Nat) : Int) by omega) (fun v14 ev14 b15 => ?_)
            have ev14 : v14 = g 34 x2 := ev14
            have b15 := (jba_34 x2 _).1 b15
            refine st_cv (na := 3) (st := [.inr (.inr (.inl 16)), .inl 0, .inl v14, .inr (.inr (.inl 29))]) jo_29 rfl rfl rfl (c_X10_berth_29 v14 0 g (by omega) (by omega)) rfl ?_
            rintro _ _ g17 ⟨rfl, ft16, rfl, zt16⟩ kt16
            have fg17 : jfr w_X10_letIn_29 h g17 := jfr_tr hf ft16 (fun i k q => by unfold w_X10_berth_29 at q; unfold w_X10_letIn_29; omega)
            show jGo E l 78 229 229 _ 49 [.inr (.inr (.inl 29)), .inr (.inr (.inl 16)), .inl x2] [] 229 jr0 g17
            refine jGo_blk qX10_letIn_49 ?_
            have e18 : jw32 (x2 + 1) = x2 + 1 := j32e (by omega) (by omega)
            show jGo E l 78 229 229 _ 2 [.inr (.inr (.inl 29)), .inr (.inr (.inl 16)), .inl (jw32 (x2 + 1))] [] 229 jr0 g17
            exact ih (jw32 (x2 + 1)) g17 (by omega) fg17 (by omega)
  refine jGo_blk qX10_letIn_0 ?_
  show jGo E l 78 229 229 _ 2 [.inr (.inr (.inl 29)), .inr (.inr (.inl 16)), .inl 0] [] 229 jr0 h
  exact (key 1000000000000) 0 h (by omega) f0 (by omega)

def k_X10_hasAll_29 (a1 : Int) (h : JH) (v : Option JV) (r' g : JH) : Prop := r' = jr0 ∧ h = g ∧ ∃ x : Int, v = some (.inl x) ∧ (0 ≤ x ∧ x ≤ 1) ∧ (True)
set_option maxHeartbeats 4000000 in
theorem c_X10_hasAll_29 {E : JE} {l : Launch} (a1 : Int) (h : JH) (ha1 : jF 229 a1 1 6) : jMt E l 79 [.inr (.inr (.inl 29)), .inr (.inr (.inl a1))] 229 jr0 h (k_X10_hasAll_29 a1 h) := by
  refine jMt0 (nL := 3) (ls := [.inr (.inr (.inl 29)), .inr (.inr (.inl a1)), .inr (.inr (.inr ()))]) (by decide +kernel) (by decide +kernel) (by decide +kernel) rfl rfl ?_
  have key : ∀ N : Nat, (∀ (x2 : Int), (0 ≤ x2 ∧ x2 ≤ 6) → (6 - x2) < (N : Int) → jGo E l 79 229 229 (jRK (k_X10_hasAll_29 a1 h)) 2 [.inr (.inr (.inl 29)), .inr (.inr (.inl a1)), .inl x2] [] 229 jr0 h) := by
    intro N
    induction N with
    | zero => exact fun _ hi hN => absurd hN (by omega)
    | succ N ih =>
      intro x2 hi hN
      refine jGo_blk qX10_hasAll_2 ?_
      refine And.intro (fun c1 => ?_) (fun c1 => ?_)
      · have c1 : 6 ≤ x2 := c1
        show jGo E l 79 229 229 _ 28 [.inr (.inr (.inl 29)), .inr (.inr (.inl a1)), .inl x2] [] 229 jr0 h
        refine jGo_blk qX10_hasAll_28 ?_
        exact st_r1 (ls := []) (show (1 : Int) = 0 ∨ (1 : Int) = 1 by omega) ⟨rfl, rfl, rfl, 1, rfl, (by omega), trivial⟩
      · have c1 : x2 < 6 := by first | exact c1 | exact Int.not_le.mp c1 | exact Int.not_lt.mp c1 | exact Decidable.not_not.mp c1
        refine st_gr jo_29 jr_29_0 ?_
        refine st_ai jo_30 (show 0 ≤ x2 by omega) (show x2 < ((6 : Nat) : Int) by omega) (fun v2 ev2 b3 => ?_)
        have ev2 : v2 = h 30 x2 := ev2
        have b3 := (jba_30 x2 _).1 b3
        refine st_ai ha1 (show 0 ≤ x2 by omega) (show x2 < ((6 : Nat) : Int) by omega) (fun v4 ev4 b5 => ?_)
        have ev4 : v4 = h a1 x2 := ev4
        refine And.intro (fun c6 => ?_) (fun c6 => ?_)
        · have c6 : v4 ≤ v2 := c6
          show jGo E l 79 229 229 _ 22 [.inr (.inr (.inl 29)), .inr (.inr (.inl a1)), .inl x2] [] 229 jr0 h
          refine jGo_blk qX10_hasAll_22 ?_
          have e7 : jw32 (x2 + 1) = x2 + 1 := j32e (by omega) (by omega)
          show jGo E l 79 229 229 _ 2 [.inr (.inr (.inl 29)), .inr (.inr (.inl a1)), .inl (jw32 (x2 + 1))] [] 229 jr0 h
          exact ih (jw32 (x2 + 1)) (by omega) (by omega)
        · have c6 : v2 < v4 := by first | exact c6 | exact Int.not_le.mp c6 | exact Int.not_lt.mp c6 | exact Decidable.not_not.mp c6
          exact st_r1 (ls := []) (show (0 : Int) = 0 ∨ (0 : Int) = 1 by omega) ⟨rfl, rfl, rfl, 0, rfl, (by omega), trivial⟩
  refine jGo_blk qX10_hasAll_0 ?_
  show jGo E l 79 229 229 _ 2 [.inr (.inr (.inl 29)), .inr (.inr (.inl a1)), .inl 0] [] 229 jr0 h
  exact (key 1000000000000) 0 (by omega) (by omega)

def w_X10_takeGoods_29 (i k : Int) : Prop := (i = 30) ∨ (36 ≤ i ∧ i ≤ 83) ∨ (i = 29 ∧ k = 10)
def k_X10_takeGoods_29 (h : JH) (v : Option JV) (r' g : JH) : Prop := r' = jr0 ∧ jfr w_X10_takeGoods_29 h g ∧ v = none ∧ (True)
set_option maxHeartbeats 4000000 in
theorem c_X10_takeGoods_29 {E : JE} {l : Launch} (h : JH) : jMt E l 80 [.inr (.inr (.inl 29))] 229 jr0 h (k_X10_takeGoods_29 h) := by
  refine jMt0 (nL := 4) (ls := [.inr (.inr (.inl 29)), .inr (.inr (.inr ())), .inr (.inr (.inr ())), .inr (.inr (.inr ()))]) (by decide +kernel) (by decide +kernel) (by decide +kernel) rfl rfl ?_
  have f0 : jfr w_X10_takeGoods_29 h h := jfr_rf _ _
  have key : ∀ N : Nat, (∀ (x1 : Int) (x2 : JV) (x3 : JV) (g : JH), (0 ≤ x1 ∧ x1 ≤ 16) → jfr w_X10_takeGoods_29 h g → (16 - x1) * 1000000 + 999999 < (N : Int) → jGo E l 80 229 229 (jRK (k_X10_takeGoods_29 h)) 2 [.inr (.inr (.inl 29)), .inl x1, x2, x3] [] 229 jr0 g) ∧
      (∀ (x1 : Int) (x2 : Int) (x3 : Int) (g : JH), (0 ≤ x1 ∧ x1 ≤ 15 ∧ 36 ≤ x2 ∧ x2 + 2 ≤ 83 ∧ 0 ≤ x3 ∧ x3 ≤ 6) → jHl x2 → jfr w_X10_takeGoods_29 h g → (16 - x1) * 1000000 + (6 - x3) < (N : Int) → jGo E l 80 229 229 (jRK (k_X10_takeGoods_29 h)) 53 [.inr (.inr (.inl 29)), .inl x1, .inr (.inr (.inl x2)), .inl x3] [] 229 jr0 g) := by
    intro N
    induction N with
    | zero => exact ⟨fun _ _ _ _ hi _ hN => absurd hN (by omega), fun _ _ _ _ hi _ _ hN => absurd hN (by omega)⟩
    | succ N ih =>
      refine ⟨?_, ?_⟩
      · intro x1 x2 x3 g hi hf hN
        refine jGo_blk qX10_takeGoods_2 ?_
        refine st_gi jo_29 (fun v1 ev1 b2 => ?_)
        have ev1 : v1 = g 29 6 := ev1
        have b2 := (jbf_10_6 jo_29 _).1 b2
        refine And.intro (fun c3 => ?_) (fun c3 => ?_)
        · have c3 : v1 ≤ x1 := c3
          show jGo E l 80 229 229 _ 109 [.inr (.inr (.inl 29)), .inl x1, x2, x3] [] 229 jr0 g
          refine jGo_blk qX10_takeGoods_109 ?_
          exact ⟨rfl, rfl, hf, rfl, trivial⟩
        · have c3 : x1 < v1 := by first | exact c3 | exact Int.not_le.mp c3 | exact Int.not_lt.mp c3 | exact Decidable.not_not.mp c3
          refine st_gr jo_29 jr_29_3 ?_
          refine st_gr jo_29 jr_29_5 ?_
          refine st_ai jo_34 (show 0 ≤ x1 by omega) (show x1 < ((16 : Nat) : Int) by omega) (fun v4 ev4 b5 => ?_)
          have ev4 : v4 = g 34 x1 := ev4
          have b5 := (jba_34 x1 _).1 b5
          refine st_ar jo_33 (by decide) (show 0 ≤ v4 by omega) (show v4 < ((16 : Nat) : Int) by omega) (fun u6 eu6 => ?_)
          have eu6 : u6 = jr0 33 v4 := eu6
          have qu6 : u6 = 36 + 3 * v4 := eu6.trans (jhul_33 v4 (by omega) (by omega)).1
          have hu6 : jHl u6 := by rw [eu6]; exact (jhul_33 v4 (by omega) (by omega)).2
          refine And.intro (show u6 ≠ -1 by omega) ?_
          refine st_gi hu6.1 (fun v7 ev7 b8 => ?_)
          have ev7 : v7 = g u6 3 := ev7
          have b8 := (jbf_4_3 hu6.1 _).1 b8
          refine And.intro (fun c9 => ?_) (fun c9 => ?_)
          · have c9 : ¬ v7 = 1 := c9
            show jGo E l 80 229 229 _ 103 [.inr (.inr (.inl 29)), .inl x1, .inr (.inr (.inl u6)), x3] [] 229 jr0 g
            refine jGo_blk qX10_takeGoods_103 ?_
            have e10 : jw32 (x1 + 1) = x1 + 1 := j32e (by omega) (by omega)
            show jGo E l 80 229 229 _ 2 [.inr (.inr (.inl 29)), .inl (jw32 (x1 + 1)), .inr (.inr (.inl u6)), x3] [] 229 jr0 g
            exact ih.1 (jw32 (x1 + 1)) (.inr (.inr (.inl u6))) x3 g (by omega) hf (by omega)
          · have c9 : v7 = 1 := by first | exact c9 | exact Int.not_le.mp c9 | exact Int.not_lt.mp c9 | exact Decidable.not_not.mp c9
            refine st_gi hu6.1 (fun v11 ev11 b12 => ?_)
            have ev11 : v11 = g u6 7 := ev11
            have b12 := (jbf_4_7 hu6.1 _).1 b12
            refine And.intro (fun c13 => ?_) (fun c13 => ?_)
            · have c13 : v11 = 0 := c13
              show jGo E l 80 229 229 _ 40 [.inr (.inr (.inl 29)), .inl x1, .inr (.inr (.inl u6)), x3] [] 229 jr0 g
              refine jGo_blk qX10_takeGoods_40 ?_
              refine st_gr hu6.1 rfl ?_
              refine st_cv (na := 1) (st := [.inr (.inr (.inl (jr0 u6 11))), .inr (.inr (.inl 29))]) jo_29 rfl rfl rfl (c_X10_hasAll_29 (jr0 u6 11) g hu6.2.1) rfl ?_
              rintro _ _ _ ⟨rfl, rfl, t14, rfl, ht14, zt14⟩ kt14
              have kt14 : -2147483648 ≤ t14 ∧ t14 ≤ 2147483647 := kt14
              have ht14 : 0 ≤ t14 ∧ t14 ≤ 1 := ht14
              refine And.intro (fun c16 => ?_) (fun c16 => ?_)
              · have c16 : t14 = 0 := c16
                show jGo E l 80 229 229 _ 93 [.inr (.inr (.inl 29)), .inl x1, .inr (.inr (.inl u6)), x3] [] 229 jr0 g
                refine jGo_blk qX10_takeGoods_93 ?_
                refine st_gi hu6.1 (fun v17 ev17 b18 => ?_)
                have ev17 : v17 = g u6 8 := ev17
                have b18 := (jbf_4_8 hu6.1 _).1 b18
                refine st_pi hu6.1 (fun hx => (jbf_4_8 hu6.1 _).2 hx) (fun g19 eg19 => ?_)
                have eg19 : g19 = jup g u6 8 (jw32 (v17 + 1)) := eg19
                have fg19 : jfr w_X10_takeGoods_29 h g19 := jfr_up hf eg19 (by unfold w_X10_takeGoods_29; omega)
                have e20 : g19 u6 8 = jw32 (v17 + 1) := jup_s eg19
                show jGo E l 80 229 229 _ 103 [.inr (.inr (.inl 29)), .inl x1, .inr (.inr (.inl u6)), x3] [] 229 jr0 g19
                refine jGo_blk qX10_takeGoods_103 ?_
                have e21 : jw32 (x1 + 1) = x1 + 1 := j32e (by omega) (by omega)
                show jGo E l 80 229 229 _ 2 [.inr (.inr (.inl 29)), .inl (jw32 (x1 + 1)), .inr (.inr (.inl u6)), x3] [] 229 jr0 g19
                exact ih.1 (jw32 (x1 + 1)) (.inr (.inr (.inl u6))) x3 g19 (by omega) fg19 (by omega)
              · have c16 : ¬ t14 = 0 := by first | exact c16 | exact Int.not_le.mp c16 | exact Int.not_lt.mp c16 | exact Decidable.not_not.mp c16
                show jGo E l 80 229 229 _ 53 [.inr (.inr (.inl 29)), .inl x1, .inr (.inr (.inl u6)), .inl 0] [] 229 jr0 g
                exact ih.2 x1 u6 0 g (by omega) hu6 hf (by omega)
            · have c13 : ¬ v11 = 0 := by first | exact c13 | exact Int.not_le.mp c13 | exact Int.not_lt.mp c13 | exact Decidable.not_not.mp c13
              show jGo E l 80 229 229 _ 103 [.inr (.inr (.inl 29)), .inl x1, .inr (.inr (.inl u6)), x3] [] 229 jr0 g
              refine jGo_blk qX10_takeGoods_103 ?_
              have e22 : jw32 (x1 + 1) = x1 + 1 := j32e (by omega) (by omega)
              show jGo E l 80 229 229 _ 2 [.inr (.inr (.inl 29)), .inl (jw32 (x1 + 1)), .inr (.inr (.inl u6)), x3] [] 229 jr0 g
              exact ih.1 (jw32 (x1 + 1)) (.inr (.inr (.inl u6))) x3 g (by omega) hf (by omega)
      · intro x1 x2 x3 g hi hu2 hf hN
        refine jGo_blk qX10_takeGoods_53 ?_
        refine And.intro (fun c23 => ?_) (fun c23 => ?_)
        · have c23 : 6 ≤ x3 := c23
          show jGo E l 80 229 229 _ 80 [.inr (.inr (.inl 29)), .inl x1, .inr (.inr (.inl x2)), .inl x3] [] 229 jr0 g
          refine jGo_blk qX10_takeGoods_80 ?_
          refine st_pi hu2.1 (fun hx => (jbf_4_7 hu2.1 _).2 (show 0 ≤ 1 ∧ 1 ≤ 1 by omega)) (fun g24 eg24 => ?_)
          have eg24 : g24 = jup g x2 7 1 := eg24
          have fg24 : jfr w_X10_takeGoods_29 h g24 := jfr_up hf eg24 (by unfold w_X10_takeGoods_29; omega)
          have e25 : g24 x2 7 = 1 := jup_s eg24
          refine st_pi jo_29 (fun hx => (jbf_10_10 jo_29 _).2 (show 0 ≤ 1 ∧ 1 ≤ 1 by omega)) (fun g26 eg26 => ?_)
          have eg26 : g26 = jup g24 29 10 1 := eg26
          have fg26 : jfr w_X10_takeGoods_29 h g26 := jfr_up fg24 eg26 (by unfold w_X10_takeGoods_29; omega)
          have e27 : g26 29 10 = 1 := jup_s eg26
          show jGo E l 80 229 229 _ 103 [.inr (.inr (.inl 29)), .inl x1, .inr (.inr (.inl x2)), .inl x3] [] 229 jr0 g26
          refine jGo_blk qX10_takeGoods_103 ?_
          have e28 : jw32 (x1 + 1) = x1 + 1 := j32e (by omega) (by omega)
          show jGo E l 80 229 229 _ 2 [.inr (.inr (.inl 29)), .inl (jw32 (x1 + 1)), .inr (.inr (.inl x2)), .inl x3] [] 229 jr0 g26
          exact ih.1 (jw32 (x1 + 1)) (.inr (.inr (.inl x2))) (.inl x3) g26 (by omega) fg26 (by omega)
        · have c23 : x3 < 6 := by first | exact c23 | exact Int.not_le.mp c23 | exact Int.not_lt.mp c23 | exact Decidable.not_not.mp c23
          refine st_gr jo_29 jr_29_0 ?_
          refine st_ai jo_30 (show 0 ≤ x3 by omega) (show x3 < ((6 : Nat) : Int) by omega) (fun v29 ev29 b30 => ?_)
          have ev29 : v29 = g 30 x3 := ev29
          have b30 := (jba_30 x3 _).1 b30
          refine st_gr hu2.1 rfl ?_
          refine st_ai hu2.2.1 (show 0 ≤ x3 by omega) (show x3 < ((6 : Nat) : Int) by omega) (fun v31 ev31 b32 => ?_)
          have ev31 : v31 = g (jr0 x2 11) x3 := ev31
          have b32 := (hu2.2.2.2.2.2.1 x3 _).1 b32
          refine st_si jo_30 (show 0 ≤ x3 by omega) (show x3 < ((6 : Nat) : Int) by omega) (fun hx => (jba_30 _ _).2 hx) (fun g33 eg33 => ?_)
          have eg33 : g33 = jup g 30 x3 (jw32 (v29 - v31)) := eg33
          have fg33 : jfr w_X10_takeGoods_29 h g33 := jfr_up hf eg33 (by unfold w_X10_takeGoods_29; omega)
          have e34 : g33 30 x3 = jw32 (v29 - v31) := jup_s eg33
          have e35 : jw32 (x3 + 1) = x3 + 1 := j32e (by omega) (by omega)
          show jGo E l 80 229 229 _ 53 [.inr (.inr (.inl 29)), .inl x1, .inr (.inr (.inl x2)), .inl (jw32 (x3 + 1))] [] 229 jr0 g33
          exact ih.2 x1 x2 (jw32 (x3 + 1)) g33 (by omega) hu2 fg33 (by omega)
  refine jGo_blk qX10_takeGoods_0 ?_
  show jGo E l 80 229 229 _ 2 [.inr (.inr (.inl 29)), .inl 0, .inr (.inr (.inr ())), .inr (.inr (.inr ()))] [] 229 jr0 h
  exact (key 1000000000000000000).1 0 (.inr (.inr (.inr ()))) (.inr (.inr (.inr ()))) h (by omega) f0 (by omega)

def w_X10_doWork_29_107 (i k : Int) : Prop := (35 ≤ i ∧ i ≤ 83) ∨ (i = 29 ∧ 9 ≤ k ∧ k ≤ 10)
def k_X10_doWork_29_107 (a2 : Int) (a3 : Int) (h : JH) (v : Option JV) (r' g : JH) : Prop := r' = jr0 ∧ jfr w_X10_doWork_29_107 h g ∧ v = none ∧ (True)
set_option maxHeartbeats 4000000 in
theorem c_X10_doWork_29_107 {E : JE} {l : Launch} (a2 : Int) (a3 : Int) (h : JH) (p2 : 0 ≤ a2 ∧ a2 ≤ 0) : jMt E l 81 [.inr (.inr (.inl 29)), .inr (.inr (.inl 107)), .inl a2, .inl a3] 229 jr0 h (k_X10_doWork_29_107 a2 a3 h) := by
  refine jMt0 (nL := 7) (ls := [.inr (.inr (.inl 29)), .inr (.inr (.inl 107)), .inl a2, .inl a3, .inr (.inr (.inr ())), .inr (.inr (.inr ())), .inr (.inr (.inr ()))]) (by decide +kernel) (by decide +kernel) (by decide +kernel) rfl rfl ?_
  have f0 : jfr w_X10_doWork_29_107 h h := jfr_rf _ _
  have key : ∀ N : Nat, (∀ (x4 : Int) (x5 : JV) (x6 : JV) (g : JH), (0 ≤ x4 ∧ x4 ≤ 16) → jfr w_X10_doWork_29_107 h g → (16 - x4) + 20000 < (N : Int) → jGo E l 81 229 229 (jRK (k_X10_doWork_29_107 a2 a3 h)) 14 [.inr (.inr (.inl 29)), .inr (.inr (.inl 107)), .inl a2, .inl a3, .inl x4, x5, x6] [] 229 jr0 g) ∧
      (∀ (x4 : Int) (x5 : JV) (x6 : JV) (g : JH), (0 ≤ x4 ∧ x4 ≤ 4) → jfr w_X10_doWork_29_107 h g → (4 - x4) < (N : Int) → jGo E l 81 229 229 (jRK (k_X10_doWork_29_107 a2 a3 h)) 143 [.inr (.inr (.inl 29)), .inr (.inr (.inl 107)), .inl a2, .inl a3, .inl x4, x5, x6] [] 229 jr0 g) := by
    intro N
    induction N with
    | zero => exact ⟨fun _ _ _ _ hi _ hN => absurd hN (by omega), fun _ _ _ _ hi _ hN => absurd hN (by omega)⟩
    | succ N ih =>
      refine ⟨?_, ?_⟩
      · intro x4 x5 x6 g hi hf hN
        refine jGo_blk qX10_doWork_14 ?_
        refine st_gi jo_29 (fun v1 ev1 b2 => ?_)
        have ev1 : v1 = g 29 6 := ev1
        have b2 := (jbf_10_6 jo_29 _).1 b2
        refine And.intro (fun c3 => ?_) (fun c3 => ?_)
        · have c3 : v1 ≤ x4 := c3
          show jGo E l 81 229 229 _ 140 [.inr (.inr (.inl 29)), .inr (.inr (.inl 107)), .inl a2, .inl a3, .inl x4, x5, x6] [] 229 jr0 g
          refine jGo_blk qX10_doWork_140 ?_
          show jGo E l 81 229 229 _ 143 [.inr (.inr (.inl 29)), .inr (.inr (.inl 107)), .inl a2, .inl a3, .inl 0, x5, x6] [] 229 jr0 g
          exact ih.2 0 x5 x6 g (by omega) hf (by omega)
        · have c3 : x4 < v1 := by first | exact c3 | exact Int.not_le.mp c3 | exact Int.not_lt.mp c3 | exact Decidable.not_not.mp c3
          refine st_gr jo_29 jr_29_3 ?_
          refine st_gr jo_29 jr_29_5 ?_
          refine st_ai jo_34 (show 0 ≤ x4 by omega) (show x4 < ((16 : Nat) : Int) by omega) (fun v4 ev4 b5 => ?_)
          have ev4 : v4 = g 34 x4 := ev4
          have b5 := (jba_34 x4 _).1 b5
          refine st_ar jo_33 (by decide) (show 0 ≤ v4 by omega) (show v4 < ((16 : Nat) : Int) by omega) (fun u6 eu6 => ?_)
          have eu6 : u6 = jr0 33 v4 := eu6
          have qu6 : u6 = 36 + 3 * v4 := eu6.trans (jhul_33 v4 (by omega) (by omega)).1
          have hu6 : jHl u6 := by rw [eu6]; exact (jhul_33 v4 (by omega) (by omega)).2
          refine And.intro (show u6 ≠ -1 by omega) ?_
          refine st_gi hu6.1 (fun v7 ev7 b8 => ?_)
          have ev7 : v7 = g u6 3 := ev7
          have b8 := (jbf_4_3 hu6.1 _).1 b8
          refine And.intro (fun c9 => ?_) (fun c9 => ?_)
          · have c9 : ¬ v7 = 1 := c9
            show jGo E l 81 229 229 _ 134 [.inr (.inr (.inl 29)), .inr (.inr (.inl 107)), .inl a2, .inl a3, .inl x4, .inr (.inr (.inl u6)), x6] [] 229 jr0 g
            refine jGo_blk qX10_doWork_134 ?_
            have e10 : jw32 (x4 + 1) = x4 + 1 := j32e (by omega) (by omega)
            show jGo E l 81 229 229 _ 14 [.inr (.inr (.inl 29)), .inr (.inr (.inl 107)), .inl a2, .inl a3, .inl (jw32 (x4 + 1)), .inr (.inr (.inl u6)), x6] [] 229 jr0 g
            exact ih.1 (jw32 (x4 + 1)) (.inr (.inr (.inl u6))) x6 g (by omega) hf (by omega)
          · have c9 : v7 = 1 := by first | exact c9 | exact Int.not_le.mp c9 | exact Int.not_lt.mp c9 | exact Decidable.not_not.mp c9
            refine st_gi hu6.1 (fun v11 ev11 b12 => ?_)
            have ev11 : v11 = g u6 7 := ev11
            have b12 := (jbf_4_7 hu6.1 _).1 b12
            refine And.intro (fun c13 => ?_) (fun c13 => ?_)
            · have c13 : v11 = 0 := c13
              show jGo E l 81 229 229 _ 134 [.inr (.inr (.inl 29)), .inr (.inr (.inl 107)), .inl a2, .inl a3, .inl x4, .inr (.inr (.inl u6)), x6] [] 229 jr0 g
              refine jGo_blk qX10_doWork_134 ?_
              have e14 : jw32 (x4 + 1) = x4 + 1 := j32e (by omega) (by omega)
              show jGo E l 81 229 229 _ 14 [.inr (.inr (.inl 29)), .inr (.inr (.inl 107)), .inl a2, .inl a3, .inl (jw32 (x4 + 1)), .inr (.inr (.inl u6)), x6] [] 229 jr0 g
              exact ih.1 (jw32 (x4 + 1)) (.inr (.inr (.inl u6))) x6 g (by omega) hf (by omega)
            · have c13 : ¬ v11 = 0 := by first | exact c13 | exact Int.not_le.mp c13 | exact Int.not_lt.mp c13 | exact Decidable.not_not.mp c13
              refine st_gi hu6.1 (fun v15 ev15 b16 => ?_)
              have ev15 : v15 = g u6 6 := ev15
              have b16 := (jbf_4_6 hu6.1 _).1 b16
              refine And.intro (fun c17 => ?_) (fun c17 => ?_)
              · have c17 : v15 ≤ 0 := c17
                show jGo E l 81 229 229 _ 134 [.inr (.inr (.inl 29)), .inr (.inr (.inl 107)), .inl a2, .inl a3, .inl x4, .inr (.inr (.inl u6)), x6] [] 229 jr0 g
                refine jGo_blk qX10_doWork_134 ?_
                have e18 : jw32 (x4 + 1) = x4 + 1 := j32e (by omega) (by omega)
                show jGo E l 81 229 229 _ 14 [.inr (.inr (.inl 29)), .inr (.inr (.inl 107)), .inl a2, .inl a3, .inl (jw32 (x4 + 1)), .inr (.inr (.inl u6)), x6] [] 229 jr0 g
                exact ih.1 (jw32 (x4 + 1)) (.inr (.inr (.inl u6))) x6 g (by omega) hf (by omega)
              · have c17 : 0 < v15 := by first | exact c17 | exact Int.not_le.mp c17 | exact Int.not_lt.mp c17 | exact Decidable.not_not.mp c17
                refine st_gr jo_29 jr_29_11 ?_
                refine st_gi hu6.1 (fun v19 ev19 b20 => ?_)
                have ev19 : v19 = g u6 5 := ev19
                have b20 := (jbf_4_5 hu6.1 _).1 b20
                refine st_ai jo_35 (show 0 ≤ v19 by omega) (show v19 < ((4 : Nat) : Int) by omega) (fun v21 ev21 b22 => ?_)
                have ev21 : v21 = g 35 v19 := ev21
                have b22 := (jba_35 v19 _).1 b22
                refine st_m0 rfl (fun v23 m1v23 m2v23 m3v23 => ?_)
                have m1v23 : v23 ≤ v21 := m1v23; have m2v23 : v23 ≤ a3 := m2v23; have m3v23 : v23 = v21 ∨ v23 = a3 := m3v23
                refine st_gi hu6.1 (fun v24 ev24 b25 => ?_)
                have ev24 : v24 = g u6 6 := ev24
                have b25 := (jbf_4_6 hu6.1 _).1 b25
                refine st_m0 rfl (fun v26 m1v26 m2v26 m3v26 => ?_)
                have m1v26 : v26 ≤ v23 := m1v26; have m2v26 : v26 ≤ v24 := m2v26; have m3v26 : v26 = v23 ∨ v26 = v24 := m3v26
                refine st_gr jo_29 jr_29_11 ?_
                refine st_gi hu6.1 (fun v27 ev27 b28 => ?_)
                have ev27 : v27 = g u6 5 := ev27
                have b28 := (jbf_4_5 hu6.1 _).1 b28
                refine st_ai jo_35 (show 0 ≤ v27 by omega) (show v27 < ((4 : Nat) : Int) by omega) (fun v29 ev29 b30 => ?_)
                have ev29 : v29 = g 35 v27 := ev29
                have b30 := (jba_35 v27 _).1 b30
                refine st_si jo_35 (show 0 ≤ v27 by omega) (show v27 < ((4 : Nat) : Int) by omega) (fun hx => (jba_35 _ _).2 hx) (fun g31 eg31 => ?_)
                have eg31 : g31 = jup g 35 v27 (jw32 (v29 - v26)) := eg31
                have fg31 : jfr w_X10_doWork_29_107 h g31 := jfr_up hf eg31 (by unfold w_X10_doWork_29_107; omega)
                have e32 : g31 35 v27 = jw32 (v29 - v26) := jup_s eg31
                refine st_gi hu6.1 (fun v33 ev33 b34 => ?_)
                have ev33 : v33 = g31 u6 6 := ev33
                have b34 := (jbf_4_6 hu6.1 _).1 b34
                refine st_pi hu6.1 (fun hx => (jbf_4_6 hu6.1 _).2 hx) (fun g35 eg35 => ?_)
                have eg35 : g35 = jup g31 u6 6 (jw32 (v33 - v26)) := eg35
                have fg35 : jfr w_X10_doWork_29_107 h g35 := jfr_up fg31 eg35 (by unfold w_X10_doWork_29_107; omega)
                have e36 : g35 u6 6 = jw32 (v33 - v26) := jup_s eg35
                refine st_gi jo_29 (fun v37 ev37 b38 => ?_)
                have ev37 : v37 = g35 29 10 := ev37
                have b38 := (jbf_10_10 jo_29 _).1 b38
                have e39 : g35 29 10 = g31 29 10 := jup_o eg35 (by omega)
                have e40 : g31 29 10 = g 29 10 := jup_o eg31 (by omega)
                refine And.intro (fun c41 => ?_) (fun c41 => ?_)
                · have c41 : ¬ v37 = 0 := c41
                  show jGo E l 81 229 229 _ 126 [.inr (.inr (.inl 29)), .inr (.inr (.inl 107)), .inl a2, .inl a3, .inl x4, .inr (.inr (.inl u6)), .inl v26] [.inr (.inr (.inl 29))] 229 jr0 g35
                  refine jGo_blk qX10_doWork_126 ?_
                  show jGo E l 81 229 229 _ 131 [.inr (.inr (.inl 29)), .inr (.inr (.inl 107)), .inl a2, .inl a3, .inl x4, .inr (.inr (.inl u6)), .inl v26] [.inl 1, .inr (.inr (.inl 29))] 229 jr0 g35
                  refine jGo_blk qX10_doWork_131 ?_
                  refine st_pi jo_29 (fun hx => (jbf_10_10 jo_29 _).2 (show 0 ≤ 1 ∧ 1 ≤ 1 by omega)) (fun g42 eg42 => ?_)
                  have eg42 : g42 = jup g35 29 10 1 := eg42
                  have fg42 : jfr w_X10_doWork_29_107 h g42 := jfr_up fg35 eg42 (by unfold w_X10_doWork_29_107; omega)
                  have e43 : g42 29 10 = 1 := jup_s eg42
                  show jGo E l 81 229 229 _ 134 [.inr (.inr (.inl 29)), .inr (.inr (.inl 107)), .inl a2, .inl a3, .inl x4, .inr (.inr (.inl u6)), .inl v26] [] 229 jr0 g42
                  refine jGo_blk qX10_doWork_134 ?_
                  have e44 : jw32 (x4 + 1) = x4 + 1 := j32e (by omega) (by omega)
                  show jGo E l 81 229 229 _ 14 [.inr (.inr (.inl 29)), .inr (.inr (.inl 107)), .inl a2, .inl a3, .inl (jw32 (x4 + 1)), .inr (.inr (.inl u6)), .inl v26] [] 229 jr0 g42
                  exact ih.1 (jw32 (x4 + 1)) (.inr (.inr (.inl u6))) (.inl v26) g42 (by omega) fg42 (by omega)
                · have c41 : v37 = 0 := by first | exact c41 | exact Int.not_le.mp c41 | exact Int.not_lt.mp c41 | exact Decidable.not_not.mp c41
                  refine And.intro (fun c45 => ?_) (fun c45 => ?_)
                  · have c45 : v26 ≤ 0 := c45
                    show jGo E l 81 229 229 _ 130 [.inr (.inr (.inl 29)), .inr (.inr (.inl 107)), .inl a2, .inl a3, .inl x4, .inr (.inr (.inl u6)), .inl v26] [.inr (.inr (.inl 29))] 229 jr0 g35
                    refine jGo_blk qX10_doWork_130 ?_
                    show jGo E l 81 229 229 _ 131 [.inr (.inr (.inl 29)), .inr (.inr (.inl 107)), .inl a2, .inl a3, .inl x4, .inr (.inr (.inl u6)), .inl v26] [.inl 0, .inr (.inr (.inl 29))] 229 jr0 g35
                    refine jGo_blk qX10_doWork_131 ?_
                    refine st_pi jo_29 (fun hx => (jbf_10_10 jo_29 _).2 (show 0 ≤ 0 ∧ 0 ≤ 1 by omega)) (fun g46 eg46 => ?_)
                    have eg46 : g46 = jup g35 29 10 0 := eg46
                    have fg46 : jfr w_X10_doWork_29_107 h g46 := jfr_up fg35 eg46 (by unfold w_X10_doWork_29_107; omega)
                    have e47 : g46 29 10 = 0 := jup_s eg46
                    show jGo E l 81 229 229 _ 134 [.inr (.inr (.inl 29)), .inr (.inr (.inl 107)), .inl a2, .inl a3, .inl x4, .inr (.inr (.inl u6)), .inl v26] [] 229 jr0 g46
                    refine jGo_blk qX10_doWork_134 ?_
                    have e48 : jw32 (x4 + 1) = x4 + 1 := j32e (by omega) (by omega)
                    show jGo E l 81 229 229 _ 14 [.inr (.inr (.inl 29)), .inr (.inr (.inl 107)), .inl a2, .inl a3, .inl (jw32 (x4 + 1)), .inr (.inr (.inl u6)), .inl v26] [] 229 jr0 g46
                    exact ih.1 (jw32 (x4 + 1)) (.inr (.inr (.inl u6))) (.inl v26) g46 (by omega) fg46 (by omega)
                  · have c45 : 0 < v26 := by first | exact c45 | exact Int.not_le.mp c45 | exact Int.not_lt.mp c45 | exact Decidable.not_not.mp c45
                    show jGo E l 81 229 229 _ 126 [.inr (.inr (.inl 29)), .inr (.inr (.inl 107)), .inl a2, .inl a3, .inl x4, .inr (.inr (.inl u6)), .inl v26] [.inr (.inr (.inl 29))] 229 jr0 g35
                    refine jGo_blk qX10_doWork_126 ?_
                    show jGo E l 81 229 229 _ 131 [.inr (.inr (.inl 29)), .inr (.inr (.inl 107)), .inl a2, .inl a3, .inl x4, .inr (.inr (.inl u6)), .inl v26] [.inl 1, .inr (.inr (.inl 29))] 229 jr0 g35
                    refine jGo_blk qX10_doWork_131 ?_
                    refine st_pi jo_29 (fun hx => (jbf_10_10 jo_29 _).2 (show 0 ≤ 1 ∧ 1 ≤ 1 by omega)) (fun g49 eg49 => ?_)
                    have eg49 : g49 = jup g35 29 10 1 := eg49
                    have fg49 : jfr w_X10_doWork_29_107 h g49 := jfr_up fg35 eg49 (by unfold w_X10_doWork_29_107; omega)
                    have e50 : g49 29 10 = 1 := jup_s eg49
                    show jGo E l 81 229 229 _ 134 [.inr (.inr (.inl 29)), .inr (.inr (.inl 107)), .inl a2, .inl a3, .inl x4, .inr (.inr (.inl u6)), .inl v26] [] 229 jr0 g49
                    refine jGo_blk qX10_doWork_134 ?_
                    have e51 : jw32 (x4 + 1) = x4 + 1 := j32e (by omega) (by omega)
                    show jGo E l 81 229 229 _ 14 [.inr (.inr (.inl 29)), .inr (.inr (.inl 107)), .inl a2, .inl a3, .inl (jw32 (x4 + 1)), .inr (.inr (.inl u6)), .inl v26] [] 229 jr0 g49
                    exact ih.1 (jw32 (x4 + 1)) (.inr (.inr (.inl u6))) (.inl v26) g49 (by omega) fg49 (by omega)
      · intro x4 x5 x6 g hi hf hN
        refine jGo_blk qX10_doWork_143 ?_
        refine And.intro (fun c52 => ?_) (fun c52 => ?_)
        · have c52 : 4 ≤ x4 := c52
          show jGo E l 81 229 229 _ 171 [.inr (.inr (.inl 29)), .inr (.inr (.inl 107)), .inl a2, .inl a3, .inl x4, x5, x6] [] 229 jr0 g
          refine jGo_blk qX10_doWork_171 ?_
          exact ⟨rfl, rfl, hf, rfl, trivial⟩
        · have c52 : x4 < 4 := by first | exact c52 | exact Int.not_le.mp c52 | exact Int.not_lt.mp c52 | exact Decidable.not_not.mp c52
          refine st_gi jo_29 (fun v53 ev53 b54 => ?_)
          have ev53 : v53 = g 29 9 := ev53
          have b54 := (jbf_10_9 jo_29 _).1 b54
          refine st_gr jo_29 jr_29_11 ?_
          refine st_ai jo_35 (show 0 ≤ x4 by omega) (show x4 < ((4 : Nat) : Int) by omega) (fun v55 ev55 b56 => ?_)
          have ev55 : v55 = g 35 x4 := ev55
          have b56 := (jba_35 x4 _).1 b56
          refine st_pi jo_29 (fun hx => (jbf_10_9 jo_29 _).2 hx) (fun g57 eg57 => ?_)
          have eg57 : g57 = jup g 29 9 (jw32 (v53 + v55)) := eg57
          have fg57 : jfr w_X10_doWork_29_107 h g57 := jfr_up hf eg57 (by unfold w_X10_doWork_29_107; omega)
          have e58 : g57 29 9 = jw32 (v53 + v55) := jup_s eg57
          have e59 : jw32 (x4 + 1) = x4 + 1 := j32e (by omega) (by omega)
          show jGo E l 81 229 229 _ 143 [.inr (.inr (.inl 29)), .inr (.inr (.inl 107)), .inl a2, .inl a3, .inl (jw32 (x4 + 1)), x5, x6] [] 229 jr0 g57
          exact ih.2 (jw32 (x4 + 1)) x5 x6 g57 (by omega) fg57 (by omega)
  refine jGo_blk qX10_doWork_0 ?_
  refine st_gr jo_29 jr_29_11 ?_
  refine st_cp jo_35 jo_107 (show 0 ≤ a2 by omega) (show 0 ≤ 0 by omega) (show 0 ≤ 4 by omega) (show a2 + 4 ≤ ((4 : Nat) : Int) by omega) (show 0 + 4 ≤ ((4 : Nat) : Int) by omega) rfl (fun hg j _ _ => (jba_35 _ _).2 (jbd_int (by rw [jo_107.2.2]; decide) (hg _ _))) (fun g60 eg60 => ?_)
  have eg60 : g60 = jcp h 107 a2 35 0 4 := eg60
  have fg60 : jfr w_X10_doWork_29_107 h g60 := jfr_cp f0 eg60 (fun _ => by unfold w_X10_doWork_29_107; omega)
  show jGo E l 81 229 229 _ 14 [.inr (.inr (.inl 29)), .inr (.inr (.inl 107)), .inl a2, .inl a3, .inl 0, .inr (.inr (.inr ())), .inr (.inr (.inr ()))] [] 229 jr0 g60
  exact (key 1000000000000).1 0 (.inr (.inr (.inr ()))) (.inr (.inr (.inr ()))) g60 (by omega) fg60 (by omega)

def w_X10_drink_29 (i k : Int) : Prop := (i = 30) ∨ (i = 29 ∧ k = 8)
def k_X10_drink_29 (a1 : Int) (h : JH) (v : Option JV) (r' g : JH) : Prop := r' = jr0 ∧ jfr w_X10_drink_29 h g ∧ v = none ∧ (True)
set_option maxHeartbeats 4000000 in
theorem c_X10_drink_29 {E : JE} {l : Launch} (a1 : Int) (h : JH) : jMt E l 82 [.inr (.inr (.inl 29)), .inl a1] 229 jr0 h (k_X10_drink_29 a1 h) := by
  refine jMt0 (nL := 3) (ls := [.inr (.inr (.inl 29)), .inl a1, .inr (.inr (.inr ()))]) (by decide +kernel) (by decide +kernel) (by decide +kernel) rfl rfl ?_
  have f0 : jfr w_X10_drink_29 h h := jfr_rf _ _
  refine jGo_blk qX10_drink_0 ?_
  refine st_gr jo_29 jr_29_0 ?_
  refine st_ai jo_30 (show 0 ≤ 5 by omega) (show 5 < ((6 : Nat) : Int) by omega) (fun v1 ev1 b2 => ?_)
  have ev1 : v1 = h 30 5 := ev1
  have b2 := (jba_30 5 _).1 b2
  refine st_m0 rfl (fun v3 m1v3 m2v3 m3v3 => ?_)
  have m1v3 : v3 ≤ a1 := m1v3; have m2v3 : v3 ≤ v1 := m2v3; have m3v3 : v3 = a1 ∨ v3 = v1 := m3v3
  refine st_gr jo_29 jr_29_0 ?_
  refine st_ai jo_30 (show 0 ≤ 5 by omega) (show 5 < ((6 : Nat) : Int) by omega) (fun v4 ev4 b5 => ?_)
  have ev4 : v4 = h 30 5 := ev4
  have b5 := (jba_30 5 _).1 b5
  refine st_si jo_30 (show 0 ≤ 5 by omega) (show 5 < ((6 : Nat) : Int) by omega) (fun hx => (jba_30 _ _).2 hx) (fun g6 eg6 => ?_)
  have eg6 : g6 = jup h 30 5 (jw32 (v4 - v3)) := eg6
  have fg6 : jfr w_X10_drink_29 h g6 := jfr_up f0 eg6 (by unfold w_X10_drink_29; omega)
  have e7 : g6 30 5 = jw32 (v4 - v3) := jup_s eg6
  refine st_gi jo_29 (fun v8 ev8 b9 => ?_)
  have ev8 : v8 = g6 29 8 := ev8
  have b9 := (jbf_10_8 jo_29 _).1 b9
  have e10 : g6 29 8 = h 29 8 := jup_o eg6 (by omega)
  refine st_pi jo_29 (fun hx => (jbf_10_8 jo_29 _).2 hx) (fun g11 eg11 => ?_)
  have eg11 : g11 = jup g6 29 8 (jw32 (v8 + (jw32 (a1 - v3)))) := eg11
  have fg11 : jfr w_X10_drink_29 h g11 := jfr_up fg6 eg11 (by unfold w_X10_drink_29; omega)
  have e12 : g11 29 8 = jw32 (v8 + (jw32 (a1 - v3))) := jup_s eg11
  exact ⟨rfl, rfl, fg11, rfl, trivial⟩

def w_X10_passDay_29_106 (i k : Int) : Prop := (30 ≤ i ∧ i ≤ 31) ∨ (35 ≤ i ∧ i ≤ 83) ∨ (i = 29 ∧ 7 ≤ k ∧ k ≤ 10)
def k_X10_passDay_29_106 (a1 : Int) (a3 : Int) (h : JH) (v : Option JV) (r' g : JH) : Prop := r' = jr0 ∧ jfr w_X10_passDay_29_106 h g ∧ ∃ x : Int, v = some (.inl x) ∧ (True) ∧ (True)
set_option maxHeartbeats 4000000 in
theorem c_X10_passDay_29_106 {E : JE} {l : Launch} (a1 : Int) (a3 : Int) (h : JH) (p1 : 0 ≤ a1 ∧ a1 ≤ 2400) (p3 : 0 ≤ a3 ∧ a3 ≤ 0) : jMt E l 83 [.inr (.inr (.inl 29)), .inl a1, .inr (.inr (.inl 106)), .inl a3, .inr (.inr (.inl 16))] 229 jr0 h (k_X10_passDay_29_106 a1 a3 h) := by
  refine jMt0 (nL := 6) (ls := [.inr (.inr (.inl 29)), .inl a1, .inr (.inr (.inl 106)), .inl a3, .inr (.inr (.inl 16)), .inr (.inr (.inr ()))]) (by decide +kernel) (by decide +kernel) (by decide +kernel) rfl rfl ?_
  have f0 : jfr w_X10_passDay_29_106 h h := jfr_rf _ _
  refine jGo_blk qX10_passDay_0 ?_
  refine st_pi jo_29 (fun hx => (jbf_10_10 jo_29 _).2 (show 0 ≤ 0 ∧ 0 ≤ 1 by omega)) (fun g1 eg1 => ?_)
  have eg1 : g1 = jup h 29 10 0 := eg1
  have fg1 : jfr w_X10_passDay_29_106 h g1 := jfr_up f0 eg1 (by unfold w_X10_passDay_29_106; omega)
  have e2 : g1 29 10 = 0 := jup_s eg1
  refine st_cv (na := 2) (st := [.inr (.inr (.inl 16)), .inl a1, .inr (.inr (.inl 29))]) jo_29 rfl rfl rfl (c_X10_moveOn_29 a1 g1) rfl ?_
  rintro _ _ g4 ⟨rfl, ft3, t3, rfl, ht3, zt3⟩ kt3
  have kt3 : -2147483648 ≤ t3 ∧ t3 ≤ 2147483647 := kt3
  have fg4 : jfr w_X10_passDay_29_106 h g4 := jfr_tr fg1 ft3 (fun i k q => by unfold w_X10_moveOn_29 at q; unfold w_X10_passDay_29_106; omega)
  refine st_cv (na := 1) (st := [.inr (.inr (.inl 16)), .inr (.inr (.inl 29))]) jo_29 rfl rfl rfl (c_X10_letIn_29 g4) rfl ?_
  rintro _ _ g6 ⟨rfl, ft5, rfl, zt5⟩ kt5
  have fg6 : jfr w_X10_passDay_29_106 h g6 := jfr_tr fg4 ft5 (fun i k q => by unfold w_X10_letIn_29 at q; unfold w_X10_passDay_29_106; omega)
  refine st_cv (na := 0) (st := [.inr (.inr (.inl 29))]) jo_29 rfl rfl rfl (c_X10_takeGoods_29 g6) rfl ?_
  rintro _ _ g8 ⟨rfl, ft7, rfl, zt7⟩ kt7
  have fg8 : jfr w_X10_passDay_29_106 h g8 := jfr_tr fg6 ft7 (fun i k q => by unfold w_X10_takeGoods_29 at q; unfold w_X10_passDay_29_106; omega)
  refine st_gr jo_106 jr_106_0 ?_
  have e9 : jw32 (a3 * 4) = a3 * 4 := j32e (by omega) (by omega)
  refine st_gr jo_106 jr_106_1 ?_
  refine st_ai jo_108 (show 0 ≤ a3 by omega) (show a3 < ((1 : Nat) : Int) by omega) (fun v10 ev10 b11 => ?_)
  have ev10 : v10 = g8 108 a3 := ev10
  have b11 := (jba_108 a3 _).1 b11
  refine st_cv (na := 3) (st := [.inl v10, .inl (jw32 (a3 * 4)), .inr (.inr (.inl 107)), .inr (.inr (.inl 29))]) jo_29 rfl rfl rfl (c_X10_doWork_29_107 (jw32 (a3 * 4)) v10 g8 (by omega)) rfl ?_
  rintro _ _ g13 ⟨rfl, ft12, rfl, zt12⟩ kt12
  have fg13 : jfr w_X10_passDay_29_106 h g13 := jfr_tr fg8 ft12 (fun i k q => by unfold w_X10_doWork_29_107 at q; unfold w_X10_passDay_29_106; omega)
  refine st_gi jo_29 (fun v14 ev14 b15 => ?_)
  have ev14 : v14 = g13 29 7 := ev14
  have b15 := (jbf_10_7 jo_29 _).1 b15
  have e16 : g13 29 7 = g8 29 7 := ft12 29 7 (by unfold w_X10_doWork_29_107; omega)
  have e17 : g8 29 7 = g6 29 7 := ft7 29 7 (by unfold w_X10_takeGoods_29; omega)
  have e18 : g6 29 7 = g4 29 7 := ft5 29 7 (by unfold w_X10_letIn_29; omega)
  have e19 : g4 29 7 = g1 29 7 := ft3 29 7 (by unfold w_X10_moveOn_29; omega)
  have e20 : g1 29 7 = h 29 7 := jup_o eg1 (by omega)
  refine st_gr jo_106 jr_106_2 ?_
  refine st_ai jo_109 (show 0 ≤ a3 by omega) (show a3 < ((1 : Nat) : Int) by omega) (fun v21 ev21 b22 => ?_)
  have ev21 : v21 = g13 109 a3 := ev21
  have b22 := (jba_109 a3 _).1 b22
  refine st_pi jo_29 (fun hx => (jbf_10_7 jo_29 _).2 hx) (fun g23 eg23 => ?_)
  have eg23 : g23 = jup g13 29 7 (jw32 (v14 + v21)) := eg23
  have fg23 : jfr w_X10_passDay_29_106 h g23 := jfr_up fg13 eg23 (by unfold w_X10_passDay_29_106; omega)
  have e24 : g23 29 7 = jw32 (v14 + v21) := jup_s eg23
  refine st_gr jo_106 jr_106_3 ?_
  refine st_ai jo_110 (show 0 ≤ a3 by omega) (show a3 < ((1 : Nat) : Int) by omega) (fun v25 ev25 b26 => ?_)
  have ev25 : v25 = g23 110 a3 := ev25
  have b26 := (jba_110 a3 _).1 b26
  refine st_cv (na := 1) (st := [.inl v25, .inr (.inr (.inl 29))]) jo_29 rfl rfl rfl (c_X10_drink_29 v25 g23) rfl ?_
  rintro _ _ g28 ⟨rfl, ft27, rfl, zt27⟩ kt27
  have fg28 : jfr w_X10_passDay_29_106 h g28 := jfr_tr fg23 ft27 (fun i k q => by unfold w_X10_drink_29 at q; unfold w_X10_passDay_29_106; omega)
  exact st_r0 (ls := []) ⟨rfl, rfl, fg28, t3, rfl, trivial, trivial⟩

def k_X3_stands (a1 : Int) (h : JH) (v : Option JV) (r' g : JH) : Prop := r' = jr0 ∧ h = g ∧ ∃ x : Int, v = some (.inl x) ∧ (0 ≤ x ∧ x ≤ 1) ∧ (True)
set_option maxHeartbeats 4000000 in
theorem c_X3_stands {E : JE} {l : Launch} (a1 : Int) (h : JH) (p1 : 0 ≤ a1 ∧ a1 ≤ 39) : jMt E l 84 [.inr (.inr (.inl 84)), .inl a1] 229 jr0 h (k_X3_stands a1 h) := by
  refine jMt0 (nL := 2) (ls := [.inr (.inr (.inl 84)), .inl a1]) (by decide +kernel) (by decide +kernel) (by decide +kernel) rfl rfl ?_
  refine jGo_blk qX3_stands_0 ?_
  refine st_gr jo_84 jr_84_4 ?_
  refine st_ai jo_88 (show 0 ≤ a1 by omega) (show a1 < ((40 : Nat) : Int) by omega) (fun v1 ev1 b2 => ?_)
  have ev1 : v1 = h 88 a1 := ev1
  have b2 := (jba_88 a1 _).1 b2
  refine And.intro (fun c3 => ?_) (fun c3 => ?_)
  · have c3 : ¬ v1 = (-9) := c3
    show jGo E l 84 229 229 _ 15 [.inr (.inr (.inl 84)), .inl a1] [] 229 jr0 h
    refine jGo_blk qX3_stands_15 ?_
    show jGo E l 84 229 229 _ 16 [.inr (.inr (.inl 84)), .inl a1] [.inl 0] 229 jr0 h
    refine jGo_blk qX3_stands_16 ?_
    exact st_r1 (ls := []) (show (0 : Int) = 0 ∨ (0 : Int) = 1 by omega) ⟨rfl, rfl, rfl, 0, rfl, (by omega), trivial⟩
  · have c3 : v1 = (-9) := by first | exact c3 | exact Int.not_le.mp c3 | exact Int.not_lt.mp c3 | exact Decidable.not_not.mp c3
    show jGo E l 84 229 229 _ 16 [.inr (.inr (.inl 84)), .inl a1] [.inl 1] 229 jr0 h
    refine jGo_blk qX3_stands_16 ?_
    exact st_r1 (ls := []) (show (1 : Int) = 0 ∨ (1 : Int) = 1 by omega) ⟨rfl, rfl, rfl, 1, rfl, (by omega), trivial⟩

def w_X3_grow (i k : Int) : Prop := (i = 87)
def k_X3_grow (h : JH) (v : Option JV) (r' g : JH) : Prop := r' = jr0 ∧ jfr w_X3_grow h g ∧ v = none ∧ (True)
set_option maxHeartbeats 4000000 in
theorem c_X3_grow {E : JE} {l : Launch} (h : JH) : jMt E l 85 [.inr (.inr (.inl 84))] 229 jr0 h (k_X3_grow h) := by
  refine jMt0 (nL := 2) (ls := [.inr (.inr (.inl 84)), .inr (.inr (.inr ()))]) (by decide +kernel) (by decide +kernel) (by decide +kernel) rfl rfl ?_
  have f0 : jfr w_X3_grow h h := jfr_rf _ _
  have key : ∀ N : Nat, (∀ (x1 : Int) (g : JH), (0 ≤ x1 ∧ x1 ≤ 40) → jfr w_X3_grow h g → (40 - x1) < (N : Int) → jGo E l 85 229 229 (jRK (k_X3_grow h)) 2 [.inr (.inr (.inl 84)), .inl x1] [] 229 jr0 g) := by
    intro N
    induction N with
    | zero => exact fun _ _ hi _ hN => absurd hN (by omega)
    | succ N ih =>
      intro x1 g hi hf hN
      refine jGo_blk qX3_grow_2 ?_
      refine st_gi jo_84 (fun v1 ev1 b2 => ?_)
      have ev1 : v1 = g 84 0 := ev1
      have b2 := (jbf_3_0 jo_84 _).1 b2
      refine And.intro (fun c3 => ?_) (fun c3 => ?_)
      · have c3 : v1 ≤ x1 := c3
        show jGo E l 85 229 229 _ 44 [.inr (.inr (.inl 84)), .inl x1] [] 229 jr0 g
        refine jGo_blk qX3_grow_44 ?_
        exact ⟨rfl, rfl, hf, rfl, trivial⟩
      · have c3 : x1 < v1 := by first | exact c3 | exact Int.not_le.mp c3 | exact Int.not_lt.mp c3 | exact Decidable.not_not.mp c3
        refine st_cv (na := 1) (st := [.inl x1, .inr (.inr (.inl 84))]) jo_84 rfl rfl rfl (c_X3_stands x1 g (by omega)) rfl ?_
        rintro _ _ _ ⟨rfl, rfl, t4, rfl, ht4, zt4⟩ kt4
        have kt4 : -2147483648 ≤ t4 ∧ t4 ≤ 2147483647 := kt4
        have ht4 : 0 ≤ t4 ∧ t4 ≤ 1 := ht4
        refine And.intro (fun c6 => ?_) (fun c6 => ?_)
        · have c6 : t4 = 0 := c6
          show jGo E l 85 229 229 _ 38 [.inr (.inr (.inl 84)), .inl x1] [] 229 jr0 g
          refine jGo_blk qX3_grow_38 ?_
          have e7 : jw32 (x1 + 1) = x1 + 1 := j32e (by omega) (by omega)
          show jGo E l 85 229 229 _ 2 [.inr (.inr (.inl 84)), .inl (jw32 (x1 + 1))] [] 229 jr0 g
          exact ih (jw32 (x1 + 1)) g (by omega) hf (by omega)
        · have c6 : ¬ t4 = 0 := by first | exact c6 | exact Int.not_le.mp c6 | exact Int.not_lt.mp c6 | exact Decidable.not_not.mp c6
          refine st_gr jo_84 jr_84_3 ?_
          refine st_ai jo_87 (show 0 ≤ x1 by omega) (show x1 < ((40 : Nat) : Int) by omega) (fun v8 ev8 b9 => ?_)
          have ev8 : v8 = g 87 x1 := ev8
          have b9 := (jba_87 x1 _).1 b9
          refine st_gr jo_84 jr_84_6 ?_
          refine st_gr jo_84 jr_84_1 ?_
          refine st_ai jo_85 (show 0 ≤ x1 by omega) (show x1 < ((40 : Nat) : Int) by omega) (fun v10 ev10 b11 => ?_)
          have ev10 : v10 = g 85 x1 := ev10
          have b11 := (jba_85 x1 _).1 b11
          refine st_ai jo_90 (show 0 ≤ v10 by omega) (show v10 < ((3 : Nat) : Int) by omega) (fun v12 ev12 b13 => ?_)
          have ev12 : v12 = g 90 v10 := ev12
          have b13 := (jba_90 v10 _).1 b13
          refine st_si jo_87 (show 0 ≤ x1 by omega) (show x1 < ((40 : Nat) : Int) by omega) (fun hx => (jba_87 _ _).2 hx) (fun g14 eg14 => ?_)
          have eg14 : g14 = jup g 87 x1 (jw32 (v8 + v12)) := eg14
          have fg14 : jfr w_X3_grow h g14 := jfr_up hf eg14 (by unfold w_X3_grow; omega)
          have e15 : g14 87 x1 = jw32 (v8 + v12) := jup_s eg14
          show jGo E l 85 229 229 _ 38 [.inr (.inr (.inl 84)), .inl x1] [] 229 jr0 g14
          refine jGo_blk qX3_grow_38 ?_
          have e16 : jw32 (x1 + 1) = x1 + 1 := j32e (by omega) (by omega)
          show jGo E l 85 229 229 _ 2 [.inr (.inr (.inl 84)), .inl (jw32 (x1 + 1))] [] 229 jr0 g14
          exact ih (jw32 (x1 + 1)) g14 (by omega) fg14 (by omega)
  refine jGo_blk qX3_grow_0 ?_
  show jGo E l 85 229 229 _ 2 [.inr (.inr (.inl 84)), .inl 0] [] 229 jr0 h
  exact (key 1000000000000) 0 h (by omega) f0 (by omega)

def w_X11_days (i k : Int) : Prop := (i = 1) ∨ (i = 15) ∨ (30 ≤ i ∧ i ≤ 31) ∨ (34 ≤ i ∧ i ≤ 83) ∨ (i = 87) ∨ (107 ≤ i ∧ i ≤ 110) ∨ (i = 0 ∧ k = 0) ∨ (i = 11 ∧ k = 5) ∨ (i = 29 ∧ 6 ≤ k ∧ k ≤ 10) ∨ (i = 111 ∧ 9 ≤ k ∧ k ≤ 11)
def k_X11_days (a1 : Int) (h : JH) (v : Option JV) (r' g : JH) : Prop := r' = jr0 ∧ jfr w_X11_days h g ∧ ∃ x : Int, v = some (.inl x) ∧ (True) ∧ (True)
set_option maxHeartbeats 4000000 in
theorem c_X11_days {E : JE} {l : Launch} (a1 : Int) (h : JH) : jMt E l 86 [.inr (.inr (.inl 0)), .inl a1] 229 jr0 h (k_X11_days a1 h) := by
  refine jMt0 (nL := 5) (ls := [.inr (.inr (.inl 0)), .inl a1, .inr (.inr (.inr ())), .inr (.inr (.inr ())), .inr (.inr (.inr ()))]) (by decide +kernel) (by decide +kernel) (by decide +kernel) rfl rfl ?_
  have f0 : jfr w_X11_days h h := jfr_rf _ _
  have key : ∀ N : Nat, (∀ (x2 : Int) (x3 : Int) (x4 : Int) (g : JH), (0 ≤ a1 ∧ a1 ≤ 2000 ∧ 0 ≤ x2 ∧ x2 ≤ 0 ∧ 0 ≤ x4 ∧ x4 ≤ 2000) → (g 0 0 + a1 ≤ 2000 + x4) → jfr w_X11_days h g → (2000 - x4) < (N : Int) → jGo E l 86 229 229 (jRK (k_X11_days a1 h)) 50 [.inr (.inr (.inl 0)), .inl a1, .inl x2, .inl x3, .inl x4] [] 229 jr0 g) := by
    intro N
    induction N with
    | zero => exact fun _ _ _ _ hi hx0 _ hN => absurd hN (by omega)
    | succ N ih =>
      intro x2 x3 x4 g hi hx0 hf hN
      refine jGo_ok (fun hls _ => ?_)
      have rx3 : -2147483648 ≤ x3 ∧ x3 ≤ 2147483647 := hls (.inl x3) (by simp)
      refine jGo_blk qX11_days_50 ?_
      refine And.intro (fun c1 => ?_) (fun c1 => ?_)
      · have c1 : a1 ≤ x4 := c1
        show jGo E l 86 229 229 _ 133 [.inr (.inr (.inl 0)), .inl a1, .inl x2, .inl x3, .inl x4] [] 229 jr0 g
        refine jGo_blk qX11_days_133 ?_
        exact st_r0 (ls := []) ⟨rfl, rfl, hf, x3, rfl, trivial, trivial⟩
      · have c1 : x4 < a1 := by first | exact c1 | exact Int.not_le.mp c1 | exact Int.not_lt.mp c1 | exact Decidable.not_not.mp c1
        refine st_gi jo_0 (fun v2 ev2 b3 => ?_)
        have ev2 : v2 = g 0 0 := ev2
        have b3 := (jbf_11_0 jo_0 _).1 b3
        have e4 : jw32 (v2 + 1) = v2 + 1 := j32e (by omega) (by omega)
        refine st_pi jo_0 (fun hx => (jbf_11_0 jo_0 _).2 (show 0 ≤ jw32 (v2 + 1) ∧ jw32 (v2 + 1) ≤ 2000 by omega)) (fun g5 eg5 => ?_)
        have eg5 : g5 = jup g 0 0 (jw32 (v2 + 1)) := eg5
        have fg5 : jfr w_X11_days h g5 := jfr_up hf eg5 (by unfold w_X11_days; omega)
        have e6 : g5 0 0 = jw32 (v2 + 1) := jup_s eg5
        refine st_gr jo_0 jr_0_10 ?_
        refine st_gi jo_0 (fun v7 ev7 b8 => ?_)
        have ev7 : v7 = g5 0 0 := ev7
        have b8 := (jbf_11_0 jo_0 _).1 b8
        refine st_gr jo_0 jr_0_2 ?_
        refine st_gr jo_0 jr_0_3 ?_
        refine st_cv (na := 4) (st := [.inr (.inr (.inl 11)), .inr (.inr (.inl 2)), .inl v7, .inl 0, .inr (.inr (.inl 106))]) jo_106 rfl rfl rfl (c_X0_write_106 0 v7 g5 (by omega) (by omega)) rfl ?_
        rintro _ _ g10 ⟨rfl, ft9, rfl, zt9⟩ kt9
        have fg10 : jfr w_X11_days h g10 := jfr_tr fg5 ft9 (fun i k q => by unfold w_X0_write_106 at q; unfold w_X11_days; omega)
        refine st_gr jo_0 jr_0_5 ?_
        refine st_gi jo_0 (fun v11 ev11 b12 => ?_)
        have ev11 : v11 = g10 0 0 := ev11
        have b12 := (jbf_11_0 jo_0 _).1 b12
        have e13 : g10 0 0 = g5 0 0 := ft9 0 0 (by unfold w_X0_write_106; omega)
        refine st_gr jo_0 jr_0_10 ?_
        refine st_gr jo_0 jr_0_4 ?_
        refine st_cv (na := 4) (st := [.inr (.inr (.inl 16)), .inl 0, .inr (.inr (.inl 106)), .inl v11, .inr (.inr (.inl 29)), .inl x3]) jo_29 rfl rfl rfl (c_X10_passDay_29_106 v11 0 g10 (by omega) (by omega)) rfl ?_
        rintro _ _ g15 ⟨rfl, ft14, t14, rfl, ht14, zt14⟩ kt14
        have kt14 : -2147483648 ≤ t14 ∧ t14 ≤ 2147483647 := kt14
        have fg15 : jfr w_X11_days h g15 := jfr_tr fg10 ft14 (fun i k q => by unfold w_X10_passDay_29_106 at q; unfold w_X11_days; omega)
        refine st_gi jo_0 (fun v16 ev16 b17 => ?_)
        have ev16 : v16 = g15 0 0 := ev16
        have b17 := (jbf_11_0 jo_0 _).1 b17
        have e18 : g15 0 0 = g10 0 0 := ft14 0 0 (by unfold w_X10_passDay_29_106; omega)
        refine And.intro (show 360 ≠ 0 by omega) ?_
        have e19 : v16.tmod 360 = v16 % 360 ∧ 0 ≤ v16.tmod 360 ∧ v16.tmod 360 < 360 := jmd (by omega) (by omega)
        refine And.intro (fun c20 => ?_) (fun c20 => ?_)
        · have c20 : ¬ v16.tmod 360 = 0 := c20
          show jGo E l 86 229 229 _ 127 [.inr (.inr (.inl 0)), .inl a1, .inl x2, .inl (jw32 (x3 + t14)), .inl x4] [] 229 jr0 g15
          refine jGo_blk qX11_days_127 ?_
          have e21 : jw32 (x4 + 1) = x4 + 1 := j32e (by omega) (by omega)
          show jGo E l 86 229 229 _ 50 [.inr (.inr (.inl 0)), .inl a1, .inl x2, .inl (jw32 (x3 + t14)), .inl (jw32 (x4 + 1))] [] 229 jr0 g15
          exact ih x2 (jw32 (x3 + t14)) (jw32 (x4 + 1)) g15 (by omega) (by omega) fg15 (by omega)
        · have c20 : v16.tmod 360 = 0 := by first | exact c20 | exact Int.not_le.mp c20 | exact Int.not_lt.mp c20 | exact Decidable.not_not.mp c20
          refine st_gr jo_0 jr_0_6 ?_
          refine st_cv (na := 0) (st := [.inr (.inr (.inl 84))]) jo_84 rfl rfl rfl (c_X3_grow g15) rfl ?_
          rintro _ _ g23 ⟨rfl, ft22, rfl, zt22⟩ kt22
          have fg23 : jfr w_X11_days h g23 := jfr_tr fg15 ft22 (fun i k q => by unfold w_X3_grow at q; unfold w_X11_days; omega)
          show jGo E l 86 229 229 _ 127 [.inr (.inr (.inl 0)), .inl a1, .inl x2, .inl (jw32 (x3 + t14)), .inl x4] [] 229 jr0 g23
          refine jGo_blk qX11_days_127 ?_
          have e24 : jw32 (x4 + 1) = x4 + 1 := j32e (by omega) (by omega)
          show jGo E l 86 229 229 _ 50 [.inr (.inr (.inl 0)), .inl a1, .inl x2, .inl (jw32 (x3 + t14)), .inl (jw32 (x4 + 1))] [] 229 jr0 g23
          have e25 : g23 0 0 = g15 0 0 := ft22 0 0 (by unfold w_X3_grow; omega)
          exact ih x2 (jw32 (x3 + t14)) (jw32 (x4 + 1)) g23 (by omega) (by omega) fg23 (by omega)
  refine jGo_blk qX11_days_0 ?_
  refine st_gi jo_0 (fun v26 ev26 b27 => ?_)
  have ev26 : v26 = h 0 0 := ev26
  have b27 := (jbf_11_0 jo_0 _).1 b27
  have e28 : jw32 (2000 - v26) = 2000 - v26 := j32e (by omega) (by omega)
  refine st_cs (na := 3) (st := [.inl (jw32 (2000 - v26)), .inl 0, .inl a1]) rfl rfl rfl (c_X11_outside a1 0 (jw32 (2000 - v26)) h) rfl ?_
  rintro _ _ _ ⟨rfl, rfl, t29, rfl, ht29, zt29⟩ kt29
  have kt29 : -2147483648 ≤ t29 ∧ t29 ≤ 2147483647 := kt29
  have ht29 : -6 ≤ t29 ∧ t29 ≤ 0 := ht29
  have zt29 : (t29 = -4 ∧ a1 < (0 : Int)) ∨ (t29 = -6 ∧ (0 : Int) ≤ a1 ∧ (jw32 (2000 - v26)) < a1) ∨ (t29 = 0 ∧ (0 : Int) ≤ a1 ∧ a1 ≤ (jw32 (2000 - v26))) := zt29
  refine And.intro (fun c31 => ?_) (fun c31 => ?_)
  · have c31 : t29 = 0 := c31
    show jGo E l 86 229 229 _ 24 [.inr (.inr (.inl 0)), .inl a1, .inl t29, .inr (.inr (.inr ())), .inr (.inr (.inr ()))] [] 229 jr0 h
    refine jGo_blk qX11_days_24 ?_
    refine st_gr jo_0 jr_0_11 ?_
    refine st_cv (na := 0) (st := [.inr (.inr (.inl 111))]) jo_111 rfl rfl rfl (c_X7_forget h) rfl ?_
    rintro _ _ g33 ⟨rfl, ft32, rfl, zt32⟩ kt32
    have fg33 : jfr w_X11_days h g33 := jfr_tr f0 ft32 (fun i k q => by unfold w_X7_forget at q; unfold w_X11_days; omega)
    refine st_gr jo_0 jr_0_5 ?_
    refine st_cv (na := 0) (st := [.inr (.inr (.inl 29))]) jo_29 rfl rfl rfl (c_X10_lineUp_29 g33) rfl ?_
    rintro _ _ g35 ⟨rfl, ft34, rfl, zt34⟩ kt34
    have fg35 : jfr w_X11_days h g35 := jfr_tr fg33 ft34 (fun i k q => by unfold w_X10_lineUp_29 at q; unfold w_X11_days; omega)
    refine st_gr jo_0 jr_0_3 ?_
    refine st_cv (na := 0) (st := [.inr (.inr (.inl 11))]) jo_11 rfl rfl rfl (c_X2_rewind g35) rfl ?_
    rintro _ _ g37 ⟨rfl, ft36, rfl, zt36⟩ kt36
    have fg37 : jfr w_X11_days h g37 := jfr_tr fg35 ft36 (fun i k q => by unfold w_X2_rewind at q; unfold w_X11_days; omega)
    show jGo E l 86 229 229 _ 50 [.inr (.inr (.inl 0)), .inl a1, .inl t29, .inl 0, .inl 0] [] 229 jr0 g37
    have e38 : g37 0 0 = g35 0 0 := ft36 0 0 (by unfold w_X2_rewind; omega)
    have e39 : g35 0 0 = g33 0 0 := ft34 0 0 (by unfold w_X10_lineUp_29; omega)
    have e40 : g33 0 0 = h 0 0 := ft32 0 0 (by unfold w_X7_forget; omega)
    exact (key 1000000000000) t29 0 0 g37 (by omega) (by omega) fg37 (by omega)
  · have c31 : ¬ t29 = 0 := by first | exact c31 | exact Int.not_le.mp c31 | exact Int.not_lt.mp c31 | exact Decidable.not_not.mp c31
    refine st_cv (na := 1) (st := [.inl t29, .inr (.inr (.inl 0))]) jo_0 rfl rfl rfl (c_X11_refused t29 h (by omega)) rfl ?_
    rintro _ _ g42 ⟨rfl, ft41, t41, rfl, ht41, zt41⟩ kt41
    have kt41 : -2147483648 ≤ t41 ∧ t41 ≤ 2147483647 := kt41
    have ht41 : -7 ≤ t41 ∧ t41 ≤ -1 := ht41
    have fg42 : jfr w_X11_days h g42 := jfr_tr f0 ft41 (fun i k q => by unfold w_X11_refused at q; unfold w_X11_days; omega)
    have zt41 : t41 = t29 := zt41
    exact st_r0 (ls := []) ⟨rfl, rfl, fg42, t41, rfl, trivial, trivial⟩
