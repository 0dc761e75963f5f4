def w_X11_treeFor (i k : Int) : Prop := (i = 1)
def k_X11_treeFor (a1 : Int) (a2 : Int) (h : JH) (v : Option JV) (r' g : JH) : Prop := r' = jr0 ∧ jfr w_X11_treeFor h g ∧ ∃ x : Int, v = some (.inl x) ∧ (-9 ≤ x ∧ x ≤ 39) ∧ (True)
set_option maxHeartbeats 4000000 in
theorem c_X11_treeFor {E : JE} {l : Launch} (a1 : Int) (a2 : Int) (h : JH) : jMt E l 124 [.inr (.inr (.inl 0)), .inl a1, .inl a2] 229 jr0 h (k_X11_treeFor a1 a2 h) := by
  refine jMt0 (nL := 4) (ls := [.inr (.inr (.inl 0)), .inl a1, .inl a2, .inr (.inr (.inr ()))]) (by decide +kernel) (by decide +kernel) (by decide +kernel) rfl rfl ?_
  have f0 : jfr w_X11_treeFor h h := jfr_rf _ _
  refine jGo_blk qX11_treeFor_0 ?_
  refine st_cv (na := 1) (st := [.inl a1, .inr (.inr (.inl 0))]) jo_0 rfl rfl rfl (c_X11_isHull a1 h) rfl ?_
  rintro _ _ _ ⟨rfl, rfl, t1, rfl, ht1, zt1⟩ kt1
  replace kt1 : -2147483648 ≤ t1 ∧ t1 ≤ 2147483647 := kt1
  replace ht1 : 0 ≤ t1 ∧ t1 ≤ 1 := ht1
  replace zt1 : (t1 = 1 ∧ 0 ≤ a1 ∧ a1 < h 29 4 ∧ h 29 4 ≤ 16) ∨ (t1 = 0 ∧ ¬ (0 ≤ a1 ∧ a1 < h 29 4)) := zt1
  refine And.intro (fun c3 => ?_) (fun c3 => ?_)
  · replace c3 : ¬ t1 = 0 := c3
    show jGo E l 124 229 229 _ 12 [.inr (.inr (.inl 0)), .inl a1, .inl a2, .inr (.inr (.inr ()))] [] 229 jr0 h
    refine jGo_blk qX11_treeFor_12 ?_
    refine st_cs (na := 3) (st := [.inl 5, .inl 0, .inl a2]) rfl rfl rfl (c_X11_outside a2 0 5 h) rfl ?_
    rintro _ _ _ ⟨rfl, rfl, t4, rfl, ht4, zt4⟩ kt4
    replace kt4 : -2147483648 ≤ t4 ∧ t4 ≤ 2147483647 := kt4
    replace ht4 : -6 ≤ t4 ∧ t4 ≤ 0 := ht4
    replace zt4 : (t4 = -4 ∧ a2 < (0 : Int)) ∨ (t4 = -6 ∧ (0 : Int) ≤ a2 ∧ (5 : Int) < a2) ∨ (t4 = 0 ∧ (0 : Int) ≤ a2 ∧ a2 ≤ (5 : Int)) := zt4
    show jGo E l 124 229 229 _ 18 [.inr (.inr (.inl 0)), .inl a1, .inl a2, .inr (.inr (.inr ()))] [.inl t4] 229 jr0 h
    refine jGo_blk qX11_treeFor_18 ?_
    refine And.intro (fun c6 => ?_) (fun c6 => ?_)
    · replace c6 : t4 = 0 := c6
      show jGo E l 124 229 229 _ 31 [.inr (.inr (.inl 0)), .inl a1, .inl a2, .inl t4] [] 229 jr0 h
      refine jGo_blk qX11_treeFor_31 ?_
      refine st_gr jo_0 jr_0_6 ?_
      refine st_cv (na := 2) (st := [.inl a2, .inl a1, .inr (.inr (.inl 84))]) jo_84 rfl rfl rfl (c_X3_felledFor a1 a2 h) rfl ?_
      rintro _ _ _ ⟨rfl, rfl, t7, rfl, ht7, zt7⟩ kt7
      replace kt7 : -2147483648 ≤ t7 ∧ t7 ≤ 2147483647 := kt7
      replace ht7 : -9 ≤ t7 ∧ t7 ≤ 39 := ht7
      show jGo E l 124 229 229 _ 40 [.inr (.inr (.inl 0)), .inl a1, .inl a2, .inl t4] [.inl t7] 229 jr0 h
      refine jGo_blk qX11_treeFor_40 ?_
      exact st_r0 (ls := []) ⟨rfl, rfl, f0, t7, rfl, (by omega), trivial⟩
    · replace c6 : ¬ t4 = 0 := by first | exact c6 | exact Int.not_le.mp c6 | exact Int.not_lt.mp c6 | exact Decidable.not_not.mp c6
      refine st_cv (na := 1) (st := [.inl t4, .inr (.inr (.inl 0))]) jo_0 rfl rfl rfl (c_X11_refused t4 h (by omega)) rfl ?_
      rintro _ _ g10 ⟨rfl, ft9, t9, rfl, ht9, zt9⟩ kt9
      replace kt9 : -2147483648 ≤ t9 ∧ t9 ≤ 2147483647 := kt9
      replace ht9 : -7 ≤ t9 ∧ t9 ≤ -1 := ht9
      have fg10 : jfr w_X11_treeFor h g10 := jfr_tr f0 ft9 (fun i k q => by unfold w_X11_refused at q; unfold w_X11_treeFor; omega)
      replace zt9 : t9 = t4 := zt9
      show jGo E l 124 229 229 _ 40 [.inr (.inr (.inl 0)), .inl a1, .inl a2, .inl t4] [.inl t9] 229 jr0 g10
      refine jGo_blk qX11_treeFor_40 ?_
      exact st_r0 (ls := []) ⟨rfl, rfl, fg10, t9, rfl, (by omega), trivial⟩
  · replace c3 : t1 = 0 := by first | exact c3 | exact Int.not_le.mp c3 | exact Int.not_lt.mp c3 | exact Decidable.not_not.mp c3
    show jGo E l 124 229 229 _ 18 [.inr (.inr (.inl 0)), .inl a1, .inl a2, .inr (.inr (.inr ()))] [.inl (-1)] 229 jr0 h
    refine jGo_blk qX11_treeFor_18 ?_
    refine And.intro (fun c11 => ?_) (fun c11 => ?_)
    · replace c11 : (-1 : Int) = 0 := c11
      exfalso; omega
    · replace c11 : ¬ (-1 : Int) = 0 := by first | exact c11 | exact Int.not_le.mp c11 | exact Int.not_lt.mp c11 | exact Decidable.not_not.mp c11
      refine st_cv (na := 1) (st := [.inl (-1), .inr (.inr (.inl 0))]) jo_0 rfl rfl rfl (c_X11_refused (-1) h (by omega)) rfl ?_
      rintro _ _ g13 ⟨rfl, ft12, t12, rfl, ht12, zt12⟩ kt12
      replace kt12 : -2147483648 ≤ t12 ∧ t12 ≤ 2147483647 := kt12
      replace ht12 : -7 ≤ t12 ∧ t12 ≤ -1 := ht12
      have fg13 : jfr w_X11_treeFor h g13 := jfr_tr f0 ft12 (fun i k q => by unfold w_X11_refused at q; unfold w_X11_treeFor; omega)
      replace zt12 : t12 = (-1 : Int) := zt12
      show jGo E l 124 229 229 _ 40 [.inr (.inr (.inl 0)), .inl a1, .inl a2, .inl (-1)] [.inl t12] 229 jr0 g13
      refine jGo_blk qX11_treeFor_40 ?_
      exact st_r0 (ls := []) ⟨rfl, rfl, fg13, t12, rfl, (by omega), trivial⟩

def w_X12_treeFor (i k : Int) : Prop := (i = 219)
def k_X12_treeFor (a1 : Int) (a2 : Int) (h : JH) (v : Option JV) (r' g : JH) : Prop := r' = jr0 ∧ jfr w_X12_treeFor h g ∧ ∃ x : Int, v = some (.inl x) ∧ (-9 ≤ x ∧ x ≤ 39) ∧ (True)
set_option maxHeartbeats 4000000 in
theorem c_X12_treeFor {E : JE} {l : Launch} (a1 : Int) (a2 : Int) (h : JH) : jMt E l 125 [.inr (.inr (.inl 176)), .inl a1, .inl a2] 229 jr0 h (k_X12_treeFor a1 a2 h) := by
  refine jMt0 (nL := 4) (ls := [.inr (.inr (.inl 176)), .inl a1, .inl a2, .inr (.inr (.inr ()))]) (by decide +kernel) (by decide +kernel) (by decide +kernel) rfl rfl ?_
  have f0 : jfr w_X12_treeFor h h := jfr_rf _ _
  have key : ∀ N : Nat, (∀ (x3 : Int) (g : JH), (0 ≤ a1 ∧ a1 ≤ 15 ∧ 0 ≤ a2 ∧ a2 ≤ 5 ∧ 0 ≤ x3 ∧ x3 ≤ 40) → jfr w_X12_treeFor h g → (40 - x3) < (N : Int) → jGo E l 125 229 229 (jRK (k_X12_treeFor a1 a2 h)) 39 [.inr (.inr (.inl 176)), .inl a1, .inl a2, .inl x3] [] 229 jr0 g) := by
    intro N
    induction N with
    | zero => exact fun _ _ hi _ hN => absurd hN (by omega)
    | succ N ih =>
      intro x3 g hi hf hN
      refine jGo_blk qX12_treeFor_39 ?_
      refine st_gi jo_176 (fun v1 ev1 b2 => ?_)
      replace ev1 : v1 = g 176 34 := ev1
      replace b2 := (jbf_12_34 jo_176 _).1 b2
      refine And.intro (fun c3 => ?_) (fun c3 => ?_)
      · replace c3 : v1 ≤ x3 := c3
        show jGo E l 125 229 229 _ 75 [.inr (.inr (.inl 176)), .inl a1, .inl a2, .inl x3] [] 229 jr0 g
        refine jGo_blk qX12_treeFor_75 ?_
        exact st_r0 (ls := []) ⟨rfl, rfl, hf, (-9), rfl, (by omega), trivial⟩
      · replace c3 : x3 < v1 := by first | exact c3 | exact Int.not_le.mp c3 | exact Int.not_lt.mp c3 | exact Decidable.not_not.mp c3
        refine st_gr jo_176 jr_176_38 ?_
        refine st_ai jo_208 (show 0 ≤ x3 by omega) (show x3 < ((40 : Nat) : Int) by omega) (fun v4 ev4 b5 => ?_)
        replace ev4 : v4 = g 208 x3 := ev4
        replace b5 := (jba_208 x3 _).1 b5
        refine And.intro (fun c6 => ?_) (fun c6 => ?_)
        · replace c6 : ¬ v4 = a1 := c6
          show jGo E l 125 229 229 _ 69 [.inr (.inr (.inl 176)), .inl a1, .inl a2, .inl x3] [] 229 jr0 g
          refine jGo_blk qX12_treeFor_69 ?_
          have e7 : jw32 (x3 + 1) = x3 + 1 := j32e (by omega) (by omega)
          show jGo E l 125 229 229 _ 39 [.inr (.inr (.inl 176)), .inl a1, .inl a2, .inl (jw32 (x3 + 1))] [] 229 jr0 g
          exact ih (jw32 (x3 + 1)) g (by omega) hf (by omega)
        · replace c6 : v4 = a1 := by first | exact c6 | exact Int.not_le.mp c6 | exact Int.not_lt.mp c6 | exact Decidable.not_not.mp c6
          refine st_gr jo_176 jr_176_39 ?_
          refine st_ai jo_209 (show 0 ≤ x3 by omega) (show x3 < ((40 : Nat) : Int) by omega) (fun v8 ev8 b9 => ?_)
          replace ev8 : v8 = g 209 x3 := ev8
          replace b9 := (jba_209 x3 _).1 b9
          refine And.intro (fun c10 => ?_) (fun c10 => ?_)
          · replace c10 : ¬ v8 = a2 := c10
            show jGo E l 125 229 229 _ 69 [.inr (.inr (.inl 176)), .inl a1, .inl a2, .inl x3] [] 229 jr0 g
            refine jGo_blk qX12_treeFor_69 ?_
            have e11 : jw32 (x3 + 1) = x3 + 1 := j32e (by omega) (by omega)
            show jGo E l 125 229 229 _ 39 [.inr (.inr (.inl 176)), .inl a1, .inl a2, .inl (jw32 (x3 + 1))] [] 229 jr0 g
            exact ih (jw32 (x3 + 1)) g (by omega) hf (by omega)
          · replace c10 : v8 = a2 := by first | exact c10 | exact Int.not_le.mp c10 | exact Int.not_lt.mp c10 | exact Decidable.not_not.mp c10
            exact st_r0 (ls := []) ⟨rfl, rfl, hf, x3, rfl, (by omega), trivial⟩
  refine jGo_blk qX12_treeFor_0 ?_
  refine st_cv (na := 1) (st := [.inl a1, .inr (.inr (.inl 176))]) jo_176 rfl rfl rfl (c_X12_isHull a1 h) rfl ?_
  rintro _ _ _ ⟨rfl, rfl, t12, rfl, ht12, zt12⟩ kt12
  replace kt12 : -2147483648 ≤ t12 ∧ t12 ≤ 2147483647 := kt12
  replace ht12 : 0 ≤ t12 ∧ t12 ≤ 1 := ht12
  replace zt12 : (t12 = 1 ∧ 0 ≤ a1 ∧ a1 < h 176 14 ∧ h 176 14 ≤ 16) ∨ (t12 = 0 ∧ ¬ (0 ≤ a1 ∧ a1 < h 176 14)) := zt12
  refine And.intro (fun c14 => ?_) (fun c14 => ?_)
  · replace c14 : ¬ t12 = 0 := c14
    show jGo E l 125 229 229 _ 14 [.inr (.inr (.inl 176)), .inl a1, .inl a2, .inr (.inr (.inr ()))] [] 229 jr0 h
    refine jGo_blk qX12_treeFor_14 ?_
    refine And.intro (fun c15 => ?_) (fun c15 => ?_)
    · replace c15 : 0 ≤ a2 := c15
      show jGo E l 125 229 229 _ 25 [.inr (.inr (.inl 176)), .inl a1, .inl a2, .inr (.inr (.inr ()))] [] 229 jr0 h
      refine jGo_blk qX12_treeFor_25 ?_
      refine And.intro (fun c16 => ?_) (fun c16 => ?_)
      · replace c16 : a2 ≤ 5 := c16
        show jGo E l 125 229 229 _ 37 [.inr (.inr (.inl 176)), .inl a1, .inl a2, .inr (.inr (.inr ()))] [] 229 jr0 h
        refine jGo_blk qX12_treeFor_37 ?_
        show jGo E l 125 229 229 _ 39 [.inr (.inr (.inl 176)), .inl a1, .inl a2, .inl 0] [] 229 jr0 h
        exact (key 1000000000000) 0 h (by omega) f0 (by omega)
      · replace c16 : 5 < a2 := by first | exact c16 | exact Int.not_le.mp c16 | exact Int.not_lt.mp c16 | exact Decidable.not_not.mp c16
        refine st_cv (na := 1) (st := [.inl (-6), .inr (.inr (.inl 176))]) jo_176 rfl rfl rfl (c_X12_refuse (-6) h (by omega)) rfl ?_
        rintro _ _ g18 ⟨rfl, ft17, t17, rfl, ht17, zt17⟩ kt17
        replace kt17 : -2147483648 ≤ t17 ∧ t17 ≤ 2147483647 := kt17
        replace ht17 : -7 ≤ t17 ∧ t17 ≤ -1 := ht17
        have fg18 : jfr w_X12_treeFor h g18 := jfr_tr f0 ft17 (fun i k q => by unfold w_X12_refuse at q; unfold w_X12_treeFor; omega)
        replace zt17 : t17 = (-6 : Int) := zt17
        exact st_r0 (ls := []) ⟨rfl, rfl, fg18, t17, rfl, (by omega), trivial⟩
    · replace c15 : a2 < 0 := by first | exact c15 | exact Int.not_le.mp c15 | exact Int.not_lt.mp c15 | exact Decidable.not_not.mp c15
      refine st_cv (na := 1) (st := [.inl (-4), .inr (.inr (.inl 176))]) jo_176 rfl rfl rfl (c_X12_refuse (-4) h (by omega)) rfl ?_
      rintro _ _ g20 ⟨rfl, ft19, t19, rfl, ht19, zt19⟩ kt19
      replace kt19 : -2147483648 ≤ t19 ∧ t19 ≤ 2147483647 := kt19
      replace ht19 : -7 ≤ t19 ∧ t19 ≤ -1 := ht19
      have fg20 : jfr w_X12_treeFor h g20 := jfr_tr f0 ft19 (fun i k q => by unfold w_X12_refuse at q; unfold w_X12_treeFor; omega)
      replace zt19 : t19 = (-4 : Int) := zt19
      exact st_r0 (ls := []) ⟨rfl, rfl, fg20, t19, rfl, (by omega), trivial⟩
  · replace c14 : t12 = 0 := by first | exact c14 | exact Int.not_le.mp c14 | exact Int.not_lt.mp c14 | exact Decidable.not_not.mp c14
    refine st_cv (na := 1) (st := [.inl (-1), .inr (.inr (.inl 176))]) jo_176 rfl rfl rfl (c_X12_refuse (-1) h (by omega)) rfl ?_
    rintro _ _ g22 ⟨rfl, ft21, t21, rfl, ht21, zt21⟩ kt21
    replace kt21 : -2147483648 ≤ t21 ∧ t21 ≤ 2147483647 := kt21
    replace ht21 : -7 ≤ t21 ∧ t21 ≤ -1 := ht21
    have fg22 : jfr w_X12_treeFor h g22 := jfr_tr f0 ft21 (fun i k q => by unfold w_X12_refuse at q; unfold w_X12_treeFor; omega)
    replace zt21 : t21 = (-1 : Int) := zt21
    exact st_r0 (ls := []) ⟨rfl, rfl, fg22, t21, rfl, (by omega), trivial⟩

def w_X11_treeOf (i k : Int) : Prop := (i = 1)
def k_X11_treeOf (a1 : Int) (a2 : Int) (h : JH) (v : Option JV) (r' g : JH) : Prop := r' = jr0 ∧ jfr w_X11_treeOf h g ∧ ∃ x : Int, v = some (.inl x) ∧ (True) ∧ (True)
set_option maxHeartbeats 4000000 in
theorem c_X11_treeOf {E : JE} {l : Launch} (a1 : Int) (a2 : Int) (h : JH) : jMt E l 126 [.inr (.inr (.inl 0)), .inl a1, .inl a2] 229 jr0 h (k_X11_treeOf a1 a2 h) := by
  refine jMt0 (nL := 3) (ls := [.inr (.inr (.inl 0)), .inl a1, .inl a2]) (by decide +kernel) (by decide +kernel) (by decide +kernel) rfl rfl ?_
  have f0 : jfr w_X11_treeOf h h := jfr_rf _ _
  refine jGo_blk qX11_treeOf_0 ?_
  refine st_gr jo_0 jr_0_6 ?_
  refine st_gi jo_84 (fun v1 ev1 b2 => ?_)
  replace ev1 : v1 = h 84 0 := ev1
  replace b2 := (jbf_3_0 jo_84 _).1 b2
  refine st_cs (na := 2) (st := [.inl v1, .inl a1]) rfl rfl rfl (c_X11_within a1 v1 h) rfl ?_
  rintro _ _ _ ⟨rfl, rfl, t3, rfl, ht3, zt3⟩ kt3
  replace kt3 : -2147483648 ≤ t3 ∧ t3 ≤ 2147483647 := kt3
  replace ht3 : 0 ≤ t3 ∧ t3 ≤ 1 := ht3
  replace zt3 : (t3 = 1 ∧ 0 ≤ a1 ∧ a1 < v1) ∨ (t3 = 0 ∧ ¬ (0 ≤ a1 ∧ a1 < v1)) := zt3
  refine And.intro (fun c5 => ?_) (fun c5 => ?_)
  · replace c5 : ¬ t3 = 0 := c5
    show jGo E l 126 229 229 _ 20 [.inr (.inr (.inl 0)), .inl a1, .inl a2] [] 229 jr0 h
    refine jGo_blk qX11_treeOf_20 ?_
    refine And.intro (fun c6 => ?_) (And.intro (fun c6 => ?_) (And.intro (fun c6 => ?_) (And.intro (fun c6 => ?_) (And.intro (fun c6 => ?_) (And.intro (fun c6 => ?_) (trivial))))))
    · replace c6 : a2 < 0 ∨ 4 < a2 := c6
      show jGo E l 126 229 229 _ 106 [.inr (.inr (.inl 0)), .inl a1, .inl a2] [] 229 jr0 h
      refine jGo_blk qX11_treeOf_106 ?_
      refine st_cv (na := 1) (st := [.inl (-2), .inr (.inr (.inl 0))]) jo_0 rfl rfl rfl (c_X11_refusedAside (-2) h (by omega)) rfl ?_
      rintro _ _ g8 ⟨rfl, ft7, t7, rfl, ht7, zt7⟩ kt7
      replace kt7 : -2147483648 ≤ t7 ∧ t7 ≤ 2147483647 := kt7
      replace ht7 : 2000000001 ≤ t7 ∧ t7 ≤ 2000000007 := ht7
      have fg8 : jfr w_X11_treeOf h g8 := jfr_tr f0 ft7 (fun i k q => by unfold w_X11_refusedAside at q; unfold w_X11_treeOf; omega)
      replace zt7 : t7 = 2000000000 - (-2 : Int) := zt7
      exact st_r0 (ls := []) ⟨rfl, rfl, fg8, t7, rfl, trivial, trivial⟩
    · replace c6 : a2 = 0 := c6
      show jGo E l 126 229 229 _ 56 [.inr (.inr (.inl 0)), .inl a1, .inl a2] [] 229 jr0 h
      refine jGo_blk qX11_treeOf_56 ?_
      refine st_gr jo_0 jr_0_6 ?_
      refine st_gr jo_84 jr_84_1 ?_
      refine st_ai jo_85 (show 0 ≤ a1 by omega) (show a1 < ((40 : Nat) : Int) by omega) (fun v9 ev9 b10 => ?_)
      replace ev9 : v9 = h 85 a1 := ev9
      replace b10 := (jba_85 a1 _).1 b10
      exact st_r0 (ls := []) ⟨rfl, rfl, f0, v9, rfl, trivial, trivial⟩
    · replace c6 : a2 = 1 := c6
      show jGo E l 126 229 229 _ 66 [.inr (.inr (.inl 0)), .inl a1, .inl a2] [] 229 jr0 h
      refine jGo_blk qX11_treeOf_66 ?_
      refine st_gr jo_0 jr_0_6 ?_
      refine st_gr jo_84 jr_84_3 ?_
      refine st_ai jo_87 (show 0 ≤ a1 by omega) (show a1 < ((40 : Nat) : Int) by omega) (fun v11 ev11 b12 => ?_)
      replace ev11 : v11 = h 87 a1 := ev11
      replace b12 := (jba_87 a1 _).1 b12
      exact st_r0 (ls := []) ⟨rfl, rfl, f0, v11, rfl, trivial, trivial⟩
    · replace c6 : a2 = 2 := c6
      show jGo E l 126 229 229 _ 76 [.inr (.inr (.inl 0)), .inl a1, .inl a2] [] 229 jr0 h
      refine jGo_blk qX11_treeOf_76 ?_
      refine st_gr jo_0 jr_0_6 ?_
      refine st_gr jo_84 jr_84_4 ?_
      refine st_ai jo_88 (show 0 ≤ a1 by omega) (show a1 < ((40 : Nat) : Int) by omega) (fun v13 ev13 b14 => ?_)
      replace ev13 : v13 = h 88 a1 := ev13
      replace b14 := (jba_88 a1 _).1 b14
      exact st_r0 (ls := []) ⟨rfl, rfl, f0, v13, rfl, trivial, trivial⟩
    · replace c6 : a2 = 3 := c6
      show jGo E l 126 229 229 _ 86 [.inr (.inr (.inl 0)), .inl a1, .inl a2] [] 229 jr0 h
      refine jGo_blk qX11_treeOf_86 ?_
      refine st_gr jo_0 jr_0_6 ?_
      refine st_gr jo_84 jr_84_5 ?_
      refine st_ai jo_89 (show 0 ≤ a1 by omega) (show a1 < ((40 : Nat) : Int) by omega) (fun v15 ev15 b16 => ?_)
      replace ev15 : v15 = h 89 a1 := ev15
      replace b16 := (jba_89 a1 _).1 b16
      exact st_r0 (ls := []) ⟨rfl, rfl, f0, v15, rfl, trivial, trivial⟩
    · replace c6 : a2 = 4 := c6
      show jGo E l 126 229 229 _ 96 [.inr (.inr (.inl 0)), .inl a1, .inl a2] [] 229 jr0 h
      refine jGo_blk qX11_treeOf_96 ?_
      refine st_gr jo_0 jr_0_6 ?_
      refine st_gr jo_84 jr_84_2 ?_
      refine st_ai jo_86 (show 0 ≤ a1 by omega) (show a1 < ((40 : Nat) : Int) by omega) (fun v17 ev17 b18 => ?_)
      replace ev17 : v17 = h 86 a1 := ev17
      replace b18 := (jba_86 a1 _).1 b18
      exact st_r0 (ls := []) ⟨rfl, rfl, f0, v17, rfl, trivial, trivial⟩
  · replace c5 : t3 = 0 := by first | exact c5 | exact Int.not_le.mp c5 | exact Int.not_lt.mp c5 | exact Decidable.not_not.mp c5
    refine st_cv (na := 1) (st := [.inl (-1), .inr (.inr (.inl 0))]) jo_0 rfl rfl rfl (c_X11_refusedAside (-1) h (by omega)) rfl ?_
    rintro _ _ g20 ⟨rfl, ft19, t19, rfl, ht19, zt19⟩ kt19
    replace kt19 : -2147483648 ≤ t19 ∧ t19 ≤ 2147483647 := kt19
    replace ht19 : 2000000001 ≤ t19 ∧ t19 ≤ 2000000007 := ht19
    have fg20 : jfr w_X11_treeOf h g20 := jfr_tr f0 ft19 (fun i k q => by unfold w_X11_refusedAside at q; unfold w_X11_treeOf; omega)
    replace zt19 : t19 = 2000000000 - (-1 : Int) := zt19
    exact st_r0 (ls := []) ⟨rfl, rfl, fg20, t19, rfl, trivial, trivial⟩

def w_X12_treeOf (i k : Int) : Prop := (i = 219)
def k_X12_treeOf (a1 : Int) (a2 : Int) (h : JH) (v : Option JV) (r' g : JH) : Prop := r' = jr0 ∧ jfr w_X12_treeOf h g ∧ ∃ x : Int, v = some (.inl x) ∧ (True) ∧ (True)
set_option maxHeartbeats 4000000 in
theorem c_X12_treeOf {E : JE} {l : Launch} (a1 : Int) (a2 : Int) (h : JH) : jMt E l 127 [.inr (.inr (.inl 176)), .inl a1, .inl a2] 229 jr0 h (k_X12_treeOf a1 a2 h) := by
  refine jMt0 (nL := 3) (ls := [.inr (.inr (.inl 176)), .inl a1, .inl a2]) (by decide +kernel) (by decide +kernel) (by decide +kernel) rfl rfl ?_
  have f0 : jfr w_X12_treeOf h h := jfr_rf _ _
  refine jGo_blk qX12_treeOf_0 ?_
  refine st_gi jo_176 (fun v1 ev1 b2 => ?_)
  replace ev1 : v1 = h 176 34 := ev1
  replace b2 := (jbf_12_34 jo_176 _).1 b2
  have e3 : jw32 (v1 - 1) = v1 - 1 := j32e (by omega) (by omega)
  refine st_cs (na := 3) (st := [.inl (jw32 (v1 - 1)), .inl 0, .inl a1]) rfl rfl rfl (c_X12_in a1 0 (jw32 (v1 - 1)) h) rfl ?_
  rintro _ _ _ ⟨rfl, rfl, t4, rfl, ht4, zt4⟩ kt4
  replace kt4 : -2147483648 ≤ t4 ∧ t4 ≤ 2147483647 := kt4
  replace ht4 : 0 ≤ t4 ∧ t4 ≤ 1 := ht4
  replace zt4 : (t4 = 1 ∧ (0 : Int) ≤ a1 ∧ a1 ≤ (jw32 (v1 - 1))) ∨ (t4 = 0 ∧ ¬ ((0 : Int) ≤ a1 ∧ a1 ≤ (jw32 (v1 - 1)))) := zt4
  refine And.intro (fun c6 => ?_) (fun c6 => ?_)
  · replace c6 : ¬ t4 = 0 := c6
    show jGo E l 127 229 229 _ 20 [.inr (.inr (.inl 176)), .inl a1, .inl a2] [] 229 jr0 h
    refine jGo_blk qX12_treeOf_20 ?_
    refine And.intro (fun c7 => ?_) (And.intro (fun c7 => ?_) (And.intro (fun c7 => ?_) (And.intro (fun c7 => ?_) (And.intro (fun c7 => ?_) (And.intro (fun c7 => ?_) (trivial))))))
    · replace c7 : a2 < 0 ∨ 4 < a2 := c7
      show jGo E l 127 229 229 _ 119 [.inr (.inr (.inl 176)), .inl a1, .inl a2] [] 229 jr0 h
      refine jGo_blk qX12_treeOf_119 ?_
      refine st_cv (na := 1) (st := [.inl (-2), .inr (.inr (.inl 176))]) jo_176 rfl rfl rfl (c_X12_refuseFar (-2) h (by omega)) rfl ?_
      rintro _ _ g9 ⟨rfl, ft8, t8, rfl, ht8, zt8⟩ kt8
      replace kt8 : -2147483648 ≤ t8 ∧ t8 ≤ 2147483647 := kt8
      replace ht8 : 2000000001 ≤ t8 ∧ t8 ≤ 2000000007 := ht8
      have fg9 : jfr w_X12_treeOf h g9 := jfr_tr f0 ft8 (fun i k q => by unfold w_X12_refuseFar at q; unfold w_X12_treeOf; omega)
      replace zt8 : t8 = 2000000000 - (-2 : Int) := zt8
      exact st_r0 (ls := []) ⟨rfl, rfl, fg9, t8, rfl, trivial, trivial⟩
    · replace c7 : a2 = 0 := c7
      show jGo E l 127 229 229 _ 56 [.inr (.inr (.inl 176)), .inl a1, .inl a2] [] 229 jr0 h
      refine jGo_blk qX12_treeOf_56 ?_
      refine st_gr jo_176 jr_176_35 ?_
      refine st_ai jo_205 (show 0 ≤ a1 by omega) (show a1 < ((40 : Nat) : Int) by omega) (fun v10 ev10 b11 => ?_)
      replace ev10 : v10 = h 205 a1 := ev10
      replace b11 := (jba_205 a1 _).1 b11
      exact st_r0 (ls := []) ⟨rfl, rfl, f0, v10, rfl, trivial, trivial⟩
    · replace c7 : a2 = 1 := c7
      show jGo E l 127 229 229 _ 63 [.inr (.inr (.inl 176)), .inl a1, .inl a2] [] 229 jr0 h
      refine jGo_blk qX12_treeOf_63 ?_
      refine st_gr jo_176 jr_176_37 ?_
      refine st_ai jo_207 (show 0 ≤ a1 by omega) (show a1 < ((40 : Nat) : Int) by omega) (fun v12 ev12 b13 => ?_)
      replace ev12 : v12 = h 207 a1 := ev12
      replace b13 := (jba_207 a1 _).1 b13
      exact st_r0 (ls := []) ⟨rfl, rfl, f0, v12, rfl, trivial, trivial⟩
    · replace c7 : a2 = 2 := c7
      show jGo E l 127 229 229 _ 70 [.inr (.inr (.inl 176)), .inl a1, .inl a2] [] 229 jr0 h
      refine jGo_blk qX12_treeOf_70 ?_
      refine st_gr jo_176 jr_176_38 ?_
      refine st_ai jo_208 (show 0 ≤ a1 by omega) (show a1 < ((40 : Nat) : Int) by omega) (fun v14 ev14 b15 => ?_)
      replace ev14 : v14 = h 208 a1 := ev14
      replace b15 := (jba_208 a1 _).1 b15
      refine And.intro (fun c16 => ?_) (fun c16 => ?_)
      · replace c16 : 0 ≤ v14 := c16
        show jGo E l 127 229 229 _ 84 [.inr (.inr (.inl 176)), .inl a1, .inl a2] [] 229 jr0 h
        refine jGo_blk qX12_treeOf_84 ?_
        refine st_gr jo_176 jr_176_38 ?_
        refine st_ai jo_208 (show 0 ≤ a1 by omega) (show a1 < ((40 : Nat) : Int) by omega) (fun v17 ev17 b18 => ?_)
        replace ev17 : v17 = h 208 a1 := ev17
        replace b18 := (jba_208 a1 _).1 b18
        show jGo E l 127 229 229 _ 90 [.inr (.inr (.inl 176)), .inl a1, .inl a2] [.inl v17] 229 jr0 h
        refine jGo_blk qX12_treeOf_90 ?_
        exact st_r0 (ls := []) ⟨rfl, rfl, f0, v17, rfl, trivial, trivial⟩
      · replace c16 : v14 < 0 := by first | exact c16 | exact Int.not_le.mp c16 | exact Int.not_lt.mp c16 | exact Decidable.not_not.mp c16
        show jGo E l 127 229 229 _ 90 [.inr (.inr (.inl 176)), .inl a1, .inl a2] [.inl (-9)] 229 jr0 h
        refine jGo_blk qX12_treeOf_90 ?_
        exact st_r0 (ls := []) ⟨rfl, rfl, f0, (-9), rfl, trivial, trivial⟩
    · replace c7 : a2 = 3 := c7
      show jGo E l 127 229 229 _ 91 [.inr (.inr (.inl 176)), .inl a1, .inl a2] [] 229 jr0 h
      refine jGo_blk qX12_treeOf_91 ?_
      refine st_gr jo_176 jr_176_38 ?_
      refine st_ai jo_208 (show 0 ≤ a1 by omega) (show a1 < ((40 : Nat) : Int) by omega) (fun v19 ev19 b20 => ?_)
      replace ev19 : v19 = h 208 a1 := ev19
      replace b20 := (jba_208 a1 _).1 b20
      refine And.intro (fun c21 => ?_) (fun c21 => ?_)
      · replace c21 : 0 ≤ v19 := c21
        show jGo E l 127 229 229 _ 105 [.inr (.inr (.inl 176)), .inl a1, .inl a2] [] 229 jr0 h
        refine jGo_blk qX12_treeOf_105 ?_
        refine st_gr jo_176 jr_176_39 ?_
        refine st_ai jo_209 (show 0 ≤ a1 by omega) (show a1 < ((40 : Nat) : Int) by omega) (fun v22 ev22 b23 => ?_)
        replace ev22 : v22 = h 209 a1 := ev22
        replace b23 := (jba_209 a1 _).1 b23
        show jGo E l 127 229 229 _ 111 [.inr (.inr (.inl 176)), .inl a1, .inl a2] [.inl v22] 229 jr0 h
        refine jGo_blk qX12_treeOf_111 ?_
        exact st_r0 (ls := []) ⟨rfl, rfl, f0, v22, rfl, trivial, trivial⟩
      · replace c21 : v19 < 0 := by first | exact c21 | exact Int.not_le.mp c21 | exact Int.not_lt.mp c21 | exact Decidable.not_not.mp c21
        show jGo E l 127 229 229 _ 111 [.inr (.inr (.inl 176)), .inl a1, .inl a2] [.inl (-9)] 229 jr0 h
        refine jGo_blk qX12_treeOf_111 ?_
        exact st_r0 (ls := []) ⟨rfl, rfl, f0, (-9), rfl, trivial, trivial⟩
    · replace c7 : a2 = 4 := c7
      show jGo E l 127 229 229 _ 112 [.inr (.inr (.inl 176)), .inl a1, .inl a2] [] 229 jr0 h
      refine jGo_blk qX12_treeOf_112 ?_
      refine st_gr jo_176 jr_176_36 ?_
      refine st_ai jo_206 (show 0 ≤ a1 by omega) (show a1 < ((40 : Nat) : Int) by omega) (fun v24 ev24 b25 => ?_)
      replace ev24 : v24 = h 206 a1 := ev24
      replace b25 := (jba_206 a1 _).1 b25
      exact st_r0 (ls := []) ⟨rfl, rfl, f0, v24, rfl, trivial, trivial⟩
  · replace c6 : t4 = 0 := by first | exact c6 | exact Int.not_le.mp c6 | exact Int.not_lt.mp c6 | exact Decidable.not_not.mp c6
    refine st_cv (na := 1) (st := [.inl (-1), .inr (.inr (.inl 176))]) jo_176 rfl rfl rfl (c_X12_refuseFar (-1) h (by omega)) rfl ?_
    rintro _ _ g27 ⟨rfl, ft26, t26, rfl, ht26, zt26⟩ kt26
    replace kt26 : -2147483648 ≤ t26 ∧ t26 ≤ 2147483647 := kt26
    replace ht26 : 2000000001 ≤ t26 ∧ t26 ≤ 2000000007 := ht26
    have fg27 : jfr w_X12_treeOf h g27 := jfr_tr f0 ft26 (fun i k q => by unfold w_X12_refuseFar at q; unfold w_X12_treeOf; omega)
    replace zt26 : t26 = 2000000000 - (-1 : Int) := zt26
    exact st_r0 (ls := []) ⟨rfl, rfl, fg27, t26, rfl, trivial, trivial⟩

def w_X5_add (i k : Int) : Prop := (102 ≤ i ∧ i ≤ 105) ∨ (i = 101 ∧ k = 0)
def k_X5_add (a1 : Int) (a2 : Int) (a3 : Int) (h : JH) (v : Option JV) (r' g : JH) : Prop := r' = jr0 ∧ jfr w_X5_add h g ∧ v = none ∧ (True)
set_option maxHeartbeats 4000000 in
theorem c_X5_add {E : JE} {l : Launch} (a1 : Int) (a2 : Int) (a3 : Int) (h : JH) (p1 : 0 ≤ a1 ∧ a1 ≤ 5) (p2 : 0 ≤ a2 ∧ a2 ≤ 2000) (q0 : h 101 0 ≤ 39) : jMt E l 128 [.inr (.inr (.inl 101)), .inl a1, .inl a2, .inl a3] 229 jr0 h (k_X5_add a1 a2 a3 h) := by
  refine jMt0 (nL := 5) (ls := [.inr (.inr (.inl 101)), .inl a1, .inl a2, .inl a3, .inr (.inr (.inr ()))]) (by decide +kernel) (by decide +kernel) (by decide +kernel) rfl rfl ?_
  have f0 : jfr w_X5_add h h := jfr_rf _ _
  have key : ∀ N : Nat, (∀ (x4 : Int) (g : JH), (0 ≤ x4 ∧ x4 ≤ 39) → (g 101 0 = h 101 0) → jfr w_X5_add h g → (39 - x4) < (N : Int) → jGo E l 128 229 229 (jRK (k_X5_add a1 a2 a3 h)) 43 [.inr (.inr (.inl 101)), .inl a1, .inl a2, .inl a3, .inl x4] [] 229 jr0 g) := by
    intro N
    induction N with
    | zero => exact fun _ _ hi hx0 _ hN => absurd hN (by omega)
    | succ N ih =>
      intro x4 g hi hx0 hf hN
      refine jGo_blk qX5_add_43 ?_
      refine st_gi jo_101 (fun v1 ev1 b2 => ?_)
      replace ev1 : v1 = g 101 0 := ev1
      replace b2 := (jbf_5_0 jo_101 _).1 b2
      refine And.intro (fun c3 => ?_) (fun c3 => ?_)
      · replace c3 : v1 ≤ x4 := c3
        show jGo E l 128 229 229 _ 85 [.inr (.inr (.inl 101)), .inl a1, .inl a2, .inl a3, .inl x4] [] 229 jr0 g
        refine jGo_blk qX5_add_85 ?_
        refine st_gi jo_101 (fun v4 ev4 b5 => ?_)
        replace ev4 : v4 = g 101 0 := ev4
        replace b5 := (jbf_5_0 jo_101 _).1 b5
        have e6 : jw32 (v4 + 1) = v4 + 1 := j32e (by omega) (by omega)
        refine st_pi jo_101 (fun hx => (jbf_5_0 jo_101 _).2 (show 0 ≤ jw32 (v4 + 1) ∧ jw32 (v4 + 1) ≤ 40 by omega)) (fun g7 eg7 => ?_)
        replace eg7 : g7 = jup g 101 0 (jw32 (v4 + 1)) := eg7
        have fg7 : jfr w_X5_add h g7 := jfr_up hf eg7 (by unfold w_X5_add; omega)
        have e8 : g7 101 0 = jw32 (v4 + 1) := jup_s eg7
        exact ⟨rfl, rfl, fg7, rfl, trivial⟩
      · replace c3 : x4 < v1 := by first | exact c3 | exact Int.not_le.mp c3 | exact Int.not_lt.mp c3 | exact Decidable.not_not.mp c3
        refine st_gr jo_101 jr_101_1 ?_
        refine st_ai jo_102 (show 0 ≤ x4 by omega) (show x4 < ((40 : Nat) : Int) by omega) (fun v9 ev9 b10 => ?_)
        replace ev9 : v9 = g 102 x4 := ev9
        replace b10 := (jba_102 x4 _).1 b10
        refine And.intro (fun c11 => ?_) (fun c11 => ?_)
        · replace c11 : ¬ v9 = a1 := c11
          show jGo E l 128 229 229 _ 79 [.inr (.inr (.inl 101)), .inl a1, .inl a2, .inl a3, .inl x4] [] 229 jr0 g
          refine jGo_blk qX5_add_79 ?_
          have e12 : jw32 (x4 + 1) = x4 + 1 := j32e (by omega) (by omega)
          show jGo E l 128 229 229 _ 43 [.inr (.inr (.inl 101)), .inl a1, .inl a2, .inl a3, .inl (jw32 (x4 + 1))] [] 229 jr0 g
          exact ih (jw32 (x4 + 1)) g (by omega) (by omega) hf (by omega)
        · replace c11 : v9 = a1 := by first | exact c11 | exact Int.not_le.mp c11 | exact Int.not_lt.mp c11 | exact Decidable.not_not.mp c11
          refine st_gr jo_101 jr_101_4 ?_
          refine st_gi jo_101 (fun v13 ev13 b14 => ?_)
          replace ev13 : v13 = g 101 0 := ev13
          replace b14 := (jbf_5_0 jo_101 _).1 b14
          refine st_gr jo_101 jr_101_2 ?_
          refine st_ai jo_103 (show 0 ≤ x4 by omega) (show x4 < ((40 : Nat) : Int) by omega) (fun v15 ev15 b16 => ?_)
          replace ev15 : v15 = g 103 x4 := ev15
          replace b16 := (jba_103 x4 _).1 b16
          refine st_si jo_105 (show 0 ≤ v13 by omega) (show v13 < ((40 : Nat) : Int) by omega) (fun hx => (jba_105 _ _).2 (show 0 ≤ v15 ∧ v15 ≤ 2000 by omega)) (fun g17 eg17 => ?_)
          replace eg17 : g17 = jup g 105 v13 v15 := eg17
          have fg17 : jfr w_X5_add h g17 := jfr_up hf eg17 (by unfold w_X5_add; omega)
          have e18 : g17 105 v13 = v15 := jup_s eg17
          show jGo E l 128 229 229 _ 79 [.inr (.inr (.inl 101)), .inl a1, .inl a2, .inl a3, .inl x4] [] 229 jr0 g17
          refine jGo_blk qX5_add_79 ?_
          have e19 : jw32 (x4 + 1) = x4 + 1 := j32e (by omega) (by omega)
          show jGo E l 128 229 229 _ 43 [.inr (.inr (.inl 101)), .inl a1, .inl a2, .inl a3, .inl (jw32 (x4 + 1))] [] 229 jr0 g17
          have e20 : g17 101 0 = g 101 0 := jup_o eg17 (by omega)
          exact ih (jw32 (x4 + 1)) g17 (by omega) (by omega) fg17 (by omega)
  refine jGo_blk qX5_add_0 ?_
  refine st_gr jo_101 jr_101_1 ?_
  refine st_gi jo_101 (fun v21 ev21 b22 => ?_)
  replace ev21 : v21 = h 101 0 := ev21
  replace b22 := (jbf_5_0 jo_101 _).1 b22
  refine st_si jo_102 (show 0 ≤ v21 by omega) (show v21 < ((40 : Nat) : Int) by omega) (fun hx => (jba_102 _ _).2 (show 0 ≤ a1 ∧ a1 ≤ 5 by omega)) (fun g23 eg23 => ?_)
  replace eg23 : g23 = jup h 102 v21 a1 := eg23
  have fg23 : jfr w_X5_add h g23 := jfr_up f0 eg23 (by unfold w_X5_add; omega)
  have e24 : g23 102 v21 = a1 := jup_s eg23
  refine st_gr jo_101 jr_101_2 ?_
  refine st_gi jo_101 (fun v25 ev25 b26 => ?_)
  replace ev25 : v25 = g23 101 0 := ev25
  replace b26 := (jbf_5_0 jo_101 _).1 b26
  have e27 : g23 101 0 = h 101 0 := jup_o eg23 (by omega)
  refine st_si jo_103 (show 0 ≤ v25 by omega) (show v25 < ((40 : Nat) : Int) by omega) (fun hx => (jba_103 _ _).2 (show 0 ≤ a2 ∧ a2 ≤ 2000 by omega)) (fun g28 eg28 => ?_)
  replace eg28 : g28 = jup g23 103 v25 a2 := eg28
  have fg28 : jfr w_X5_add h g28 := jfr_up fg23 eg28 (by unfold w_X5_add; omega)
  have e29 : g28 103 v25 = a2 := jup_s eg28
  refine st_gr jo_101 jr_101_3 ?_
  refine st_gi jo_101 (fun v30 ev30 b31 => ?_)
  replace ev30 : v30 = g28 101 0 := ev30
  replace b31 := (jbf_5_0 jo_101 _).1 b31
  have e32 : g28 101 0 = g23 101 0 := jup_o eg28 (by omega)
  refine st_si jo_104 (show 0 ≤ v30 by omega) (show v30 < ((40 : Nat) : Int) by omega) (fun hx => (jba_104 _ _).2 hx) (fun g33 eg33 => ?_)
  replace eg33 : g33 = jup g28 104 v30 a3 := eg33
  have fg33 : jfr w_X5_add h g33 := jfr_up fg28 eg33 (by unfold w_X5_add; omega)
  have e34 : g33 104 v30 = a3 := jup_s eg33
  refine st_gr jo_101 jr_101_4 ?_
  refine st_gi jo_101 (fun v35 ev35 b36 => ?_)
  replace ev35 : v35 = g33 101 0 := ev35
  replace b36 := (jbf_5_0 jo_101 _).1 b36
  have e37 : g33 101 0 = g28 101 0 := jup_o eg33 (by omega)
  refine st_si jo_105 (show 0 ≤ v35 by omega) (show v35 < ((40 : Nat) : Int) by omega) (fun hx => (jba_105 _ _).2 (show 0 ≤ 0 ∧ 0 ≤ 2000 by omega)) (fun g38 eg38 => ?_)
  replace eg38 : g38 = jup g33 105 v35 0 := eg38
  have fg38 : jfr w_X5_add h g38 := jfr_up fg33 eg38 (by unfold w_X5_add; omega)
  have e39 : g38 105 v35 = 0 := jup_s eg38
  show jGo E l 128 229 229 _ 43 [.inr (.inr (.inl 101)), .inl a1, .inl a2, .inl a3, .inl 0] [] 229 jr0 g38
  have e40 : g38 101 0 = g33 101 0 := jup_o eg38 (by omega)
  exact (key 1000000000000) 0 g38 (by omega) (by omega) fg38 (by omega)

def w_X11_count (i k : Int) : Prop := (i = 1) ∨ (i = 30) ∨ (102 ≤ i ∧ i ≤ 105) ∨ (i = 101 ∧ k = 0) ∨ (i = 111 ∧ 9 ≤ k ∧ k ≤ 11)
def k_X11_count (a1 : Int) (a2 : Int) (h : JH) (v : Option JV) (r' g : JH) : Prop := r' = jr0 ∧ jfr w_X11_count h g ∧ ∃ x : Int, v = some (.inl x) ∧ (True) ∧ (True)
set_option maxHeartbeats 4000000 in
theorem c_X11_count {E : JE} {l : Launch} (a1 : Int) (a2 : Int) (h : JH) : jMt E l 129 [.inr (.inr (.inl 0)), .inl a1, .inl a2] 229 jr0 h (k_X11_count a1 a2 h) := by
  refine jMt0 (nL := 5) (ls := [.inr (.inr (.inl 0)), .inl a1, .inl a2, .inr (.inr (.inr ())), .inr (.inr (.inr ()))]) (by decide +kernel) (by decide +kernel) (by decide +kernel) rfl rfl ?_
  have f0 : jfr w_X11_count h h := jfr_rf _ _
  refine jGo_blk qX11_count_0 ?_
  refine st_cs (na := 2) (st := [.inl 6, .inl a1]) rfl rfl rfl (c_X11_within a1 6 h) rfl ?_
  rintro _ _ _ ⟨rfl, rfl, t1, rfl, ht1, zt1⟩ kt1
  replace kt1 : -2147483648 ≤ t1 ∧ t1 ≤ 2147483647 := kt1
  replace ht1 : 0 ≤ t1 ∧ t1 ≤ 1 := ht1
  replace zt1 : (t1 = 1 ∧ 0 ≤ a1 ∧ a1 < (6 : Int)) ∨ (t1 = 0 ∧ ¬ (0 ≤ a1 ∧ a1 < (6 : Int))) := zt1
  refine And.intro (fun c3 => ?_) (fun c3 => ?_)
  · replace c3 : ¬ t1 = 0 := c3
    show jGo E l 129 229 229 _ 13 [.inr (.inr (.inl 0)), .inl a1, .inl a2, .inr (.inr (.inr ())), .inr (.inr (.inr ()))] [] 229 jr0 h
    refine jGo_blk qX11_count_13 ?_
    refine st_cs (na := 3) (st := [.inl 1000000, .inl 0, .inl a2]) rfl rfl rfl (c_X11_outside a2 0 1000000 h) rfl ?_
    rintro _ _ _ ⟨rfl, rfl, t4, rfl, ht4, zt4⟩ kt4
    replace kt4 : -2147483648 ≤ t4 ∧ t4 ≤ 2147483647 := kt4
    replace ht4 : -6 ≤ t4 ∧ t4 ≤ 0 := ht4
    replace zt4 : (t4 = -4 ∧ a2 < (0 : Int)) ∨ (t4 = -6 ∧ (0 : Int) ≤ a2 ∧ (1000000 : Int) < a2) ∨ (t4 = 0 ∧ (0 : Int) ≤ a2 ∧ a2 ≤ (1000000 : Int)) := zt4
    show jGo E l 129 229 229 _ 20 [.inr (.inr (.inl 0)), .inl a1, .inl a2, .inr (.inr (.inr ())), .inr (.inr (.inr ()))] [.inl t4] 229 jr0 h
    refine jGo_blk qX11_count_20 ?_
    refine And.intro (fun c6 => ?_) (fun c6 => ?_)
    · replace c6 : ¬ t4 = 0 := c6
      show jGo E l 129 229 229 _ 40 [.inr (.inr (.inl 0)), .inl a1, .inl a2, .inl t4, .inr (.inr (.inr ()))] [] 229 jr0 h
      refine jGo_blk qX11_count_40 ?_
      refine And.intro (fun c7 => ?_) (fun c7 => ?_)
      · replace c7 : t4 = 0 := c7
        exfalso; omega
      · replace c7 : ¬ t4 = 0 := by first | exact c7 | exact Int.not_le.mp c7 | exact Int.not_lt.mp c7 | exact Decidable.not_not.mp c7
        refine st_cv (na := 1) (st := [.inl t4, .inr (.inr (.inl 0))]) jo_0 rfl rfl rfl (c_X11_refusedAside t4 h (by omega)) rfl ?_
        rintro _ _ g9 ⟨rfl, ft8, t8, rfl, ht8, zt8⟩ kt8
        replace kt8 : -2147483648 ≤ t8 ∧ t8 ≤ 2147483647 := kt8
        replace ht8 : 2000000001 ≤ t8 ∧ t8 ≤ 2000000007 := ht8
        have fg9 : jfr w_X11_count h g9 := jfr_tr f0 ft8 (fun i k q => by unfold w_X11_refusedAside at q; unfold w_X11_count; omega)
        replace zt8 : t8 = 2000000000 - t4 := zt8
        exact st_r0 (ls := []) ⟨rfl, rfl, fg9, t8, rfl, trivial, trivial⟩
    · replace c6 : t4 = 0 := by first | exact c6 | exact Int.not_le.mp c6 | exact Int.not_lt.mp c6 | exact Decidable.not_not.mp c6
      refine st_gr jo_0 jr_0_9 ?_
      refine st_gi jo_101 (fun v10 ev10 b11 => ?_)
      replace ev10 : v10 = h 101 0 := ev10
      replace b11 := (jbf_5_0 jo_101 _).1 b11
      refine And.intro (fun c12 => ?_) (fun c12 => ?_)
      · replace c12 : v10 < 40 := c12
        show jGo E l 129 229 229 _ 40 [.inr (.inr (.inl 0)), .inl a1, .inl a2, .inl t4, .inr (.inr (.inr ()))] [] 229 jr0 h
        refine jGo_blk qX11_count_40 ?_
        refine And.intro (fun c13 => ?_) (fun c13 => ?_)
        · replace c13 : t4 = 0 := c13
          show jGo E l 129 229 229 _ 50 [.inr (.inr (.inl 0)), .inl a1, .inl a2, .inl t4, .inr (.inr (.inr ()))] [] 229 jr0 h
          refine jGo_blk qX11_count_50 ?_
          refine st_gr jo_0 jr_0_11 ?_
          refine st_cv (na := 0) (st := [.inr (.inr (.inl 111))]) jo_111 rfl rfl rfl (c_X7_forget h) rfl ?_
          rintro _ _ g15 ⟨rfl, ft14, rfl, zt14⟩ kt14
          have fg15 : jfr w_X11_count h g15 := jfr_tr f0 ft14 (fun i k q => by unfold w_X7_forget at q; unfold w_X11_count; omega)
          refine st_gr jo_0 jr_0_5 ?_
          refine st_gr jo_29 jr_29_0 ?_
          refine st_ai jo_30 (show 0 ≤ a1 by omega) (show a1 < ((6 : Nat) : Int) by omega) (fun v16 ev16 b17 => ?_)
          replace ev16 : v16 = g15 30 a1 := ev16
          replace b17 := (jba_30 a1 _).1 b17
          refine st_gr jo_0 jr_0_5 ?_
          refine st_gr jo_29 jr_29_0 ?_
          refine st_si jo_30 (show 0 ≤ a1 by omega) (show a1 < ((6 : Nat) : Int) by omega) (fun hx => (jba_30 _ _).2 hx) (fun g18 eg18 => ?_)
          replace eg18 : g18 = jup g15 30 a1 a2 := eg18
          have fg18 : jfr w_X11_count h g18 := jfr_up fg15 eg18 (by unfold w_X11_count; omega)
          have e19 : g18 30 a1 = a2 := jup_s eg18
          refine st_gr jo_0 jr_0_9 ?_
          refine st_gi jo_0 (fun v20 ev20 b21 => ?_)
          replace ev20 : v20 = g18 0 0 := ev20
          replace b21 := (jbf_11_0 jo_0 _).1 b21
          have e22 : g18 0 0 = g15 0 0 := jup_o eg18 (by omega)
          have e23 : g15 0 0 = h 0 0 := ft14 0 0 (by unfold w_X7_forget; omega)
          have e24 : g18 101 0 = g15 101 0 := jup_o eg18 (by omega)
          have e25 : g15 101 0 = h 101 0 := ft14 101 0 (by unfold w_X7_forget; omega)
          refine st_cv (na := 3) (st := [.inl (jw32 (v16 - a2)), .inl v20, .inl a1, .inr (.inr (.inl 101))]) jo_101 rfl rfl rfl (c_X5_add a1 v20 (jw32 (v16 - a2)) g18 (by omega) (by omega) (by omega)) rfl ?_
          rintro _ _ g27 ⟨rfl, ft26, rfl, zt26⟩ kt26
          have fg27 : jfr w_X11_count h g27 := jfr_tr fg18 ft26 (fun i k q => by unfold w_X5_add at q; unfold w_X11_count; omega)
          exact st_r0 (ls := []) ⟨rfl, rfl, fg27, jw32 (v16 - a2), rfl, trivial, trivial⟩
        · replace c13 : ¬ t4 = 0 := by first | exact c13 | exact Int.not_le.mp c13 | exact Int.not_lt.mp c13 | exact Decidable.not_not.mp c13
          exfalso; omega
      · replace c12 : 40 ≤ v10 := by first | exact c12 | exact Int.not_le.mp c12 | exact Int.not_lt.mp c12 | exact Decidable.not_not.mp c12
        show jGo E l 129 229 229 _ 40 [.inr (.inr (.inl 0)), .inl a1, .inl a2, .inl (-6), .inr (.inr (.inr ()))] [] 229 jr0 h
        refine jGo_blk qX11_count_40 ?_
        refine And.intro (fun c28 => ?_) (fun c28 => ?_)
        · replace c28 : (-6 : Int) = 0 := c28
          exfalso; omega
        · replace c28 : ¬ (-6 : Int) = 0 := by first | exact c28 | exact Int.not_le.mp c28 | exact Int.not_lt.mp c28 | exact Decidable.not_not.mp c28
          refine st_cv (na := 1) (st := [.inl (-6), .inr (.inr (.inl 0))]) jo_0 rfl rfl rfl (c_X11_refusedAside (-6) h (by omega)) rfl ?_
          rintro _ _ g30 ⟨rfl, ft29, t29, rfl, ht29, zt29⟩ kt29
          replace kt29 : -2147483648 ≤ t29 ∧ t29 ≤ 2147483647 := kt29
          replace ht29 : 2000000001 ≤ t29 ∧ t29 ≤ 2000000007 := ht29
          have fg30 : jfr w_X11_count h g30 := jfr_tr f0 ft29 (fun i k q => by unfold w_X11_refusedAside at q; unfold w_X11_count; omega)
          replace zt29 : t29 = 2000000000 - (-6 : Int) := zt29
          exact st_r0 (ls := []) ⟨rfl, rfl, fg30, t29, rfl, trivial, trivial⟩
  · replace c3 : t1 = 0 := by first | exact c3 | exact Int.not_le.mp c3 | exact Int.not_lt.mp c3 | exact Decidable.not_not.mp c3
    show jGo E l 129 229 229 _ 20 [.inr (.inr (.inl 0)), .inl a1, .inl a2, .inr (.inr (.inr ())), .inr (.inr (.inr ()))] [.inl (-1)] 229 jr0 h
    refine jGo_blk qX11_count_20 ?_
    refine And.intro (fun c31 => ?_) (fun c31 => ?_)
    · replace c31 : ¬ (-1 : Int) = 0 := c31
      show jGo E l 129 229 229 _ 40 [.inr (.inr (.inl 0)), .inl a1, .inl a2, .inl (-1), .inr (.inr (.inr ()))] [] 229 jr0 h
      refine jGo_blk qX11_count_40 ?_
      refine And.intro (fun c32 => ?_) (fun c32 => ?_)
      · replace c32 : (-1 : Int) = 0 := c32
        exfalso; omega
      · replace c32 : ¬ (-1 : Int) = 0 := by first | exact c32 | exact Int.not_le.mp c32 | exact Int.not_lt.mp c32 | exact Decidable.not_not.mp c32
        refine st_cv (na := 1) (st := [.inl (-1), .inr (.inr (.inl 0))]) jo_0 rfl rfl rfl (c_X11_refusedAside (-1) h (by omega)) rfl ?_
        rintro _ _ g34 ⟨rfl, ft33, t33, rfl, ht33, zt33⟩ kt33
        replace kt33 : -2147483648 ≤ t33 ∧ t33 ≤ 2147483647 := kt33
        replace ht33 : 2000000001 ≤ t33 ∧ t33 ≤ 2000000007 := ht33
        have fg34 : jfr w_X11_count h g34 := jfr_tr f0 ft33 (fun i k q => by unfold w_X11_refusedAside at q; unfold w_X11_count; omega)
        replace zt33 : t33 = 2000000000 - (-1 : Int) := zt33
        exact st_r0 (ls := []) ⟨rfl, rfl, fg34, t33, rfl, trivial, trivial⟩
    · replace c31 : (-1 : Int) = 0 := by first | exact c31 | exact Int.not_le.mp c31 | exact Int.not_lt.mp c31 | exact Decidable.not_not.mp c31
      exfalso; omega

def w_X12_count (i k : Int) : Prop := (i = 181) ∨ (215 ≤ i ∧ i ≤ 219) ∨ (i = 176 ∧ k = 45)
def k_X12_count (a1 : Int) (a2 : Int) (h : JH) (v : Option JV) (r' g : JH) : Prop := r' = jr0 ∧ jfr w_X12_count h g ∧ ∃ x : Int, v = some (.inl x) ∧ (True) ∧ (True)
set_option maxHeartbeats 4000000 in
theorem c_X12_count {E : JE} {l : Launch} (a1 : Int) (a2 : Int) (h : JH) (q0 : h 176 0 ≤ 2000) : jMt E l 130 [.inr (.inr (.inl 176)), .inl a1, .inl a2] 229 jr0 h (k_X12_count a1 a2 h) := by
  refine jMt0 (nL := 5) (ls := [.inr (.inr (.inl 176)), .inl a1, .inl a2, .inr (.inr (.inr ())), .inr (.inr (.inr ()))]) (by decide +kernel) (by decide +kernel) (by decide +kernel) rfl rfl ?_
  have f0 : jfr w_X12_count h h := jfr_rf _ _
  have key : ∀ N : Nat, (∀ (x3 : Int) (x4 : Int) (g : JH), (0 ≤ a1 ∧ a1 ≤ 5 ∧ 0 ≤ a2 ∧ a2 ≤ 1000000 ∧ 0 ≤ x3 ∧ x3 ≤ 2000 ∧ 0 ≤ x4 ∧ x4 ≤ 39) → (g 176 45 ≤ 39) → (g 176 0 ≤ 2000) → jfr w_X12_count h g → (39 - x4) < (N : Int) → jGo E l 130 229 229 (jRK (k_X12_count a1 a2 h)) 53 [.inr (.inr (.inl 176)), .inl a1, .inl a2, .inl x3, .inl x4] [] 229 jr0 g) := by
    intro N
    induction N with
    | zero => exact fun _ _ _ hi hx0 hx1 _ hN => absurd hN (by omega)
    | succ N ih =>
      intro x3 x4 g hi hx0 hx1 hf hN
      refine jGo_blk qX12_count_53 ?_
      refine st_gi jo_176 (fun v1 ev1 b2 => ?_)
      replace ev1 : v1 = g 176 45 := ev1
      replace b2 := (jbf_12_45 jo_176 _).1 b2
      refine And.intro (fun c3 => ?_) (fun c3 => ?_)
      · replace c3 : v1 ≤ x4 := c3
        show jGo E l 130 229 229 _ 91 [.inr (.inr (.inl 176)), .inl a1, .inl a2, .inl x3, .inl x4] [] 229 jr0 g
        refine jGo_blk qX12_count_91 ?_
        refine st_gr jo_176 jr_176_46 ?_
        refine st_gi jo_176 (fun v4 ev4 b5 => ?_)
        replace ev4 : v4 = g 176 45 := ev4
        replace b5 := (jbf_12_45 jo_176 _).1 b5
        refine st_si jo_215 (show 0 ≤ v4 by omega) (show v4 < ((40 : Nat) : Int) by omega) (fun hx => (jba_215 _ _).2 (show 0 ≤ a1 ∧ a1 ≤ 5 by omega)) (fun g6 eg6 => ?_)
        replace eg6 : g6 = jup g 215 v4 a1 := eg6
        have fg6 : jfr w_X12_count h g6 := jfr_up hf eg6 (by unfold w_X12_count; omega)
        have e7 : g6 215 v4 = a1 := jup_s eg6
        refine st_gr jo_176 jr_176_47 ?_
        refine st_gi jo_176 (fun v8 ev8 b9 => ?_)
        replace ev8 : v8 = g6 176 45 := ev8
        replace b9 := (jbf_12_45 jo_176 _).1 b9
        have e10 : g6 176 45 = g 176 45 := jup_o eg6 (by omega)
        refine st_gi jo_176 (fun v11 ev11 b12 => ?_)
        replace ev11 : v11 = g6 176 0 := ev11
        replace b12 := (jbf_12_0 jo_176 _).1 b12
        have e13 : g6 176 0 = g 176 0 := jup_o eg6 (by omega)
        refine st_si jo_216 (show 0 ≤ v8 by omega) (show v8 < ((40 : Nat) : Int) by omega) (fun hx => (jba_216 _ _).2 (show 0 ≤ v11 ∧ v11 ≤ 2000 by omega)) (fun g14 eg14 => ?_)
        replace eg14 : g14 = jup g6 216 v8 v11 := eg14
        have fg14 : jfr w_X12_count h g14 := jfr_up fg6 eg14 (by unfold w_X12_count; omega)
        have e15 : g14 216 v8 = v11 := jup_s eg14
        refine st_gr jo_176 jr_176_48 ?_
        refine st_gi jo_176 (fun v16 ev16 b17 => ?_)
        replace ev16 : v16 = g14 176 45 := ev16
        replace b17 := (jbf_12_45 jo_176 _).1 b17
        have e18 : g14 176 45 = g6 176 45 := jup_o eg14 (by omega)
        refine st_gr jo_176 jr_176_5 ?_
        refine st_ai jo_181 (show 0 ≤ a1 by omega) (show a1 < ((6 : Nat) : Int) by omega) (fun v19 ev19 b20 => ?_)
        replace ev19 : v19 = g14 181 a1 := ev19
        replace b20 := (jba_181 a1 _).1 b20
        refine st_si jo_217 (show 0 ≤ v16 by omega) (show v16 < ((40 : Nat) : Int) by omega) (fun hx => (jba_217 _ _).2 hx) (fun g21 eg21 => ?_)
        replace eg21 : g21 = jup g14 217 v16 (jw32 (v19 - a2)) := eg21
        have fg21 : jfr w_X12_count h g21 := jfr_up fg14 eg21 (by unfold w_X12_count; omega)
        have e22 : g21 217 v16 = jw32 (v19 - a2) := jup_s eg21
        refine st_gr jo_176 jr_176_49 ?_
        refine st_gi jo_176 (fun v23 ev23 b24 => ?_)
        replace ev23 : v23 = g21 176 45 := ev23
        replace b24 := (jbf_12_45 jo_176 _).1 b24
        have e25 : g21 176 45 = g14 176 45 := jup_o eg21 (by omega)
        refine st_si jo_218 (show 0 ≤ v23 by omega) (show v23 < ((40 : Nat) : Int) by omega) (fun hx => (jba_218 _ _).2 (show 0 ≤ x3 ∧ x3 ≤ 2000 by omega)) (fun g26 eg26 => ?_)
        replace eg26 : g26 = jup g21 218 v23 x3 := eg26
        have fg26 : jfr w_X12_count h g26 := jfr_up fg21 eg26 (by unfold w_X12_count; omega)
        have e27 : g26 218 v23 = x3 := jup_s eg26
        refine st_gi jo_176 (fun v28 ev28 b29 => ?_)
        replace ev28 : v28 = g26 176 45 := ev28
        replace b29 := (jbf_12_45 jo_176 _).1 b29
        have e30 : g26 176 45 = g21 176 45 := jup_o eg26 (by omega)
        have e31 : jw32 (v28 + 1) = v28 + 1 := j32e (by omega) (by omega)
        refine st_pi jo_176 (fun hx => (jbf_12_45 jo_176 _).2 (show 0 ≤ jw32 (v28 + 1) ∧ jw32 (v28 + 1) ≤ 40 by omega)) (fun g32 eg32 => ?_)
        replace eg32 : g32 = jup g26 176 45 (jw32 (v28 + 1)) := eg32
        have fg32 : jfr w_X12_count h g32 := jfr_up fg26 eg32 (by unfold w_X12_count; omega)
        have e33 : g32 176 45 = jw32 (v28 + 1) := jup_s eg32
        refine st_gr jo_176 jr_176_5 ?_
        refine st_si jo_181 (show 0 ≤ a1 by omega) (show a1 < ((6 : Nat) : Int) by omega) (fun hx => (jba_181 _ _).2 hx) (fun g34 eg34 => ?_)
        replace eg34 : g34 = jup g32 181 a1 a2 := eg34
        have fg34 : jfr w_X12_count h g34 := jfr_up fg32 eg34 (by unfold w_X12_count; omega)
        have e35 : g34 181 a1 = a2 := jup_s eg34
        refine st_gr jo_176 jr_176_48 ?_
        refine st_gi jo_176 (fun v36 ev36 b37 => ?_)
        replace ev36 : v36 = g34 176 45 := ev36
        replace b37 := (jbf_12_45 jo_176 _).1 b37
        have e38 : g34 176 45 = g32 176 45 := jup_o eg34 (by omega)
        have e39 : jw32 (v36 - 1) = v36 - 1 := j32e (by omega) (by omega)
        refine st_ai jo_217 (show 0 ≤ jw32 (v36 - 1) by omega) (show jw32 (v36 - 1) < ((40 : Nat) : Int) by omega) (fun v40 ev40 b41 => ?_)
        replace ev40 : v40 = g34 217 (jw32 (v36 - 1)) := ev40
        replace b41 := (jba_217 (jw32 (v36 - 1)) _).1 b41
        exact st_r0 (ls := []) ⟨rfl, rfl, fg34, v40, rfl, trivial, trivial⟩
      · replace c3 : x4 < v1 := by first | exact c3 | exact Int.not_le.mp c3 | exact Int.not_lt.mp c3 | exact Decidable.not_not.mp c3
        refine st_gr jo_176 jr_176_46 ?_
        refine st_ai jo_215 (show 0 ≤ x4 by omega) (show x4 < ((40 : Nat) : Int) by omega) (fun v42 ev42 b43 => ?_)
        replace ev42 : v42 = g 215 x4 := ev42
        replace b43 := (jba_215 x4 _).1 b43
        refine And.intro (fun c44 => ?_) (fun c44 => ?_)
        · replace c44 : ¬ v42 = a1 := c44
          show jGo E l 130 229 229 _ 83 [.inr (.inr (.inl 176)), .inl a1, .inl a2, .inl x3, .inl x4] [] 229 jr0 g
          refine jGo_blk qX12_count_83 ?_
          show jGo E l 130 229 229 _ 84 [.inr (.inr (.inl 176)), .inl a1, .inl a2, .inl x3, .inl x4] [.inl x3] 229 jr0 g
          refine jGo_blk qX12_count_84 ?_
          have e45 : jw32 (x4 + 1) = x4 + 1 := j32e (by omega) (by omega)
          show jGo E l 130 229 229 _ 53 [.inr (.inr (.inl 176)), .inl a1, .inl a2, .inl x3, .inl (jw32 (x4 + 1))] [] 229 jr0 g
          exact ih x3 (jw32 (x4 + 1)) g (by omega) (by omega) (by omega) hf (by omega)
        · replace c44 : v42 = a1 := by first | exact c44 | exact Int.not_le.mp c44 | exact Int.not_lt.mp c44 | exact Decidable.not_not.mp c44
          refine st_gr jo_176 jr_176_47 ?_
          refine st_ai jo_216 (show 0 ≤ x4 by omega) (show x4 < ((40 : Nat) : Int) by omega) (fun v46 ev46 b47 => ?_)
          replace ev46 : v46 = g 216 x4 := ev46
          replace b47 := (jba_216 x4 _).1 b47
          show jGo E l 130 229 229 _ 84 [.inr (.inr (.inl 176)), .inl a1, .inl a2, .inl x3, .inl x4] [.inl v46] 229 jr0 g
          refine jGo_blk qX12_count_84 ?_
          have e48 : jw32 (x4 + 1) = x4 + 1 := j32e (by omega) (by omega)
          show jGo E l 130 229 229 _ 53 [.inr (.inr (.inl 176)), .inl a1, .inl a2, .inl v46, .inl (jw32 (x4 + 1))] [] 229 jr0 g
          exact ih v46 (jw32 (x4 + 1)) g (by omega) (by omega) (by omega) hf (by omega)
  refine jGo_blk qX12_count_0 ?_
  refine st_cs (na := 3) (st := [.inl 5, .inl 0, .inl a1]) rfl rfl rfl (c_X12_in a1 0 5 h) rfl ?_
  rintro _ _ _ ⟨rfl, rfl, t49, rfl, ht49, zt49⟩ kt49
  replace kt49 : -2147483648 ≤ t49 ∧ t49 ≤ 2147483647 := kt49
  replace ht49 : 0 ≤ t49 ∧ t49 ≤ 1 := ht49
  replace zt49 : (t49 = 1 ∧ (0 : Int) ≤ a1 ∧ a1 ≤ (5 : Int)) ∨ (t49 = 0 ∧ ¬ ((0 : Int) ≤ a1 ∧ a1 ≤ (5 : Int))) := zt49
  refine And.intro (fun c51 => ?_) (fun c51 => ?_)
  · replace c51 : ¬ t49 = 0 := c51
    show jGo E l 130 229 229 _ 15 [.inr (.inr (.inl 176)), .inl a1, .inl a2, .inr (.inr (.inr ())), .inr (.inr (.inr ()))] [] 229 jr0 h
    refine jGo_blk qX12_count_15 ?_
    refine And.intro (fun c52 => ?_) (fun c52 => ?_)
    · replace c52 : 0 ≤ a2 := c52
      show jGo E l 130 229 229 _ 26 [.inr (.inr (.inl 176)), .inl a1, .inl a2, .inr (.inr (.inr ())), .inr (.inr (.inr ()))] [] 229 jr0 h
      refine jGo_blk qX12_count_26 ?_
      refine And.intro (fun c53 => ?_) (fun c53 => ?_)
      · replace c53 : 1000000 < a2 := c53
        show jGo E l 130 229 229 _ 41 [.inr (.inr (.inl 176)), .inl a1, .inl a2, .inr (.inr (.inr ())), .inr (.inr (.inr ()))] [] 229 jr0 h
        refine jGo_blk qX12_count_41 ?_
        refine st_cv (na := 1) (st := [.inl (-6), .inr (.inr (.inl 176))]) jo_176 rfl rfl rfl (c_X12_refuseFar (-6) h (by omega)) rfl ?_
        rintro _ _ g55 ⟨rfl, ft54, t54, rfl, ht54, zt54⟩ kt54
        replace kt54 : -2147483648 ≤ t54 ∧ t54 ≤ 2147483647 := kt54
        replace ht54 : 2000000001 ≤ t54 ∧ t54 ≤ 2000000007 := ht54
        have fg55 : jfr w_X12_count h g55 := jfr_tr f0 ft54 (fun i k q => by unfold w_X12_refuseFar at q; unfold w_X12_count; omega)
        replace zt54 : t54 = 2000000000 - (-6 : Int) := zt54
        exact st_r0 (ls := []) ⟨rfl, rfl, fg55, t54, rfl, trivial, trivial⟩
      · replace c53 : a2 ≤ 1000000 := by first | exact c53 | exact Int.not_le.mp c53 | exact Int.not_lt.mp c53 | exact Decidable.not_not.mp c53
        refine st_gi jo_176 (fun v56 ev56 b57 => ?_)
        replace ev56 : v56 = h 176 45 := ev56
        replace b57 := (jbf_12_45 jo_176 _).1 b57
        refine And.intro (fun c58 => ?_) (fun c58 => ?_)
        · replace c58 : ¬ v56 = 40 := c58
          show jGo E l 130 229 229 _ 48 [.inr (.inr (.inl 176)), .inl a1, .inl a2, .inr (.inr (.inr ())), .inr (.inr (.inr ()))] [] 229 jr0 h
          refine jGo_blk qX12_count_48 ?_
          show jGo E l 130 229 229 _ 53 [.inr (.inr (.inl 176)), .inl a1, .inl a2, .inl 0, .inl 0] [] 229 jr0 h
          exact (key 1000000000000) 0 0 h (by omega) (by omega) (by omega) f0 (by omega)
        · replace c58 : v56 = 40 := by first | exact c58 | exact Int.not_le.mp c58 | exact Int.not_lt.mp c58 | exact Decidable.not_not.mp c58
          show jGo E l 130 229 229 _ 41 [.inr (.inr (.inl 176)), .inl a1, .inl a2, .inr (.inr (.inr ())), .inr (.inr (.inr ()))] [] 229 jr0 h
          refine jGo_blk qX12_count_41 ?_
          refine st_cv (na := 1) (st := [.inl (-6), .inr (.inr (.inl 176))]) jo_176 rfl rfl rfl (c_X12_refuseFar (-6) h (by omega)) rfl ?_
          rintro _ _ g60 ⟨rfl, ft59, t59, rfl, ht59, zt59⟩ kt59
          replace kt59 : -2147483648 ≤ t59 ∧ t59 ≤ 2147483647 := kt59
          replace ht59 : 2000000001 ≤ t59 ∧ t59 ≤ 2000000007 := ht59
          have fg60 : jfr w_X12_count h g60 := jfr_tr f0 ft59 (fun i k q => by unfold w_X12_refuseFar at q; unfold w_X12_count; omega)
          replace zt59 : t59 = 2000000000 - (-6 : Int) := zt59
          exact st_r0 (ls := []) ⟨rfl, rfl, fg60, t59, rfl, trivial, trivial⟩
    · replace c52 : a2 < 0 := by first | exact c52 | exact Int.not_le.mp c52 | exact Int.not_lt.mp c52 | exact Decidable.not_not.mp c52
      refine st_cv (na := 1) (st := [.inl (-4), .inr (.inr (.inl 176))]) jo_176 rfl rfl rfl (c_X12_refuseFar (-4) h (by omega)) rfl ?_
      rintro _ _ g62 ⟨rfl, ft61, t61, rfl, ht61, zt61⟩ kt61
      replace kt61 : -2147483648 ≤ t61 ∧ t61 ≤ 2147483647 := kt61
      replace ht61 : 2000000001 ≤ t61 ∧ t61 ≤ 2000000007 := ht61
      have fg62 : jfr w_X12_count h g62 := jfr_tr f0 ft61 (fun i k q => by unfold w_X12_refuseFar at q; unfold w_X12_count; omega)
      replace zt61 : t61 = 2000000000 - (-4 : Int) := zt61
      exact st_r0 (ls := []) ⟨rfl, rfl, fg62, t61, rfl, trivial, trivial⟩
  · replace c51 : t49 = 0 := by first | exact c51 | exact Int.not_le.mp c51 | exact Int.not_lt.mp c51 | exact Decidable.not_not.mp c51
    refine st_cv (na := 1) (st := [.inl (-1), .inr (.inr (.inl 176))]) jo_176 rfl rfl rfl (c_X12_refuseFar (-1) h (by omega)) rfl ?_
    rintro _ _ g64 ⟨rfl, ft63, t63, rfl, ht63, zt63⟩ kt63
    replace kt63 : -2147483648 ≤ t63 ∧ t63 ≤ 2147483647 := kt63
    replace ht63 : 2000000001 ≤ t63 ∧ t63 ≤ 2000000007 := ht63
    have fg64 : jfr w_X12_count h g64 := jfr_tr f0 ft63 (fun i k q => by unfold w_X12_refuseFar at q; unfold w_X12_count; omega)
    replace zt63 : t63 = 2000000000 - (-1 : Int) := zt63
    exact st_r0 (ls := []) ⟨rfl, rfl, fg64, t63, rfl, trivial, trivial⟩
