def w_X11_treeFor (i k : Int) : Prop := (i = 1)
theorem ws_X11_refused__X11_treeFor (i k : Int) (q : w_X11_refused i k) : w_X11_treeFor i k := by
  unfold w_X11_refused at q; unfold w_X11_treeFor
  exact (by omega)
def k_X11_treeFor (a1 : Int) (a2 : Int) (h : JH) (v : Option JV) (r' g : JH) : Prop := r' = jr0 ∧ jfr w_X11_treeFor h g ∧ ∃ x : Int, v = some (.inl x) ∧ (-9 ≤ x ∧ x ≤ 39) ∧ (P_X11_treeFor a1 a2 x h)
set_option maxHeartbeats 4000000 in
theorem c_X11_treeFor {E : JE} {l : Launch} (a1 : Int) (a2 : Int) (h : JH) : jMt E l 124 [.inr (.inr (.inl 0)), .inl a1, .inl a2] 229 jr0 h (k_X11_treeFor a1 a2 h) := by
  refine jMt0 (nL := 4) (ls := [.inr (.inr (.inl 0)), .inl a1, .inl a2, .inr (.inr (.inr ()))]) (by decide +kernel) (by decide +kernel) (by decide +kernel) rfl rfl ?_
  have f0 : jfr w_X11_treeFor h h := jfr_rf _ _
  refine jGo_blk qX11_treeFor_0 ?_
  refine st_cv (na := 1) (st := [.inl a1, .inr (.inr (.inl 0))]) jo_0 rfl rfl rfl (c_X11_isHull a1 h) rfl ?_
  rintro _ _ _ ⟨rfl, rfl, t1, rfl, ht1, zt1⟩ kt1
  replace kt1 : -2147483648 ≤ t1 ∧ t1 ≤ 2147483647 := kt1
  replace ht1 : 0 ≤ t1 ∧ t1 ≤ 1 := ht1
  replace zt1 : (t1 = 1 ∧ 0 ≤ a1 ∧ a1 < h 29 4 ∧ h 29 4 ≤ 16) ∨ (t1 = 0 ∧ ¬ (0 ≤ a1 ∧ a1 < h 29 4)) := zt1
  refine And.intro (fun c3 => ?_) (fun c3 => ?_)
  · replace c3 : ¬ t1 = 0 := c3
    show jGo E l 124 229 229 _ 12 [.inr (.inr (.inl 0)), .inl a1, .inl a2, .inr (.inr (.inr ()))] [] 229 jr0 h
    refine jGo_blk qX11_treeFor_12 ?_
    refine st_cs (na := 3) (st := [.inl 5, .inl 0, .inl a2]) rfl rfl rfl (c_X11_outside a2 0 5 h) rfl ?_
    rintro _ _ _ ⟨rfl, rfl, t4, rfl, ht4, zt4⟩ kt4
    replace kt4 : -2147483648 ≤ t4 ∧ t4 ≤ 2147483647 := kt4
    replace ht4 : -6 ≤ t4 ∧ t4 ≤ 0 := ht4
    replace zt4 : (t4 = -4 ∧ a2 < (0 : Int)) ∨ (t4 = -6 ∧ (0 : Int) ≤ a2 ∧ (5 : Int) < a2) ∨ (t4 = 0 ∧ (0 : Int) ≤ a2 ∧ a2 ≤ (5 : Int)) := zt4
    show jGo E l 124 229 229 _ 18 [.inr (.inr (.inl 0)), .inl a1, .inl a2, .inr (.inr (.inr ()))] [.inl t4] 229 jr0 h
    refine jGo_blk qX11_treeFor_18 ?_
    refine And.intro (fun c6 => ?_) (fun c6 => ?_)
    · replace c6 : t4 = 0 := c6
      show jGo E l 124 229 229 _ 31 [.inr (.inr (.inl 0)), .inl a1, .inl a2, .inl t4] [] 229 jr0 h
      refine jGo_blk qX11_treeFor_31 ?_
      refine st_gr jo_0 jr_0_6 ?_
      refine st_cv (na := 2) (st := [.inl a2, .inl a1, .inr (.inr (.inl 84))]) jo_84 rfl rfl rfl (c_X3_felledFor a1 a2 h) rfl ?_
      rintro _ _ _ ⟨rfl, rfl, t7, rfl, ht7, zt7⟩ kt7
      replace kt7 : -2147483648 ≤ t7 ∧ t7 ≤ 2147483647 := kt7
      replace ht7 : -9 ≤ t7 ∧ t7 ≤ 39 := ht7
      replace zt7 : t7 = jff (h 88) (h 89) a1 a2 (h 84 0).toNat := zt7
      show jGo E l 124 229 229 _ 40 [.inr (.inr (.inl 0)), .inl a1, .inl a2, .inl t4] [.inl t7] 229 jr0 h
      refine jGo_blk qX11_treeFor_40 ?_
      exact st_r0 (ls := []) ⟨rfl, rfl, f0, t7, rfl, (by omega), (by unfold P_X11_treeFor; by_cases z1 : t7 = -1 <;> by_cases z4 : t7 = -4 <;> first | exact Or.inl (by omega) | exact Or.inr (Or.inl (by omega)) | exact Or.inr (Or.inr (Or.inl (by omega))) | exact Or.inr (Or.inr (Or.inr (by omega))))⟩
    · replace c6 : ¬ t4 = 0 := by first | exact c6 | exact Int.not_le.mp c6 | exact Int.not_lt.mp c6 | exact Decidable.not_not.mp c6
      refine st_cv (na := 1) (st := [.inl t4, .inr (.inr (.inl 0))]) jo_0 rfl rfl rfl (c_X11_refused t4 h (by omega)) rfl ?_
      rintro _ _ g10 ⟨rfl, ft9, t9, rfl, ht9, zt9⟩ kt9
      replace kt9 : -2147483648 ≤ t9 ∧ t9 ≤ 2147483647 := kt9
      replace ht9 : -7 ≤ t9 ∧ t9 ≤ -1 := ht9
      have fg10 : jfr w_X11_treeFor h g10 := jfr_tr f0 ft9 ws_X11_refused__X11_treeFor
      replace zt9 : t9 = t4 := zt9
      show jGo E l 124 229 229 _ 40 [.inr (.inr (.inl 0)), .inl a1, .inl a2, .inl t4] [.inl t9] 229 jr0 g10
      refine jGo_blk qX11_treeFor_40 ?_
      exact st_r0 (ls := []) ⟨rfl, rfl, fg10, t9, rfl, (by omega), (by unfold P_X11_treeFor; by_cases z1 : t9 = -1 <;> by_cases z4 : t9 = -4 <;> first | exact Or.inl (by omega) | exact Or.inr (Or.inl (by omega)) | exact Or.inr (Or.inr (Or.inl (by omega))) | exact Or.inr (Or.inr (Or.inr (by omega))))⟩
  · replace c3 : t1 = 0 := by first | exact c3 | exact Int.not_le.mp c3 | exact Int.not_lt.mp c3 | exact Decidable.not_not.mp c3
    show jGo E l 124 229 229 _ 18 [.inr (.inr (.inl 0)), .inl a1, .inl a2, .inr (.inr (.inr ()))] [.inl (-1)] 229 jr0 h
    refine jGo_blk qX11_treeFor_18 ?_
    refine And.intro (fun c11 => ?_) (fun c11 => ?_)
    · replace c11 : (-1 : Int) = 0 := c11
      exfalso; omega
    · replace c11 : ¬ (-1 : Int) = 0 := by first | exact c11 | exact Int.not_le.mp c11 | exact Int.not_lt.mp c11 | exact Decidable.not_not.mp c11
      refine st_cv (na := 1) (st := [.inl (-1), .inr (.inr (.inl 0))]) jo_0 rfl rfl rfl (c_X11_refused (-1) h (by omega)) rfl ?_
      rintro _ _ g13 ⟨rfl, ft12, t12, rfl, ht12, zt12⟩ kt12
      replace kt12 : -2147483648 ≤ t12 ∧ t12 ≤ 2147483647 := kt12
      replace ht12 : -7 ≤ t12 ∧ t12 ≤ -1 := ht12
      have fg13 : jfr w_X11_treeFor h g13 := jfr_tr f0 ft12 ws_X11_refused__X11_treeFor
      replace zt12 : t12 = (-1 : Int) := zt12
      show jGo E l 124 229 229 _ 40 [.inr (.inr (.inl 0)), .inl a1, .inl a2, .inl (-1)] [.inl t12] 229 jr0 g13
      refine jGo_blk qX11_treeFor_40 ?_
      exact st_r0 (ls := []) ⟨rfl, rfl, fg13, t12, rfl, (by omega), (by unfold P_X11_treeFor; by_cases z1 : t12 = -1 <;> by_cases z4 : t12 = -4 <;> first | exact Or.inl (by omega) | exact Or.inr (Or.inl (by omega)) | exact Or.inr (Or.inr (Or.inl (by omega))) | exact Or.inr (Or.inr (Or.inr (by omega))))⟩

def w_X12_treeFor (i k : Int) : Prop := (i = 219)
theorem ws_X12_refuse__X12_treeFor (i k : Int) (q : w_X12_refuse i k) : w_X12_treeFor i k := by
  unfold w_X12_refuse at q; unfold w_X12_treeFor
  exact (by omega)
def k_X12_treeFor (a1 : Int) (a2 : Int) (h : JH) (v : Option JV) (r' g : JH) : Prop := r' = jr0 ∧ jfr w_X12_treeFor h g ∧ ∃ x : Int, v = some (.inl x) ∧ (-9 ≤ x ∧ x ≤ 39) ∧ (P_X12_treeFor a1 a2 x h)
set_option maxHeartbeats 4000000 in
theorem c_X12_treeFor {E : JE} {l : Launch} (a1 : Int) (a2 : Int) (h : JH) : jMt E l 125 [.inr (.inr (.inl 176)), .inl a1, .inl a2] 229 jr0 h (k_X12_treeFor a1 a2 h) := by
  refine jMt0 (nL := 4) (ls := [.inr (.inr (.inl 176)), .inl a1, .inl a2, .inr (.inr (.inr ()))]) (by decide +kernel) (by decide +kernel) (by decide +kernel) rfl rfl ?_
  have f0 : jfr w_X12_treeFor h h := jfr_rf _ _
  refine jGo_bd (fun hbd => ?_)
  have hb0 := (jbf_12_34 jo_176 _).1 (hbd 176 34)
  have key : ∀ N : Nat, (∀ (x3 : Int) (g : JH), (0 ≤ a1 ∧ a1 ≤ 15 ∧ 0 ≤ a2 ∧ a2 ≤ 5 ∧ 0 ≤ x3 ∧ x3 ≤ 40) → (jff (h 208) (h 209) a1 a2 (x3).toNat = -9) → ((x3 = 0 ∨ x3 ≤ h 176 34) ∧ 0 ≤ a1 ∧ a1 < h 176 14 ∧ 0 ≤ a2 ∧ a2 ≤ 5) → jfr w_X12_treeFor h g → (40 - x3) < (N : Int) → jGo E l 125 229 229 (jRK (k_X12_treeFor a1 a2 h)) 39 [.inr (.inr (.inl 176)), .inl a1, .inl a2, .inl x3] [] 229 jr0 g) := by
    intro N
    induction N with
    | zero => exact fun _ _ hi hx0 hx1 _ hN => absurd hN (by omega)
    | succ N ih =>
      intro x3 g hi hx0 hx1 hf hN
      have hz1 : g 208 x3 = h 208 x3 := hf 208 x3 (by unfold w_X12_treeFor; omega)
      have hz2 : g 209 x3 = h 209 x3 := hf 209 x3 (by unfold w_X12_treeFor; omega)
      have hz3 : g 176 34 = h 176 34 := hf 176 34 (by unfold w_X12_treeFor; omega)
      refine jGo_blk qX12_treeFor_39 ?_
      refine st_gi jo_176 (fun v1 ev1 b2 => ?_)
      replace ev1 : v1 = g 176 34 := ev1
      replace b2 := (jbf_12_34 jo_176 _).1 b2
      refine And.intro (fun c3 => ?_) (fun c3 => ?_)
      · replace c3 : v1 ≤ x3 := c3
        show jGo E l 125 229 229 _ 75 [.inr (.inr (.inl 176)), .inl a1, .inl a2, .inl x3] [] 229 jr0 g
        refine jGo_blk qX12_treeFor_75 ?_
        exact st_r0 (ls := []) ⟨rfl, rfl, hf, (-9), rfl, (by omega), (by unfold P_X12_treeFor; exact Or.inr (Or.inr (Or.inr ⟨by omega, by omega, by omega, by rw [show h 176 34 = x3 by omega]; exact hx0.symm⟩)))⟩
      · replace c3 : x3 < v1 := by first | exact c3 | exact Int.not_le.mp c3 | exact Int.not_lt.mp c3 | exact Decidable.not_not.mp c3
        refine st_gr jo_176 jr_176_38 ?_
        refine st_ai jo_208 (show 0 ≤ x3 by omega) (show x3 < ((40 : Nat) : Int) by omega) (fun v4 ev4 b5 => ?_)
        replace ev4 : v4 = g 208 x3 := ev4
        replace b5 := (jba_208 x3 _).1 b5
        refine And.intro (fun c6 => ?_) (fun c6 => ?_)
        · replace c6 : ¬ v4 = a1 := c6
          show jGo E l 125 229 229 _ 69 [.inr (.inr (.inl 176)), .inl a1, .inl a2, .inl x3] [] 229 jr0 g
          refine jGo_blk qX12_treeFor_69 ?_
          have e7 : jw32 (x3 + 1) = x3 + 1 := jzj32 (by omega)
          show jGo E l 125 229 229 _ 39 [.inr (.inr (.inl 176)), .inl a1, .inl a2, .inl (jw32 (x3 + 1))] [] 229 jr0 g
          exact ih (jw32 (x3 + 1)) g (by omega) (by rw [show jw32 (x3 + 1) = x3 + 1 by omega]; exact jff_n (by omega) hx0 (fun q9 => by omega)) (by omega) hf (by omega)
        · replace c6 : v4 = a1 := by first | exact c6 | exact Int.not_le.mp c6 | exact Int.not_lt.mp c6 | exact Decidable.not_not.mp c6
          refine st_gr jo_176 jr_176_39 ?_
          refine st_ai jo_209 (show 0 ≤ x3 by omega) (show x3 < ((40 : Nat) : Int) by omega) (fun v8 ev8 b9 => ?_)
          replace ev8 : v8 = g 209 x3 := ev8
          replace b9 := (jba_209 x3 _).1 b9
          refine And.intro (fun c10 => ?_) (fun c10 => ?_)
          · replace c10 : ¬ v8 = a2 := c10
            show jGo E l 125 229 229 _ 69 [.inr (.inr (.inl 176)), .inl a1, .inl a2, .inl x3] [] 229 jr0 g
            refine jGo_blk qX12_treeFor_69 ?_
            have e11 : jw32 (x3 + 1) = x3 + 1 := jzj32 (by omega)
            show jGo E l 125 229 229 _ 39 [.inr (.inr (.inl 176)), .inl a1, .inl a2, .inl (jw32 (x3 + 1))] [] 229 jr0 g
            exact ih (jw32 (x3 + 1)) g (by omega) (by rw [show jw32 (x3 + 1) = x3 + 1 by omega]; exact jff_n (by omega) hx0 (fun q9 => by omega)) (by omega) hf (by omega)
          · replace c10 : v8 = a2 := by first | exact c10 | exact Int.not_le.mp c10 | exact Int.not_lt.mp c10 | exact Decidable.not_not.mp c10
            exact st_r0 (ls := []) ⟨rfl, rfl, hf, x3, rfl, (by omega), (by unfold P_X12_treeFor; exact Or.inr (Or.inr (Or.inr ⟨by omega, by omega, by omega, by exact jff_y (by omega) (by omega) hx0 ⟨by omega, by omega⟩⟩)))⟩
  refine jGo_blk qX12_treeFor_0 ?_
  refine st_cv (na := 1) (st := [.inl a1, .inr (.inr (.inl 176))]) jo_176 rfl rfl rfl (c_X12_isHull a1 h) rfl ?_
  rintro _ _ _ ⟨rfl, rfl, t12, rfl, ht12, zt12⟩ kt12
  replace kt12 : -2147483648 ≤ t12 ∧ t12 ≤ 2147483647 := kt12
  replace ht12 : 0 ≤ t12 ∧ t12 ≤ 1 := ht12
  replace zt12 : (t12 = 1 ∧ 0 ≤ a1 ∧ a1 < h 176 14 ∧ h 176 14 ≤ 16) ∨ (t12 = 0 ∧ ¬ (0 ≤ a1 ∧ a1 < h 176 14)) := zt12
  refine And.intro (fun c14 => ?_) (fun c14 => ?_)
  · replace c14 : ¬ t12 = 0 := c14
    show jGo E l 125 229 229 _ 14 [.inr (.inr (.inl 176)), .inl a1, .inl a2, .inr (.inr (.inr ()))] [] 229 jr0 h
    refine jGo_blk qX12_treeFor_14 ?_
    refine And.intro (fun c15 => ?_) (fun c15 => ?_)
    · replace c15 : 0 ≤ a2 := c15
      show jGo E l 125 229 229 _ 25 [.inr (.inr (.inl 176)), .inl a1, .inl a2, .inr (.inr (.inr ()))] [] 229 jr0 h
      refine jGo_blk qX12_treeFor_25 ?_
      refine And.intro (fun c16 => ?_) (fun c16 => ?_)
      · replace c16 : a2 ≤ 5 := c16
        show jGo E l 125 229 229 _ 37 [.inr (.inr (.inl 176)), .inl a1, .inl a2, .inr (.inr (.inr ()))] [] 229 jr0 h
        refine jGo_blk qX12_treeFor_37 ?_
        show jGo E l 125 229 229 _ 39 [.inr (.inr (.inl 176)), .inl a1, .inl a2, .inl 0] [] 229 jr0 h
        exact (key 1000000000000) 0 h (by omega) (by rfl) (by omega) f0 (by omega)
      · replace c16 : 5 < a2 := by first | exact c16 | exact Int.not_le.mp c16 | exact Int.not_lt.mp c16 | exact Decidable.not_not.mp c16
        refine st_cv (na := 1) (st := [.inl (-6), .inr (.inr (.inl 176))]) jo_176 rfl rfl rfl (c_X12_refuse (-6) h (by omega)) rfl ?_
        rintro _ _ g18 ⟨rfl, ft17, t17, rfl, ht17, zt17⟩ kt17
        replace kt17 : -2147483648 ≤ t17 ∧ t17 ≤ 2147483647 := kt17
        replace ht17 : -7 ≤ t17 ∧ t17 ≤ -1 := ht17
        have fg18 : jfr w_X12_treeFor h g18 := jfr_tr f0 ft17 ws_X12_refuse__X12_treeFor
        replace zt17 : t17 = (-6 : Int) := zt17
        exact st_r0 (ls := []) ⟨rfl, rfl, fg18, t17, rfl, (by omega), (by unfold P_X12_treeFor; by_cases z1 : t17 = -1 <;> by_cases z4 : t17 = -4 <;> first | exact Or.inl (by omega) | exact Or.inr (Or.inl (by omega)) | exact Or.inr (Or.inr (Or.inl (by omega))) | exact Or.inr (Or.inr (Or.inr (by omega))))⟩
    · replace c15 : a2 < 0 := by first | exact c15 | exact Int.not_le.mp c15 | exact Int.not_lt.mp c15 | exact Decidable.not_not.mp c15
      refine st_cv (na := 1) (st := [.inl (-4), .inr (.inr (.inl 176))]) jo_176 rfl rfl rfl (c_X12_refuse (-4) h (by omega)) rfl ?_
      rintro _ _ g20 ⟨rfl, ft19, t19, rfl, ht19, zt19⟩ kt19
      replace kt19 : -2147483648 ≤ t19 ∧ t19 ≤ 2147483647 := kt19
      replace ht19 : -7 ≤ t19 ∧ t19 ≤ -1 := ht19
      have fg20 : jfr w_X12_treeFor h g20 := jfr_tr f0 ft19 ws_X12_refuse__X12_treeFor
      replace zt19 : t19 = (-4 : Int) := zt19
      exact st_r0 (ls := []) ⟨rfl, rfl, fg20, t19, rfl, (by omega), (by unfold P_X12_treeFor; by_cases z1 : t19 = -1 <;> by_cases z4 : t19 = -4 <;> first | exact Or.inl (by omega) | exact Or.inr (Or.inl (by omega)) | exact Or.inr (Or.inr (Or.inl (by omega))) | exact Or.inr (Or.inr (Or.inr (by omega))))⟩
  · replace c14 : t12 = 0 := by first | exact c14 | exact Int.not_le.mp c14 | exact Int.not_lt.mp c14 | exact Decidable.not_not.mp c14
    refine st_cv (na := 1) (st := [.inl (-1), .inr (.inr (.inl 176))]) jo_176 rfl rfl rfl (c_X12_refuse (-1) h (by omega)) rfl ?_
    rintro _ _ g22 ⟨rfl, ft21, t21, rfl, ht21, zt21⟩ kt21
    replace kt21 : -2147483648 ≤ t21 ∧ t21 ≤ 2147483647 := kt21
    replace ht21 : -7 ≤ t21 ∧ t21 ≤ -1 := ht21
    have fg22 : jfr w_X12_treeFor h g22 := jfr_tr f0 ft21 ws_X12_refuse__X12_treeFor
    replace zt21 : t21 = (-1 : Int) := zt21
    exact st_r0 (ls := []) ⟨rfl, rfl, fg22, t21, rfl, (by omega), (by unfold P_X12_treeFor; by_cases z1 : t21 = -1 <;> by_cases z4 : t21 = -4 <;> first | exact Or.inl (by omega) | exact Or.inr (Or.inl (by omega)) | exact Or.inr (Or.inr (Or.inl (by omega))) | exact Or.inr (Or.inr (Or.inr (by omega))))⟩

def w_X11_treeOf (i k : Int) : Prop := (i = 1)
theorem ws_X11_refusedAside__X11_treeOf (i k : Int) (q : w_X11_refusedAside i k) : w_X11_treeOf i k := by
  unfold w_X11_refusedAside at q; unfold w_X11_treeOf
  exact (by omega)
def k_X11_treeOf (a1 : Int) (a2 : Int) (h : JH) (v : Option JV) (r' g : JH) : Prop := r' = jr0 ∧ jfr w_X11_treeOf h g ∧ ∃ x : Int, v = some (.inl x) ∧ (True) ∧ (P_X11_treeOf a1 a2 x h)
set_option maxHeartbeats 4000000 in
theorem c_X11_treeOf {E : JE} {l : Launch} (a1 : Int) (a2 : Int) (h : JH) : jMt E l 126 [.inr (.inr (.inl 0)), .inl a1, .inl a2] 229 jr0 h (k_X11_treeOf a1 a2 h) := by
  refine jMt0 (nL := 3) (ls := [.inr (.inr (.inl 0)), .inl a1, .inl a2]) (by decide +kernel) (by decide +kernel) (by decide +kernel) rfl rfl ?_
  have f0 : jfr w_X11_treeOf h h := jfr_rf _ _
  refine jGo_blk qX11_treeOf_0 ?_
  refine st_gr jo_0 jr_0_6 ?_
  refine st_gi jo_84 (fun v1 ev1 b2 => ?_)
  replace ev1 : v1 = h 84 0 := ev1
  replace b2 := (jbf_3_0 jo_84 _).1 b2
  refine st_cs (na := 2) (st := [.inl v1, .inl a1]) rfl rfl rfl (c_X11_within a1 v1 h) rfl ?_
  rintro _ _ _ ⟨rfl, rfl, t3, rfl, ht3, zt3⟩ kt3
  replace kt3 : -2147483648 ≤ t3 ∧ t3 ≤ 2147483647 := kt3
  replace ht3 : 0 ≤ t3 ∧ t3 ≤ 1 := ht3
  replace zt3 : (t3 = 1 ∧ 0 ≤ a1 ∧ a1 < v1) ∨ (t3 = 0 ∧ ¬ (0 ≤ a1 ∧ a1 < v1)) := zt3
  refine And.intro (fun c5 => ?_) (fun c5 => ?_)
  · replace c5 : ¬ t3 = 0 := c5
    show jGo E l 126 229 229 _ 20 [.inr (.inr (.inl 0)), .inl a1, .inl a2] [] 229 jr0 h
    refine jGo_blk qX11_treeOf_20 ?_
    refine And.intro (fun c6 => ?_) (And.intro (fun c6 => ?_) (And.intro (fun c6 => ?_) (And.intro (fun c6 => ?_) (And.intro (fun c6 => ?_) (And.intro (fun c6 => ?_) (trivial))))))
    · replace c6 : a2 < 0 ∨ 4 < a2 := c6
      show jGo E l 126 229 229 _ 106 [.inr (.inr (.inl 0)), .inl a1, .inl a2] [] 229 jr0 h
      refine jGo_blk qX11_treeOf_106 ?_
      refine st_cv (na := 1) (st := [.inl (-2), .inr (.inr (.inl 0))]) jo_0 rfl rfl rfl (c_X11_refusedAside (-2) h (by omega)) rfl ?_
      rintro _ _ g8 ⟨rfl, ft7, t7, rfl, ht7, zt7⟩ kt7
      replace kt7 : -2147483648 ≤ t7 ∧ t7 ≤ 2147483647 := kt7
      replace ht7 : 2000000001 ≤ t7 ∧ t7 ≤ 2000000007 := ht7
      have fg8 : jfr w_X11_treeOf h g8 := jfr_tr f0 ft7 ws_X11_refusedAside__X11_treeOf
      replace zt7 : t7 = 2000000000 - (-2 : Int) := zt7
      exact st_r0 (ls := []) ⟨rfl, rfl, fg8, t7, rfl, trivial, (by unfold P_X11_treeOf; first | exact Or.inl (by omega) | (refine Or.inr ⟨by omega, ?_⟩; first | exact Or.inl (by omega) | exact Or.inr (Or.inl (by omega)) | exact Or.inr (Or.inr (Or.inl (by omega))) | exact Or.inr (Or.inr (Or.inr (Or.inl (by omega)))) | exact Or.inr (Or.inr (Or.inr (Or.inr (Or.inl (by omega))))) | exact Or.inr (Or.inr (Or.inr (Or.inr (Or.inr (by omega)))))))⟩
    · replace c6 : a2 = 0 := c6
      show jGo E l 126 229 229 _ 56 [.inr (.inr (.inl 0)), .inl a1, .inl a2] [] 229 jr0 h
      refine jGo_blk qX11_treeOf_56 ?_
      refine st_gr jo_0 jr_0_6 ?_
      refine st_gr jo_84 jr_84_1 ?_
      refine st_ai jo_85 (show 0 ≤ a1 by omega) (show a1 < ((40 : Nat) : Int) by omega) (fun v9 ev9 b10 => ?_)
      replace ev9 : v9 = h 85 a1 := ev9
      replace b10 := (jba_85 a1 _).1 b10
      exact st_r0 (ls := []) ⟨rfl, rfl, f0, v9, rfl, trivial, (by unfold P_X11_treeOf; first | exact Or.inl (by omega) | (refine Or.inr ⟨by omega, ?_⟩; first | exact Or.inl (by omega) | exact Or.inr (Or.inl (by omega)) | exact Or.inr (Or.inr (Or.inl (by omega))) | exact Or.inr (Or.inr (Or.inr (Or.inl (by omega)))) | exact Or.inr (Or.inr (Or.inr (Or.inr (Or.inl (by omega))))) | exact Or.inr (Or.inr (Or.inr (Or.inr (Or.inr (by omega)))))))⟩
    · replace c6 : a2 = 1 := c6
      show jGo E l 126 229 229 _ 66 [.inr (.inr (.inl 0)), .inl a1, .inl a2] [] 229 jr0 h
      refine jGo_blk qX11_treeOf_66 ?_
      refine st_gr jo_0 jr_0_6 ?_
      refine st_gr jo_84 jr_84_3 ?_
      refine st_ai jo_87 (show 0 ≤ a1 by omega) (show a1 < ((40 : Nat) : Int) by omega) (fun v11 ev11 b12 => ?_)
      replace ev11 : v11 = h 87 a1 := ev11
      replace b12 := (jba_87 a1 _).1 b12
      exact st_r0 (ls := []) ⟨rfl, rfl, f0, v11, rfl, trivial, (by unfold P_X11_treeOf; first | exact Or.inl (by omega) | (refine Or.inr ⟨by omega, ?_⟩; first | exact Or.inl (by omega) | exact Or.inr (Or.inl (by omega)) | exact Or.inr (Or.inr (Or.inl (by omega))) | exact Or.inr (Or.inr (Or.inr (Or.inl (by omega)))) | exact Or.inr (Or.inr (Or.inr (Or.inr (Or.inl (by omega))))) | exact Or.inr (Or.inr (Or.inr (Or.inr (Or.inr (by omega)))))))⟩
    · replace c6 : a2 = 2 := c6
      show jGo E l 126 229 229 _ 76 [.inr (.inr (.inl 0)), .inl a1, .inl a2] [] 229 jr0 h
      refine jGo_blk qX11_treeOf_76 ?_
      refine st_gr jo_0 jr_0_6 ?_
      refine st_gr jo_84 jr_84_4 ?_
      refine st_ai jo_88 (show 0 ≤ a1 by omega) (show a1 < ((40 : Nat) : Int) by omega) (fun v13 ev13 b14 => ?_)
      replace ev13 : v13 = h 88 a1 := ev13
      replace b14 := (jba_88 a1 _).1 b14
      exact st_r0 (ls := []) ⟨rfl, rfl, f0, v13, rfl, trivial, (by unfold P_X11_treeOf; first | exact Or.inl (by omega) | (refine Or.inr ⟨by omega, ?_⟩; first | exact Or.inl (by omega) | exact Or.inr (Or.inl (by omega)) | exact Or.inr (Or.inr (Or.inl (by omega))) | exact Or.inr (Or.inr (Or.inr (Or.inl (by omega)))) | exact Or.inr (Or.inr (Or.inr (Or.inr (Or.inl (by omega))))) | exact Or.inr (Or.inr (Or.inr (Or.inr (Or.inr (by omega)))))))⟩
    · replace c6 : a2 = 3 := c6
      show jGo E l 126 229 229 _ 86 [.inr (.inr (.inl 0)), .inl a1, .inl a2] [] 229 jr0 h
      refine jGo_blk qX11_treeOf_86 ?_
      refine st_gr jo_0 jr_0_6 ?_
      refine st_gr jo_84 jr_84_5 ?_
      refine st_ai jo_89 (show 0 ≤ a1 by omega) (show a1 < ((40 : Nat) : Int) by omega) (fun v15 ev15 b16 => ?_)
      replace ev15 : v15 = h 89 a1 := ev15
      replace b16 := (jba_89 a1 _).1 b16
      exact st_r0 (ls := []) ⟨rfl, rfl, f0, v15, rfl, trivial, (by unfold P_X11_treeOf; first | exact Or.inl (by omega) | (refine Or.inr ⟨by omega, ?_⟩; first | exact Or.inl (by omega) | exact Or.inr (Or.inl (by omega)) | exact Or.inr (Or.inr (Or.inl (by omega))) | exact Or.inr (Or.inr (Or.inr (Or.inl (by omega)))) | exact Or.inr (Or.inr (Or.inr (Or.inr (Or.inl (by omega))))) | exact Or.inr (Or.inr (Or.inr (Or.inr (Or.inr (by omega)))))))⟩
    · replace c6 : a2 = 4 := c6
      show jGo E l 126 229 229 _ 96 [.inr (.inr (.inl 0)), .inl a1, .inl a2] [] 229 jr0 h
      refine jGo_blk qX11_treeOf_96 ?_
      refine st_gr jo_0 jr_0_6 ?_
      refine st_gr jo_84 jr_84_2 ?_
      refine st_ai jo_86 (show 0 ≤ a1 by omega) (show a1 < ((40 : Nat) : Int) by omega) (fun v17 ev17 b18 => ?_)
      replace ev17 : v17 = h 86 a1 := ev17
      replace b18 := (jba_86 a1 _).1 b18
      exact st_r0 (ls := []) ⟨rfl, rfl, f0, v17, rfl, trivial, (by unfold P_X11_treeOf; first | exact Or.inl (by omega) | (refine Or.inr ⟨by omega, ?_⟩; first | exact Or.inl (by omega) | exact Or.inr (Or.inl (by omega)) | exact Or.inr (Or.inr (Or.inl (by omega))) | exact Or.inr (Or.inr (Or.inr (Or.inl (by omega)))) | exact Or.inr (Or.inr (Or.inr (Or.inr (Or.inl (by omega))))) | exact Or.inr (Or.inr (Or.inr (Or.inr (Or.inr (by omega)))))))⟩
  · replace c5 : t3 = 0 := by first | exact c5 | exact Int.not_le.mp c5 | exact Int.not_lt.mp c5 | exact Decidable.not_not.mp c5
    refine st_cv (na := 1) (st := [.inl (-1), .inr (.inr (.inl 0))]) jo_0 rfl rfl rfl (c_X11_refusedAside (-1) h (by omega)) rfl ?_
    rintro _ _ g20 ⟨rfl, ft19, t19, rfl, ht19, zt19⟩ kt19
    replace kt19 : -2147483648 ≤ t19 ∧ t19 ≤ 2147483647 := kt19
    replace ht19 : 2000000001 ≤ t19 ∧ t19 ≤ 2000000007 := ht19
    have fg20 : jfr w_X11_treeOf h g20 := jfr_tr f0 ft19 ws_X11_refusedAside__X11_treeOf
    replace zt19 : t19 = 2000000000 - (-1 : Int) := zt19
    exact st_r0 (ls := []) ⟨rfl, rfl, fg20, t19, rfl, trivial, (by unfold P_X11_treeOf; first | exact Or.inl (by omega) | (refine Or.inr ⟨by omega, ?_⟩; first | exact Or.inl (by omega) | exact Or.inr (Or.inl (by omega)) | exact Or.inr (Or.inr (Or.inl (by omega))) | exact Or.inr (Or.inr (Or.inr (Or.inl (by omega)))) | exact Or.inr (Or.inr (Or.inr (Or.inr (Or.inl (by omega))))) | exact Or.inr (Or.inr (Or.inr (Or.inr (Or.inr (by omega)))))))⟩

def w_X12_treeOf (i k : Int) : Prop := (i = 219)
theorem ws_X12_refuseFar__X12_treeOf (i k : Int) (q : w_X12_refuseFar i k) : w_X12_treeOf i k := by
  unfold w_X12_refuseFar at q; unfold w_X12_treeOf
  exact (by omega)
def k_X12_treeOf (a1 : Int) (a2 : Int) (h : JH) (v : Option JV) (r' g : JH) : Prop := r' = jr0 ∧ jfr w_X12_treeOf h g ∧ ∃ x : Int, v = some (.inl x) ∧ (True) ∧ (P_X12_treeOf a1 a2 x h)
set_option maxHeartbeats 4000000 in
theorem c_X12_treeOf {E : JE} {l : Launch} (a1 : Int) (a2 : Int) (h : JH) : jMt E l 127 [.inr (.inr (.inl 176)), .inl a1, .inl a2] 229 jr0 h (k_X12_treeOf a1 a2 h) := by
  refine jMt0 (nL := 3) (ls := [.inr (.inr (.inl 176)), .inl a1, .inl a2]) (by decide +kernel) (by decide +kernel) (by decide +kernel) rfl rfl ?_
  have f0 : jfr w_X12_treeOf h h := jfr_rf _ _
  refine jGo_blk qX12_treeOf_0 ?_
  refine st_gi jo_176 (fun v1 ev1 b2 => ?_)
  replace ev1 : v1 = h 176 34 := ev1
  replace b2 := (jbf_12_34 jo_176 _).1 b2
  have e3 : jw32 (v1 - 1) = v1 - 1 := jzj32 (by omega)
  refine st_cs (na := 3) (st := [.inl (jw32 (v1 - 1)), .inl 0, .inl a1]) rfl rfl rfl (c_X12_in a1 0 (jw32 (v1 - 1)) h) rfl ?_
  rintro _ _ _ ⟨rfl, rfl, t4, rfl, ht4, zt4⟩ kt4
  replace kt4 : -2147483648 ≤ t4 ∧ t4 ≤ 2147483647 := kt4
  replace ht4 : 0 ≤ t4 ∧ t4 ≤ 1 := ht4
  replace zt4 : (t4 = 1 ∧ (0 : Int) ≤ a1 ∧ a1 ≤ (jw32 (v1 - 1))) ∨ (t4 = 0 ∧ ¬ ((0 : Int) ≤ a1 ∧ a1 ≤ (jw32 (v1 - 1)))) := zt4
  refine And.intro (fun c6 => ?_) (fun c6 => ?_)
  · replace c6 : ¬ t4 = 0 := c6
    show jGo E l 127 229 229 _ 20 [.inr (.inr (.inl 176)), .inl a1, .inl a2] [] 229 jr0 h
    refine jGo_blk qX12_treeOf_20 ?_
    refine And.intro (fun c7 => ?_) (And.intro (fun c7 => ?_) (And.intro (fun c7 => ?_) (And.intro (fun c7 => ?_) (And.intro (fun c7 => ?_) (And.intro (fun c7 => ?_) (trivial))))))
    · replace c7 : a2 < 0 ∨ 4 < a2 := c7
      show jGo E l 127 229 229 _ 119 [.inr (.inr (.inl 176)), .inl a1, .inl a2] [] 229 jr0 h
      refine jGo_blk qX12_treeOf_119 ?_
      refine st_cv (na := 1) (st := [.inl (-2), .inr (.inr (.inl 176))]) jo_176 rfl rfl rfl (c_X12_refuseFar (-2) h (by omega)) rfl ?_
      rintro _ _ g9 ⟨rfl, ft8, t8, rfl, ht8, zt8⟩ kt8
      replace kt8 : -2147483648 ≤ t8 ∧ t8 ≤ 2147483647 := kt8
      replace ht8 : 2000000001 ≤ t8 ∧ t8 ≤ 2000000007 := ht8
      have fg9 : jfr w_X12_treeOf h g9 := jfr_tr f0 ft8 ws_X12_refuseFar__X12_treeOf
      replace zt8 : t8 = 2000000000 - (-2 : Int) := zt8
      exact st_r0 (ls := []) ⟨rfl, rfl, fg9, t8, rfl, trivial, (by unfold P_X12_treeOf; first | exact Or.inl (by omega) | (refine Or.inr ⟨by omega, ?_⟩; first | exact Or.inl (by omega) | exact Or.inr (Or.inl (by omega)) | exact Or.inr (Or.inr (Or.inl (by omega))) | exact Or.inr (Or.inr (Or.inr (Or.inl (by omega)))) | exact Or.inr (Or.inr (Or.inr (Or.inr (Or.inl (by omega))))) | exact Or.inr (Or.inr (Or.inr (Or.inr (Or.inr (Or.inl (by omega)))))) | exact Or.inr (Or.inr (Or.inr (Or.inr (Or.inr (Or.inr (Or.inl (by omega))))))) | exact Or.inr (Or.inr (Or.inr (Or.inr (Or.inr (Or.inr (Or.inr (by omega)))))))))⟩
    · replace c7 : a2 = 0 := c7
      show jGo E l 127 229 229 _ 56 [.inr (.inr (.inl 176)), .inl a1, .inl a2] [] 229 jr0 h
      refine jGo_blk qX12_treeOf_56 ?_
      refine st_gr jo_176 jr_176_35 ?_
      refine st_ai jo_205 (show 0 ≤ a1 by omega) (show a1 < ((40 : Nat) : Int) by omega) (fun v10 ev10 b11 => ?_)
      replace ev10 : v10 = h 205 a1 := ev10
      replace b11 := (jba_205 a1 _).1 b11
      exact st_r0 (ls := []) ⟨rfl, rfl, f0, v10, rfl, trivial, (by unfold P_X12_treeOf; first | exact Or.inl (by omega) | (refine Or.inr ⟨by omega, ?_⟩; first | exact Or.inl (by omega) | exact Or.inr (Or.inl (by omega)) | exact Or.inr (Or.inr (Or.inl (by omega))) | exact Or.inr (Or.inr (Or.inr (Or.inl (by omega)))) | exact Or.inr (Or.inr (Or.inr (Or.inr (Or.inl (by omega))))) | exact Or.inr (Or.inr (Or.inr (Or.inr (Or.inr (Or.inl (by omega)))))) | exact Or.inr (Or.inr (Or.inr (Or.inr (Or.inr (Or.inr (Or.inl (by omega))))))) | exact Or.inr (Or.inr (Or.inr (Or.inr (Or.inr (Or.inr (Or.inr (by omega)))))))))⟩
    · replace c7 : a2 = 1 := c7
      show jGo E l 127 229 229 _ 63 [.inr (.inr (.inl 176)), .inl a1, .inl a2] [] 229 jr0 h
      refine jGo_blk qX12_treeOf_63 ?_
      refine st_gr jo_176 jr_176_37 ?_
      refine st_ai jo_207 (show 0 ≤ a1 by omega) (show a1 < ((40 : Nat) : Int) by omega) (fun v12 ev12 b13 => ?_)
      replace ev12 : v12 = h 207 a1 := ev12
      replace b13 := (jba_207 a1 _).1 b13
      exact st_r0 (ls := []) ⟨rfl, rfl, f0, v12, rfl, trivial, (by unfold P_X12_treeOf; first | exact Or.inl (by omega) | (refine Or.inr ⟨by omega, ?_⟩; first | exact Or.inl (by omega) | exact Or.inr (Or.inl (by omega)) | exact Or.inr (Or.inr (Or.inl (by omega))) | exact Or.inr (Or.inr (Or.inr (Or.inl (by omega)))) | exact Or.inr (Or.inr (Or.inr (Or.inr (Or.inl (by omega))))) | exact Or.inr (Or.inr (Or.inr (Or.inr (Or.inr (Or.inl (by omega)))))) | exact Or.inr (Or.inr (Or.inr (Or.inr (Or.inr (Or.inr (Or.inl (by omega))))))) | exact Or.inr (Or.inr (Or.inr (Or.inr (Or.inr (Or.inr (Or.inr (by omega)))))))))⟩
    · replace c7 : a2 = 2 := c7
      show jGo E l 127 229 229 _ 70 [.inr (.inr (.inl 176)), .inl a1, .inl a2] [] 229 jr0 h
      refine jGo_blk qX12_treeOf_70 ?_
      refine st_gr jo_176 jr_176_38 ?_
      refine st_ai jo_208 (show 0 ≤ a1 by omega) (show a1 < ((40 : Nat) : Int) by omega) (fun v14 ev14 b15 => ?_)
      replace ev14 : v14 = h 208 a1 := ev14
      replace b15 := (jba_208 a1 _).1 b15
      refine And.intro (fun c16 => ?_) (fun c16 => ?_)
      · replace c16 : 0 ≤ v14 := c16
        show jGo E l 127 229 229 _ 84 [.inr (.inr (.inl 176)), .inl a1, .inl a2] [] 229 jr0 h
        refine jGo_blk qX12_treeOf_84 ?_
        refine st_gr jo_176 jr_176_38 ?_
        refine st_ai jo_208 (show 0 ≤ a1 by omega) (show a1 < ((40 : Nat) : Int) by omega) (fun v17 ev17 b18 => ?_)
        replace ev17 : v17 = h 208 a1 := ev17
        replace b18 := (jba_208 a1 _).1 b18
        show jGo E l 127 229 229 _ 90 [.inr (.inr (.inl 176)), .inl a1, .inl a2] [.inl v17] 229 jr0 h
        refine jGo_blk qX12_treeOf_90 ?_
        exact st_r0 (ls := []) ⟨rfl, rfl, f0, v17, rfl, trivial, (by unfold P_X12_treeOf; first | exact Or.inl (by omega) | (refine Or.inr ⟨by omega, ?_⟩; first | exact Or.inl (by omega) | exact Or.inr (Or.inl (by omega)) | exact Or.inr (Or.inr (Or.inl (by omega))) | exact Or.inr (Or.inr (Or.inr (Or.inl (by omega)))) | exact Or.inr (Or.inr (Or.inr (Or.inr (Or.inl (by omega))))) | exact Or.inr (Or.inr (Or.inr (Or.inr (Or.inr (Or.inl (by omega)))))) | exact Or.inr (Or.inr (Or.inr (Or.inr (Or.inr (Or.inr (Or.inl (by omega))))))) | exact Or.inr (Or.inr (Or.inr (Or.inr (Or.inr (Or.inr (Or.inr (by omega)))))))))⟩
      · replace c16 : v14 < 0 := by first | exact c16 | exact Int.not_le.mp c16 | exact Int.not_lt.mp c16 | exact Decidable.not_not.mp c16
        show jGo E l 127 229 229 _ 90 [.inr (.inr (.inl 176)), .inl a1, .inl a2] [.inl (-9)] 229 jr0 h
        refine jGo_blk qX12_treeOf_90 ?_
        exact st_r0 (ls := []) ⟨rfl, rfl, f0, (-9), rfl, trivial, (by unfold P_X12_treeOf; first | exact Or.inl (by omega) | (refine Or.inr ⟨by omega, ?_⟩; first | exact Or.inl (by omega) | exact Or.inr (Or.inl (by omega)) | exact Or.inr (Or.inr (Or.inl (by omega))) | exact Or.inr (Or.inr (Or.inr (Or.inl (by omega)))) | exact Or.inr (Or.inr (Or.inr (Or.inr (Or.inl (by omega))))) | exact Or.inr (Or.inr (Or.inr (Or.inr (Or.inr (Or.inl (by omega)))))) | exact Or.inr (Or.inr (Or.inr (Or.inr (Or.inr (Or.inr (Or.inl (by omega))))))) | exact Or.inr (Or.inr (Or.inr (Or.inr (Or.inr (Or.inr (Or.inr (by omega)))))))))⟩
    · replace c7 : a2 = 3 := c7
      show jGo E l 127 229 229 _ 91 [.inr (.inr (.inl 176)), .inl a1, .inl a2] [] 229 jr0 h
      refine jGo_blk qX12_treeOf_91 ?_
      refine st_gr jo_176 jr_176_38 ?_
      refine st_ai jo_208 (show 0 ≤ a1 by omega) (show a1 < ((40 : Nat) : Int) by omega) (fun v19 ev19 b20 => ?_)
      replace ev19 : v19 = h 208 a1 := ev19
      replace b20 := (jba_208 a1 _).1 b20
      refine And.intro (fun c21 => ?_) (fun c21 => ?_)
      · replace c21 : 0 ≤ v19 := c21
        show jGo E l 127 229 229 _ 105 [.inr (.inr (.inl 176)), .inl a1, .inl a2] [] 229 jr0 h
        refine jGo_blk qX12_treeOf_105 ?_
        refine st_gr jo_176 jr_176_39 ?_
        refine st_ai jo_209 (show 0 ≤ a1 by omega) (show a1 < ((40 : Nat) : Int) by omega) (fun v22 ev22 b23 => ?_)
        replace ev22 : v22 = h 209 a1 := ev22
        replace b23 := (jba_209 a1 _).1 b23
        show jGo E l 127 229 229 _ 111 [.inr (.inr (.inl 176)), .inl a1, .inl a2] [.inl v22] 229 jr0 h
        refine jGo_blk qX12_treeOf_111 ?_
        exact st_r0 (ls := []) ⟨rfl, rfl, f0, v22, rfl, trivial, (by unfold P_X12_treeOf; first | exact Or.inl (by omega) | (refine Or.inr ⟨by omega, ?_⟩; first | exact Or.inl (by omega) | exact Or.inr (Or.inl (by omega)) | exact Or.inr (Or.inr (Or.inl (by omega))) | exact Or.inr (Or.inr (Or.inr (Or.inl (by omega)))) | exact Or.inr (Or.inr (Or.inr (Or.inr (Or.inl (by omega))))) | exact Or.inr (Or.inr (Or.inr (Or.inr (Or.inr (Or.inl (by omega)))))) | exact Or.inr (Or.inr (Or.inr (Or.inr (Or.inr (Or.inr (Or.inl (by omega))))))) | exact Or.inr (Or.inr (Or.inr (Or.inr (Or.inr (Or.inr (Or.inr (by omega)))))))))⟩
      · replace c21 : v19 < 0 := by first | exact c21 | exact Int.not_le.mp c21 | exact Int.not_lt.mp c21 | exact Decidable.not_not.mp c21
        show jGo E l 127 229 229 _ 111 [.inr (.inr (.inl 176)), .inl a1, .inl a2] [.inl (-9)] 229 jr0 h
        refine jGo_blk qX12_treeOf_111 ?_
        exact st_r0 (ls := []) ⟨rfl, rfl, f0, (-9), rfl, trivial, (by unfold P_X12_treeOf; first | exact Or.inl (by omega) | (refine Or.inr ⟨by omega, ?_⟩; first | exact Or.inl (by omega) | exact Or.inr (Or.inl (by omega)) | exact Or.inr (Or.inr (Or.inl (by omega))) | exact Or.inr (Or.inr (Or.inr (Or.inl (by omega)))) | exact Or.inr (Or.inr (Or.inr (Or.inr (Or.inl (by omega))))) | exact Or.inr (Or.inr (Or.inr (Or.inr (Or.inr (Or.inl (by omega)))))) | exact Or.inr (Or.inr (Or.inr (Or.inr (Or.inr (Or.inr (Or.inl (by omega))))))) | exact Or.inr (Or.inr (Or.inr (Or.inr (Or.inr (Or.inr (Or.inr (by omega)))))))))⟩
    · replace c7 : a2 = 4 := c7
      show jGo E l 127 229 229 _ 112 [.inr (.inr (.inl 176)), .inl a1, .inl a2] [] 229 jr0 h
      refine jGo_blk qX12_treeOf_112 ?_
      refine st_gr jo_176 jr_176_36 ?_
      refine st_ai jo_206 (show 0 ≤ a1 by omega) (show a1 < ((40 : Nat) : Int) by omega) (fun v24 ev24 b25 => ?_)
      replace ev24 : v24 = h 206 a1 := ev24
      replace b25 := (jba_206 a1 _).1 b25
      exact st_r0 (ls := []) ⟨rfl, rfl, f0, v24, rfl, trivial, (by unfold P_X12_treeOf; first | exact Or.inl (by omega) | (refine Or.inr ⟨by omega, ?_⟩; first | exact Or.inl (by omega) | exact Or.inr (Or.inl (by omega)) | exact Or.inr (Or.inr (Or.inl (by omega))) | exact Or.inr (Or.inr (Or.inr (Or.inl (by omega)))) | exact Or.inr (Or.inr (Or.inr (Or.inr (Or.inl (by omega))))) | exact Or.inr (Or.inr (Or.inr (Or.inr (Or.inr (Or.inl (by omega)))))) | exact Or.inr (Or.inr (Or.inr (Or.inr (Or.inr (Or.inr (Or.inl (by omega))))))) | exact Or.inr (Or.inr (Or.inr (Or.inr (Or.inr (Or.inr (Or.inr (by omega)))))))))⟩
  · replace c6 : t4 = 0 := by first | exact c6 | exact Int.not_le.mp c6 | exact Int.not_lt.mp c6 | exact Decidable.not_not.mp c6
    refine st_cv (na := 1) (st := [.inl (-1), .inr (.inr (.inl 176))]) jo_176 rfl rfl rfl (c_X12_refuseFar (-1) h (by omega)) rfl ?_
    rintro _ _ g27 ⟨rfl, ft26, t26, rfl, ht26, zt26⟩ kt26
    replace kt26 : -2147483648 ≤ t26 ∧ t26 ≤ 2147483647 := kt26
    replace ht26 : 2000000001 ≤ t26 ∧ t26 ≤ 2000000007 := ht26
    have fg27 : jfr w_X12_treeOf h g27 := jfr_tr f0 ft26 ws_X12_refuseFar__X12_treeOf
    replace zt26 : t26 = 2000000000 - (-1 : Int) := zt26
    exact st_r0 (ls := []) ⟨rfl, rfl, fg27, t26, rfl, trivial, (by unfold P_X12_treeOf; first | exact Or.inl (by omega) | (refine Or.inr ⟨by omega, ?_⟩; first | exact Or.inl (by omega) | exact Or.inr (Or.inl (by omega)) | exact Or.inr (Or.inr (Or.inl (by omega))) | exact Or.inr (Or.inr (Or.inr (Or.inl (by omega)))) | exact Or.inr (Or.inr (Or.inr (Or.inr (Or.inl (by omega))))) | exact Or.inr (Or.inr (Or.inr (Or.inr (Or.inr (Or.inl (by omega)))))) | exact Or.inr (Or.inr (Or.inr (Or.inr (Or.inr (Or.inr (Or.inl (by omega))))))) | exact Or.inr (Or.inr (Or.inr (Or.inr (Or.inr (Or.inr (Or.inr (by omega)))))))))⟩

def w_X5_add (i k : Int) : Prop := (102 ≤ i ∧ i ≤ 105) ∨ (i = 101 ∧ k = 0)
def k_X5_add (a1 : Int) (a2 : Int) (a3 : Int) (h : JH) (v : Option JV) (r' g : JH) : Prop := r' = jr0 ∧ jfr w_X5_add h g ∧ v = none ∧ (∀ i k : Int, g i k = (jup (jup (jup (jup (jup h 102 (h 101 0) a1) 103 (h 101 0) a2) 104 (h 101 0) a3) 105 (h 101 0) (jLb (h 102) (h 103) a1 (h 101 0).toNat)) 101 0 (h 101 0 + 1)) i k)
set_option maxHeartbeats 4000000 in
theorem c_X5_add {E : JE} {l : Launch} (a1 : Int) (a2 : Int) (a3 : Int) (h : JH) (p1 : 0 ≤ a1 ∧ a1 ≤ 5) (p2 : 0 ≤ a2 ∧ a2 ≤ 2000) (q0 : h 101 0 ≤ 39) : jMt E l 128 [.inr (.inr (.inl 101)), .inl a1, .inl a2, .inl a3] 229 jr0 h (k_X5_add a1 a2 a3 h) := by
  refine jMt0 (nL := 5) (ls := [.inr (.inr (.inl 101)), .inl a1, .inl a2, .inl a3, .inr (.inr (.inr ()))]) (by decide +kernel) (by decide +kernel) (by decide +kernel) rfl rfl ?_
  have f0 : jfr w_X5_add h h := jfr_rf _ _
  refine jGo_bd (fun hbd => ?_)
  have hb0 := (jbf_5_0 jo_101 _).1 (hbd 101 0)
  have key : ∀ N : Nat, (∀ (x4 : Int) (g : JH), (0 ≤ x4 ∧ x4 ≤ 39) → (g 101 0 = h 101 0) → (∀ i k : Int, g i k = (jup (jup (jup (jup h 102 (h 101 0) a1) 103 (h 101 0) a2) 104 (h 101 0) a3) 105 (h 101 0) (jLb (h 102) (h 103) a1 (x4).toNat)) i k) → (0 ≤ x4 ∧ x4 ≤ h 101 0) → jfr w_X5_add h g → (39 - x4) < (N : Int) → jGo E l 128 229 229 (jRK (k_X5_add a1 a2 a3 h)) 43 [.inr (.inr (.inl 101)), .inl a1, .inl a2, .inl a3, .inl x4] [] 229 jr0 g) := by
    intro N
    induction N with
    | zero => exact fun _ _ hi hx0 hx1 hx2 _ hN => absurd hN (by omega)
    | succ N ih =>
      intro x4 g hi hx0 hx1 hx2 hf hN
      refine jGo_blk qX5_add_43 ?_
      refine st_gi jo_101 (fun v1 ev1 b2 => ?_)
      replace ev1 : v1 = g 101 0 := ev1
      replace b2 := (jbf_5_0 jo_101 _).1 b2
      refine And.intro (fun c3 => ?_) (fun c3 => ?_)
      · replace c3 : v1 ≤ x4 := c3
        show jGo E l 128 229 229 _ 85 [.inr (.inr (.inl 101)), .inl a1, .inl a2, .inl a3, .inl x4] [] 229 jr0 g
        refine jGo_blk qX5_add_85 ?_
        refine st_gi jo_101 (fun v4 ev4 b5 => ?_)
        replace ev4 : v4 = g 101 0 := ev4
        replace b5 := (jbf_5_0 jo_101 _).1 b5
        have e6 : jw32 (v4 + 1) = v4 + 1 := jzj32 (by omega)
        refine st_pi jo_101 (fun hx => (jbf_5_0 jo_101 _).2 (show 0 ≤ jw32 (v4 + 1) ∧ jw32 (v4 + 1) ≤ 40 by omega)) (fun g7 eg7 => ?_)
        replace eg7 : g7 = jup g 101 0 (jw32 (v4 + 1)) := eg7
        have fg7 : jfr w_X5_add h g7 := jfr_up hf eg7 (by unfold w_X5_add; omega)
        have e8 : g7 101 0 = jw32 (v4 + 1) := jup_s eg7
        exact ⟨rfl, rfl, fg7, rfl, (by exact fun i k => (congrFun (congrFun eg7 i) k).trans (jup_cc rfl rfl (by omega) (by rw [show h 101 0 = x4 by omega] at hx1 ⊢; exact hx1 i k)))⟩
      · replace c3 : x4 < v1 := by first | exact c3 | exact Int.not_le.mp c3 | exact Int.not_lt.mp c3 | exact Decidable.not_not.mp c3
        refine st_gr jo_101 jr_101_1 ?_
        refine st_ai jo_102 (show 0 ≤ x4 by omega) (show x4 < ((40 : Nat) : Int) by omega) (fun v9 ev9 b10 => ?_)
        replace ev9 : v9 = g 102 x4 := ev9
        replace b10 := (jba_102 x4 _).1 b10
        refine And.intro (fun c11 => ?_) (fun c11 => ?_)
        · replace c11 : ¬ v9 = a1 := c11
          show jGo E l 128 229 229 _ 79 [.inr (.inr (.inl 101)), .inl a1, .inl a2, .inl a3, .inl x4] [] 229 jr0 g
          refine jGo_blk qX5_add_79 ?_
          have e12 : jw32 (x4 + 1) = x4 + 1 := jzj32 (by omega)
          show jGo E l 128 229 229 _ 43 [.inr (.inr (.inl 101)), .inl a1, .inl a2, .inl a3, .inl (jw32 (x4 + 1))] [] 229 jr0 g
          have hq13 : ∀ i k : Int, g i k = (jup (jup (jup (jup h 102 (h 101 0) a1) 103 (h 101 0) a2) 104 (h 101 0) a3) 105 (h 101 0) (jLb (h 102) (h 103) a1 (jw32 (x4 + 1) : Int).toNat)) i k := by
            rw [show jw32 (x4 + 1) = x4 + 1 by omega, jLb_s (by omega)]
            have y1 : g 102 x4 = h 102 x4 := (hx1 102 x4).trans (by rw [jup_ne (by omega), jup_ne (by omega), jup_ne (by omega), jup_ne (by omega)])
            have y2 : g 103 x4 = h 103 x4 := (hx1 103 x4).trans (by rw [jup_ne (by omega), jup_ne (by omega), jup_ne (by omega), jup_ne (by omega)])
            intro i k
            rw [if_neg (by omega)]; exact hx1 i k
          exact ih (jw32 (x4 + 1)) g (by omega) (by omega) (by exact hq13) (by omega) hf (by omega)
        · replace c11 : v9 = a1 := by first | exact c11 | exact Int.not_le.mp c11 | exact Int.not_lt.mp c11 | exact Decidable.not_not.mp c11
          refine st_gr jo_101 jr_101_4 ?_
          refine st_gi jo_101 (fun v14 ev14 b15 => ?_)
          replace ev14 : v14 = g 101 0 := ev14
          replace b15 := (jbf_5_0 jo_101 _).1 b15
          refine st_gr jo_101 jr_101_2 ?_
          refine st_ai jo_103 (show 0 ≤ x4 by omega) (show x4 < ((40 : Nat) : Int) by omega) (fun v16 ev16 b17 => ?_)
          replace ev16 : v16 = g 103 x4 := ev16
          replace b17 := (jba_103 x4 _).1 b17
          refine st_si jo_105 (show 0 ≤ v14 by omega) (show v14 < ((40 : Nat) : Int) by omega) (fun hx => (jba_105 _ _).2 (show 0 ≤ v16 ∧ v16 ≤ 2000 by omega)) (fun g18 eg18 => ?_)
          replace eg18 : g18 = jup g 105 v14 v16 := eg18
          have fg18 : jfr w_X5_add h g18 := jfr_up hf eg18 (by unfold w_X5_add; omega)
          have e19 : g18 105 v14 = v16 := jup_s eg18
          show jGo E l 128 229 229 _ 79 [.inr (.inr (.inl 101)), .inl a1, .inl a2, .inl a3, .inl x4] [] 229 jr0 g18
          refine jGo_blk qX5_add_79 ?_
          have e20 : jw32 (x4 + 1) = x4 + 1 := jzj32 (by omega)
          show jGo E l 128 229 229 _ 43 [.inr (.inr (.inl 101)), .inl a1, .inl a2, .inl a3, .inl (jw32 (x4 + 1))] [] 229 jr0 g18
          have e21 : g18 101 0 = g 101 0 := jup_o eg18 (by first | exact fun q => absurd q.1 (by decide) | exact fun q => absurd q.2 (by decide) | omega)
          have hq22 : ∀ i k : Int, g18 i k = (jup (jup (jup (jup h 102 (h 101 0) a1) 103 (h 101 0) a2) 104 (h 101 0) a3) 105 (h 101 0) (jLb (h 102) (h 103) a1 (jw32 (x4 + 1) : Int).toNat)) i k := by
            rw [show jw32 (x4 + 1) = x4 + 1 by omega, jLb_s (by omega)]
            have y1 : g 102 x4 = h 102 x4 := (hx1 102 x4).trans (by rw [jup_ne (by omega), jup_ne (by omega), jup_ne (by omega), jup_ne (by omega)])
            have y2 : g 103 x4 = h 103 x4 := (hx1 103 x4).trans (by rw [jup_ne (by omega), jup_ne (by omega), jup_ne (by omega), jup_ne (by omega)])
            intro i k
            rw [if_pos (by omega), eg18]
            by_cases z : i = 105 ∧ k = h 101 0
            · rw [z.1, z.2, show v14 = h 101 0 by omega, jup_eq, jup_eq]; omega
            · rw [jup_ne (by omega), jup_ne z]; exact (hx1 i k).trans (jup_ne z)
          exact ih (jw32 (x4 + 1)) g18 (by omega) (by omega) (by exact hq22) (by omega) fg18 (by omega)
  refine jGo_blk qX5_add_0 ?_
  refine st_gr jo_101 jr_101_1 ?_
  refine st_gi jo_101 (fun v23 ev23 b24 => ?_)
  replace ev23 : v23 = h 101 0 := ev23
  replace b24 := (jbf_5_0 jo_101 _).1 b24
  refine st_si jo_102 (show 0 ≤ v23 by omega) (show v23 < ((40 : Nat) : Int) by omega) (fun hx => (jba_102 _ _).2 (show 0 ≤ a1 ∧ a1 ≤ 5 by omega)) (fun g25 eg25 => ?_)
  replace eg25 : g25 = jup h 102 v23 a1 := eg25
  have fg25 : jfr w_X5_add h g25 := jfr_up f0 eg25 (by unfold w_X5_add; omega)
  have e26 : g25 102 v23 = a1 := jup_s eg25
  refine st_gr jo_101 jr_101_2 ?_
  refine st_gi jo_101 (fun v27 ev27 b28 => ?_)
  replace ev27 : v27 = g25 101 0 := ev27
  replace b28 := (jbf_5_0 jo_101 _).1 b28
  have e29 : g25 101 0 = h 101 0 := jup_o eg25 (by first | exact fun q => absurd q.1 (by decide) | exact fun q => absurd q.2 (by decide) | omega)
  refine st_si jo_103 (show 0 ≤ v27 by omega) (show v27 < ((40 : Nat) : Int) by omega) (fun hx => (jba_103 _ _).2 (show 0 ≤ a2 ∧ a2 ≤ 2000 by omega)) (fun g30 eg30 => ?_)
  replace eg30 : g30 = jup g25 103 v27 a2 := eg30
  have fg30 : jfr w_X5_add h g30 := jfr_up fg25 eg30 (by unfold w_X5_add; omega)
  have e31 : g30 103 v27 = a2 := jup_s eg30
  refine st_gr jo_101 jr_101_3 ?_
  refine st_gi jo_101 (fun v32 ev32 b33 => ?_)
  replace ev32 : v32 = g30 101 0 := ev32
  replace b33 := (jbf_5_0 jo_101 _).1 b33
  have e34 : g30 101 0 = g25 101 0 := jup_o eg30 (by first | exact fun q => absurd q.1 (by decide) | exact fun q => absurd q.2 (by decide) | omega)
  refine st_si jo_104 (show 0 ≤ v32 by omega) (show v32 < ((40 : Nat) : Int) by omega) (fun hx => (jba_104 _ _).2 hx) (fun g35 eg35 => ?_)
  replace eg35 : g35 = jup g30 104 v32 a3 := eg35
  have fg35 : jfr w_X5_add h g35 := jfr_up fg30 eg35 (by unfold w_X5_add; omega)
  have e36 : g35 104 v32 = a3 := jup_s eg35
  refine st_gr jo_101 jr_101_4 ?_
  refine st_gi jo_101 (fun v37 ev37 b38 => ?_)
  replace ev37 : v37 = g35 101 0 := ev37
  replace b38 := (jbf_5_0 jo_101 _).1 b38
  have e39 : g35 101 0 = g30 101 0 := jup_o eg35 (by first | exact fun q => absurd q.1 (by decide) | exact fun q => absurd q.2 (by decide) | omega)
  refine st_si jo_105 (show 0 ≤ v37 by omega) (show v37 < ((40 : Nat) : Int) by omega) (fun hx => (jba_105 _ _).2 (show 0 ≤ 0 ∧ 0 ≤ 2000 by omega)) (fun g40 eg40 => ?_)
  replace eg40 : g40 = jup g35 105 v37 0 := eg40
  have fg40 : jfr w_X5_add h g40 := jfr_up fg35 eg40 (by unfold w_X5_add; omega)
  have e41 : g40 105 v37 = 0 := jup_s eg40
  show jGo E l 128 229 229 _ 43 [.inr (.inr (.inl 101)), .inl a1, .inl a2, .inl a3, .inl 0] [] 229 jr0 g40
  have e42 : g40 101 0 = g35 101 0 := jup_o eg40 (by first | exact fun q => absurd q.1 (by decide) | exact fun q => absurd q.2 (by decide) | omega)
  have hq43 : ∀ i k : Int, g40 i k = (jup (jup (jup (jup h 102 (h 101 0) a1) 103 (h 101 0) a2) 104 (h 101 0) a3) 105 (h 101 0) (jLb (h 102) (h 103) a1 (0 : Int).toNat)) i k := by
    exact fun i k => ((congrFun (congrFun eg40 i) k).trans (jup_cc rfl (by omega) (by first | rfl | omega) ((congrFun (congrFun eg35 i) k).trans (jup_cc rfl (by omega) (by first | rfl | omega) ((congrFun (congrFun eg30 i) k).trans (jup_cc rfl (by omega) (by first | rfl | omega) ((congrFun (congrFun eg25 i) k).trans (jup_cc rfl (by omega) (by first | rfl | omega) rfl))))))))
  exact (key 1000000000000) 0 g40 (by omega) (by omega) (by exact hq43) (by omega) fg40 (by omega)

def w_X11_count (i k : Int) : Prop := (i = 1) ∨ (i = 30) ∨ (102 ≤ i ∧ i ≤ 105) ∨ (i = 101 ∧ k = 0) ∨ (i = 111 ∧ 9 ≤ k ∧ k ≤ 11)
theorem ws_X11_refusedAside__X11_count (i k : Int) (q : w_X11_refusedAside i k) : w_X11_count i k := by
  unfold w_X11_refusedAside at q; unfold w_X11_count
  exact (Or.inl (by omega))
theorem ws_X7_forget__X11_count (i k : Int) (q : w_X7_forget i k) : w_X11_count i k := by
  unfold w_X7_forget at q; unfold w_X11_count
  exact (Or.inr (Or.inr (Or.inr (Or.inr (by omega)))))
theorem ws_X5_add__X11_count (i k : Int) (q : w_X5_add i k) : w_X11_count i k := by
  unfold w_X5_add at q; unfold w_X11_count
  rcases q with q | q
  · exact (Or.inr (Or.inr (Or.inl (by omega))))
  · exact (Or.inr (Or.inr (Or.inr (Or.inl (by omega)))))
def k_X11_count (a1 : Int) (a2 : Int) (h : JH) (v : Option JV) (r' g : JH) : Prop := r' = jr0 ∧ jfr w_X11_count h g ∧ ∃ x : Int, v = some (.inl x) ∧ (True) ∧ ((P_X11_count a1 a2 x h g) ∧ jFg (2000000000 < x) h g)
set_option maxHeartbeats 4000000 in
theorem c_X11_count {E : JE} {l : Launch} (a1 : Int) (a2 : Int) (h : JH) : jMt E l 129 [.inr (.inr (.inl 0)), .inl a1, .inl a2] 229 jr0 h (k_X11_count a1 a2 h) := by
  refine jMt0 (nL := 5) (ls := [.inr (.inr (.inl 0)), .inl a1, .inl a2, .inr (.inr (.inr ())), .inr (.inr (.inr ()))]) (by decide +kernel) (by decide +kernel) (by decide +kernel) rfl rfl ?_
  have f0 : jfr w_X11_count h h := jfr_rf _ _
  refine jGo_blk qX11_count_0 ?_
  refine st_cs (na := 2) (st := [.inl 6, .inl a1]) rfl rfl rfl (c_X11_within a1 6 h) rfl ?_
  rintro _ _ _ ⟨rfl, rfl, t1, rfl, ht1, zt1⟩ kt1
  replace kt1 : -2147483648 ≤ t1 ∧ t1 ≤ 2147483647 := kt1
  replace ht1 : 0 ≤ t1 ∧ t1 ≤ 1 := ht1
  replace zt1 : (t1 = 1 ∧ 0 ≤ a1 ∧ a1 < (6 : Int)) ∨ (t1 = 0 ∧ ¬ (0 ≤ a1 ∧ a1 < (6 : Int))) := zt1
  refine And.intro (fun c3 => ?_) (fun c3 => ?_)
  · replace c3 : ¬ t1 = 0 := c3
    show jGo E l 129 229 229 _ 13 [.inr (.inr (.inl 0)), .inl a1, .inl a2, .inr (.inr (.inr ())), .inr (.inr (.inr ()))] [] 229 jr0 h
    refine jGo_blk qX11_count_13 ?_
    refine st_cs (na := 3) (st := [.inl 1000000, .inl 0, .inl a2]) rfl rfl rfl (c_X11_outside a2 0 1000000 h) rfl ?_
    rintro _ _ _ ⟨rfl, rfl, t4, rfl, ht4, zt4⟩ kt4
    replace kt4 : -2147483648 ≤ t4 ∧ t4 ≤ 2147483647 := kt4
    replace ht4 : -6 ≤ t4 ∧ t4 ≤ 0 := ht4
    replace zt4 : (t4 = -4 ∧ a2 < (0 : Int)) ∨ (t4 = -6 ∧ (0 : Int) ≤ a2 ∧ (1000000 : Int) < a2) ∨ (t4 = 0 ∧ (0 : Int) ≤ a2 ∧ a2 ≤ (1000000 : Int)) := zt4
    show jGo E l 129 229 229 _ 20 [.inr (.inr (.inl 0)), .inl a1, .inl a2, .inr (.inr (.inr ())), .inr (.inr (.inr ()))] [.inl t4] 229 jr0 h
    refine jGo_blk qX11_count_20 ?_
    refine And.intro (fun c6 => ?_) (fun c6 => ?_)
    · replace c6 : ¬ t4 = 0 := c6
      show jGo E l 129 229 229 _ 40 [.inr (.inr (.inl 0)), .inl a1, .inl a2, .inl t4, .inr (.inr (.inr ()))] [] 229 jr0 h
      refine jGo_blk qX11_count_40 ?_
      refine And.intro (fun c7 => ?_) (fun c7 => ?_)
      · replace c7 : t4 = 0 := c7
        exfalso; omega
      · replace c7 : ¬ t4 = 0 := by first | exact c7 | exact Int.not_le.mp c7 | exact Int.not_lt.mp c7 | exact Decidable.not_not.mp c7
        refine st_cv (na := 1) (st := [.inl t4, .inr (.inr (.inl 0))]) jo_0 rfl rfl rfl (c_X11_refusedAside t4 h (by omega)) rfl ?_
        rintro _ _ g9 ⟨rfl, ft8, t8, rfl, ht8, zt8⟩ kt8
        replace kt8 : -2147483648 ≤ t8 ∧ t8 ≤ 2147483647 := kt8
        replace ht8 : 2000000001 ≤ t8 ∧ t8 ≤ 2000000007 := ht8
        have fg9 : jfr w_X11_count h g9 := jfr_tr f0 ft8 ws_X11_refusedAside__X11_count
        replace zt8 : t8 = 2000000000 - t4 := zt8
        have hs10 : ∀ i k : Int, ¬ i = 1 → ¬ i = 111 → g9 i k = h i k := fun i k p1 p2 => (ft8 i k (by unfold w_X11_refusedAside; omega))
        exact st_r0 (ls := []) ⟨rfl, rfl, fg9, t8, rfl, trivial, (by refine ⟨by unfold P_X11_count; by_cases zz : t8 = 2000000004 <;> first | exact Or.inl ⟨by omega, hs10⟩ | exact Or.inr (Or.inl ⟨by omega, hs10⟩) | exact Or.inr (Or.inr (Or.inl ⟨by omega, hs10⟩)), Or.inr ⟨by omega, fun i k p1 => (ft8 i k (by first | exact p1 | (unfold w_X11_refusedAside; omega)))⟩⟩)⟩
    · replace c6 : t4 = 0 := by first | exact c6 | exact Int.not_le.mp c6 | exact Int.not_lt.mp c6 | exact Decidable.not_not.mp c6
      refine st_gr jo_0 jr_0_9 ?_
      refine st_gi jo_101 (fun v11 ev11 b12 => ?_)
      replace ev11 : v11 = h 101 0 := ev11
      replace b12 := (jbf_5_0 jo_101 _).1 b12
      refine And.intro (fun c13 => ?_) (fun c13 => ?_)
      · replace c13 : v11 < 40 := c13
        show jGo E l 129 229 229 _ 40 [.inr (.inr (.inl 0)), .inl a1, .inl a2, .inl t4, .inr (.inr (.inr ()))] [] 229 jr0 h
        refine jGo_blk qX11_count_40 ?_
        refine And.intro (fun c14 => ?_) (fun c14 => ?_)
        · replace c14 : t4 = 0 := c14
          show jGo E l 129 229 229 _ 50 [.inr (.inr (.inl 0)), .inl a1, .inl a2, .inl t4, .inr (.inr (.inr ()))] [] 229 jr0 h
          refine jGo_blk qX11_count_50 ?_
          refine st_gr jo_0 jr_0_11 ?_
          refine st_cv (na := 0) (st := [.inr (.inr (.inl 111))]) jo_111 rfl rfl rfl (c_X7_forget h) rfl ?_
          rintro _ _ g16 ⟨rfl, ft15, rfl, zt15⟩ kt15
          have fg16 : jfr w_X11_count h g16 := jfr_tr f0 ft15 ws_X7_forget__X11_count
          replace zt15 : g16 111 9 = 0 ∧ g16 111 10 = 0 ∧ g16 111 11 = 0 := zt15
          refine st_gr jo_0 jr_0_5 ?_
          refine st_gr jo_29 jr_29_0 ?_
          refine st_ai jo_30 (show 0 ≤ a1 by omega) (show a1 < ((6 : Nat) : Int) by omega) (fun v17 ev17 b18 => ?_)
          replace ev17 : v17 = g16 30 a1 := ev17
          replace b18 := (jba_30 a1 _).1 b18
          refine st_gr jo_0 jr_0_5 ?_
          refine st_gr jo_29 jr_29_0 ?_
          refine st_si jo_30 (show 0 ≤ a1 by omega) (show a1 < ((6 : Nat) : Int) by omega) (fun hx => (jba_30 _ _).2 hx) (fun g19 eg19 => ?_)
          replace eg19 : g19 = jup g16 30 a1 a2 := eg19
          have fg19 : jfr w_X11_count h g19 := jfr_up fg16 eg19 (by unfold w_X11_count; omega)
          have e20 : g19 30 a1 = a2 := jup_s eg19
          refine st_gr jo_0 jr_0_9 ?_
          refine st_gi jo_0 (fun v21 ev21 b22 => ?_)
          replace ev21 : v21 = g19 0 0 := ev21
          replace b22 := (jbf_11_0 jo_0 _).1 b22
          have e23 : g19 0 0 = g16 0 0 := jup_o eg19 (by first | exact fun q => absurd q.1 (by decide) | exact fun q => absurd q.2 (by decide) | omega)
          have e24 : g16 0 0 = h 0 0 := ft15 0 0 (by unfold w_X7_forget; omega)
          have e25 : g19 101 0 = g16 101 0 := jup_o eg19 (by first | exact fun q => absurd q.1 (by decide) | exact fun q => absurd q.2 (by decide) | omega)
          have e26 : g16 101 0 = h 101 0 := ft15 101 0 (by unfold w_X7_forget; omega)
          refine st_cv (na := 3) (st := [.inl (jw32 (v17 - a2)), .inl v21, .inl a1, .inr (.inr (.inl 101))]) jo_101 rfl rfl rfl (c_X5_add a1 v21 (jw32 (v17 - a2)) g19 (by omega) (by omega) (by omega)) rfl ?_
          rintro _ _ g28 ⟨rfl, ft27, rfl, zt27⟩ kt27
          have fg28 : jfr w_X11_count h g28 := jfr_tr fg19 ft27 ws_X5_add__X11_count
          replace zt27 : ∀ i k : Int, g28 i k = (jup (jup (jup (jup (jup g19 102 (g19 101 0) a1) 103 (g19 101 0) v21) 104 (g19 101 0) (jw32 (v17 - a2))) 105 (g19 101 0) (jLb (g19 102) (g19 103) a1 (g19 101 0).toNat)) 101 0 (g19 101 0 + 1)) i k := zt27
          have e29 : g16 30 a1 = h 30 a1 := (ft15 30 a1 (by unfold w_X7_forget; omega))
          have e30 : g19 0 0 = h 0 0 := ((jup_o eg19 (by first | exact fun q => absurd q.1 (by decide) | exact fun q => absurd q.2 (by decide) | omega)).trans (ft15 0 0 (by unfold w_X7_forget; omega)))
          have rv31 : v11 = h 101 0 := by omega
          subst rv31
          have rv32 : v17 = h 30 a1 := by omega
          subst rv32
          have rv33 : v21 = h 0 0 := by omega
          subst rv33
          have hq34 : ∀ i k : Int, ¬ i = 1 → ¬ i = 111 → g28 i k = (jup (jup (jup (jup (jup (jup h 30 a1 a2) 102 (h 101 0) a1) 103 (h 101 0) (h 0 0)) 104 (h 101 0) (jw32 (h 30 a1 - a2))) 105 (h 101 0) (jLb (h 102) (h 103) a1 (h 101 0).toNat)) 101 0 (h 101 0 + 1)) i k := by
            have y0 : ∀ i k : Int, ¬ i = 1 → ¬ i = 111 → g19 i k = jup h 30 a1 a2 i k := fun i k p1 p2 => (congrFun (congrFun eg19 i) k).trans (jup_cc rfl rfl rfl (ft15 i k (by unfold w_X7_forget; omega)))
            have y1 : g19 101 0 = h 101 0 := (y0 101 0 (by decide) (by decide)).trans (jup_ne (by omega))
            have y2 : g19 102 = h 102 := funext (fun k => (y0 102 k (by decide) (by decide)).trans (jup_ne (by omega)))
            have y3 : g19 103 = h 103 := funext (fun k => (y0 103 k (by decide) (by decide)).trans (jup_ne (by omega)))
            intro i k p1 p2
            have y4 := zt27 i k
            rw [y1, y2, y3] at y4
            refine y4.trans (jup_cc rfl rfl rfl (jup_cc rfl rfl rfl (jup_cc rfl rfl ?_ (jup_cc rfl rfl ?_ (jup_cc rfl rfl rfl (y0 i k p1 p2))))))
            · first | rfl | omega
            · first | rfl | omega
          exact st_r0 (ls := []) ⟨rfl, rfl, fg28, jw32 ((h 30 a1) - a2), rfl, trivial, (by refine ⟨by unfold P_X11_count; exact Or.inr (Or.inr (Or.inr ⟨by omega, by first | rfl | omega, hq34⟩)), Or.inl ?_⟩; exact ⟨(((ft27 111 9 (by unfold w_X5_add; omega)).trans (jup_o eg19 (by first | exact fun q => absurd q.1 (by decide) | exact fun q => absurd q.2 (by decide) | omega)))).trans zt15.1, (((ft27 111 10 (by unfold w_X5_add; omega)).trans (jup_o eg19 (by first | exact fun q => absurd q.1 (by decide) | exact fun q => absurd q.2 (by decide) | omega)))).trans zt15.2.1, (((ft27 111 11 (by unfold w_X5_add; omega)).trans (jup_o eg19 (by first | exact fun q => absurd q.1 (by decide) | exact fun q => absurd q.2 (by decide) | omega)))).trans zt15.2.2⟩)⟩
        · replace c14 : ¬ t4 = 0 := by first | exact c14 | exact Int.not_le.mp c14 | exact Int.not_lt.mp c14 | exact Decidable.not_not.mp c14
          exfalso; omega
      · replace c13 : 40 ≤ v11 := by first | exact c13 | exact Int.not_le.mp c13 | exact Int.not_lt.mp c13 | exact Decidable.not_not.mp c13
        show jGo E l 129 229 229 _ 40 [.inr (.inr (.inl 0)), .inl a1, .inl a2, .inl (-6), .inr (.inr (.inr ()))] [] 229 jr0 h
        refine jGo_blk qX11_count_40 ?_
        refine And.intro (fun c35 => ?_) (fun c35 => ?_)
        · replace c35 : (-6 : Int) = 0 := c35
          exfalso; omega
        · replace c35 : ¬ (-6 : Int) = 0 := by first | exact c35 | exact Int.not_le.mp c35 | exact Int.not_lt.mp c35 | exact Decidable.not_not.mp c35
          refine st_cv (na := 1) (st := [.inl (-6), .inr (.inr (.inl 0))]) jo_0 rfl rfl rfl (c_X11_refusedAside (-6) h (by omega)) rfl ?_
          rintro _ _ g37 ⟨rfl, ft36, t36, rfl, ht36, zt36⟩ kt36
          replace kt36 : -2147483648 ≤ t36 ∧ t36 ≤ 2147483647 := kt36
          replace ht36 : 2000000001 ≤ t36 ∧ t36 ≤ 2000000007 := ht36
          have fg37 : jfr w_X11_count h g37 := jfr_tr f0 ft36 ws_X11_refusedAside__X11_count
          replace zt36 : t36 = 2000000000 - (-6 : Int) := zt36
          have hs38 : ∀ i k : Int, ¬ i = 1 → ¬ i = 111 → g37 i k = h i k := fun i k p1 p2 => (ft36 i k (by unfold w_X11_refusedAside; omega))
          exact st_r0 (ls := []) ⟨rfl, rfl, fg37, t36, rfl, trivial, (by refine ⟨by unfold P_X11_count; by_cases zz : t36 = 2000000004 <;> first | exact Or.inl ⟨by omega, hs38⟩ | exact Or.inr (Or.inl ⟨by omega, hs38⟩) | exact Or.inr (Or.inr (Or.inl ⟨by omega, hs38⟩)), Or.inr ⟨by omega, fun i k p1 => (ft36 i k (by first | exact p1 | (unfold w_X11_refusedAside; omega)))⟩⟩)⟩
  · replace c3 : t1 = 0 := by first | exact c3 | exact Int.not_le.mp c3 | exact Int.not_lt.mp c3 | exact Decidable.not_not.mp c3
    show jGo E l 129 229 229 _ 20 [.inr (.inr (.inl 0)), .inl a1, .inl a2, .inr (.inr (.inr ())), .inr (.inr (.inr ()))] [.inl (-1)] 229 jr0 h
    refine jGo_blk qX11_count_20 ?_
    refine And.intro (fun c39 => ?_) (fun c39 => ?_)
    · replace c39 : ¬ (-1 : Int) = 0 := c39
      show jGo E l 129 229 229 _ 40 [.inr (.inr (.inl 0)), .inl a1, .inl a2, .inl (-1), .inr (.inr (.inr ()))] [] 229 jr0 h
      refine jGo_blk qX11_count_40 ?_
      refine And.intro (fun c40 => ?_) (fun c40 => ?_)
      · replace c40 : (-1 : Int) = 0 := c40
        exfalso; omega
      · replace c40 : ¬ (-1 : Int) = 0 := by first | exact c40 | exact Int.not_le.mp c40 | exact Int.not_lt.mp c40 | exact Decidable.not_not.mp c40
        refine st_cv (na := 1) (st := [.inl (-1), .inr (.inr (.inl 0))]) jo_0 rfl rfl rfl (c_X11_refusedAside (-1) h (by omega)) rfl ?_
        rintro _ _ g42 ⟨rfl, ft41, t41, rfl, ht41, zt41⟩ kt41
        replace kt41 : -2147483648 ≤ t41 ∧ t41 ≤ 2147483647 := kt41
        replace ht41 : 2000000001 ≤ t41 ∧ t41 ≤ 2000000007 := ht41
        have fg42 : jfr w_X11_count h g42 := jfr_tr f0 ft41 ws_X11_refusedAside__X11_count
        replace zt41 : t41 = 2000000000 - (-1 : Int) := zt41
        have hs43 : ∀ i k : Int, ¬ i = 1 → ¬ i = 111 → g42 i k = h i k := fun i k p1 p2 => (ft41 i k (by unfold w_X11_refusedAside; omega))
        exact st_r0 (ls := []) ⟨rfl, rfl, fg42, t41, rfl, trivial, (by refine ⟨by unfold P_X11_count; by_cases zz : t41 = 2000000004 <;> first | exact Or.inl ⟨by omega, hs43⟩ | exact Or.inr (Or.inl ⟨by omega, hs43⟩) | exact Or.inr (Or.inr (Or.inl ⟨by omega, hs43⟩)), Or.inr ⟨by omega, fun i k p1 => (ft41 i k (by first | exact p1 | (unfold w_X11_refusedAside; omega)))⟩⟩)⟩
    · replace c39 : (-1 : Int) = 0 := by first | exact c39 | exact Int.not_le.mp c39 | exact Int.not_lt.mp c39 | exact Decidable.not_not.mp c39
      exfalso; omega
