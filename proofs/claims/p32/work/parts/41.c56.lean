def w_X12_order (i k : Int) : Prop := (i = 181) ∨ (i = 190) ∨ (192 ≤ i ∧ i ≤ 200) ∨ (i = 202) ∨ (i = 219) ∨ (224 ≤ i ∧ i ≤ 228) ∨ (i = 176 ∧ k = 0) ∨ (i = 176 ∧ 30 ≤ k ∧ k ≤ 32) ∨ (i = 176 ∧ k = 62)
def k_X12_order (a1 : Int) (h : JH) (v : Option JV) (r' g : JH) : Prop := r' = jr0 ∧ jfr w_X12_order h g ∧ ∃ x : Int, v = some (.inl x) ∧ (-9 ≤ x ∧ x ≤ 15) ∧ (((g 176 0 = h 176 0) ∧ (((x = -3 ∧ 5 < (jUL h).length) ∨ ((jUL h).length ≤ 5 ∧ ((¬ (0 ≤ a1 ∧ a1 < ((jUL h).length : Int)) ∧ x = -9) ∨ (0 ≤ a1 ∧ a1 < ((jUL h).length : Int) ∧ ∃ (t : Int) (o : Nat → Int), jRLs h t o ∧ x = o a1.toNat)))))) ∧ ∀ L k : Int, jlv L k → g L k = h L k)
set_option maxHeartbeats 4000000 in
theorem c_X12_order {E : JE} {l : Launch} (a1 : Int) (h : JH) (q0 : h 176 0 ≤ 2000) : jMt E l 169 [.inr (.inr (.inl 176)), .inl a1] 229 jr0 h (k_X12_order a1 h) := by
  refine jMt0 (nL := 3) (ls := [.inr (.inr (.inl 176)), .inl a1, .inr (.inr (.inr ()))]) (by decide +kernel) (by decide +kernel) (by decide +kernel) rfl rfl ?_
  have f0 : jfr w_X12_order h h := jfr_rf _ _
  refine jGo_blk qX12_order_0 ?_
  refine st_cv (na := 0) (st := [.inr (.inr (.inl 176))]) jo_176 rfl rfl rfl (c_X12_ask h) rfl ?_
  rintro _ _ g2 ⟨rfl, ft1, t1, rfl, ht1, zt1⟩ kt1
  replace kt1 : -2147483648 ≤ t1 ∧ t1 ≤ 2147483647 := kt1
  replace ht1 : 0 ≤ t1 ∧ t1 ≤ 1 := ht1
  have fg2 : jfr w_X12_order h g2 := jfr_tr f0 ft1 (fun i k q => by unfold w_X12_ask at q; unfold w_X12_order; omega)
  replace zt1 : ((t1 = 1 ∧ g2 176 62 ≤ 5) ∨ t1 = 0) ∧ ((t1 = 1 ∧ (jUL h).length ≤ 5 ∧ jAkd g2) ∨ (t1 = 0 ∧ 5 < (jUL h).length)) ∧ g2 176 62 = (jUL h).length ∧ jUL g2 = jUL h := zt1
  refine And.intro (fun c3 => ?_) (fun c3 => ?_)
  · replace c3 : ¬ t1 = 0 := c3
    show jGo E l 169 229 229 _ 14 [.inr (.inr (.inl 176)), .inl a1, .inr (.inr (.inr ()))] [] 229 jr0 g2
    refine jGo_blk qX12_order_14 ?_
    refine st_gi jo_176 (fun v4 ev4 b5 => ?_)
    replace ev4 : v4 = g2 176 62 := ev4
    replace b5 := (jbf_12_62 jo_176 _).1 b5
    have e6 : jw32 (v4 - 1) = v4 - 1 := j32e (by omega) (by omega)
    refine st_cs (na := 3) (st := [.inl (jw32 (v4 - 1)), .inl 0, .inl a1]) rfl rfl rfl (c_X12_in a1 0 (jw32 (v4 - 1)) g2) rfl ?_
    rintro _ _ _ ⟨rfl, rfl, t7, rfl, ht7, zt7⟩ kt7
    replace kt7 : -2147483648 ≤ t7 ∧ t7 ≤ 2147483647 := kt7
    replace ht7 : 0 ≤ t7 ∧ t7 ≤ 1 := ht7
    replace zt7 : (t7 = 1 ∧ (0 : Int) ≤ a1 ∧ a1 ≤ (jw32 (v4 - 1))) ∨ (t7 = 0 ∧ ¬ ((0 : Int) ≤ a1 ∧ a1 ≤ (jw32 (v4 - 1)))) := zt7
    refine And.intro (fun c9 => ?_) (fun c9 => ?_)
    · replace c9 : ¬ t7 = 0 := c9
      show jGo E l 169 229 229 _ 31 [.inr (.inr (.inl 176)), .inl a1, .inr (.inr (.inr ()))] [] 229 jr0 g2
      refine jGo_blk qX12_order_31 ?_
      have e10 : g2 176 0 = h 176 0 := ft1 176 0 (by unfold w_X12_ask; omega)
      refine st_cv (na := 0) (st := [.inr (.inr (.inl 176))]) jo_176 rfl rfl rfl (c_X12_findLeast g2 (by omega) (by omega)) rfl ?_
      rintro _ _ g12 ⟨rfl, ft11, t11, rfl, ht11, zt11⟩ kt11
      replace kt11 : -2147483648 ≤ t11 ∧ t11 ≤ 2147483647 := kt11
      have fg12 : jfr w_X12_order h g12 := jfr_tr fg2 ft11 (fun i k q => by unfold w_X12_findLeast at q; unfold w_X12_order; omega)
      replace zt11 : ((g12 176 0 = g2 176 0) ∧ (jAkd g2 → jRLs g2 t11 (fun i => g12 228 i))) ∧ ∀ L k : Int, jlv L k → g12 L k = g2 L k := zt11
      refine st_gr jo_176 jr_176_64 ?_
      refine st_ai jo_228 (show 0 ≤ a1 by omega) (show a1 < ((5 : Nat) : Int) by omega) (fun v13 ev13 b14 => ?_)
      replace ev13 : v13 = g12 228 a1 := ev13
      replace b14 := (jba_228 a1 _).1 b14
      have hc15 : ∀ L k : Int, jlv L k → g12 L k = h L k := fun L k q => by
        have q9 := jlv_o q
        exact (zt11.2 L k q).trans (ft1 L k (by unfold w_X12_ask; omega))
      have hq16 := jRLs_fr (fun i k a b => ft1 i k (by unfold w_X12_ask; omega)) (zt11.1.2 (by rcases zt1.2.1 with q | q; exact q.2.2; omega))
      exact st_r0 (ls := []) ⟨rfl, rfl, fg12, v13, rfl, (by omega), (by exact ⟨⟨by omega, Or.inr ⟨(by have a := zt1.2.1; omega), Or.inr ⟨by omega, by have a := zt1.2.2.1; omega, _, _, hq16, by show _ = g12 228 ((a1.toNat : Nat) : Int); rw [Int.toNat_of_nonneg (by omega)]; omega⟩⟩⟩, hc15⟩)⟩
    · replace c9 : t7 = 0 := by first | exact c9 | exact Int.not_le.mp c9 | exact Int.not_lt.mp c9 | exact Decidable.not_not.mp c9
      have e17 : g2 176 0 = h 176 0 := ft1 176 0 (by unfold w_X12_ask; omega)
      have hc18 : ∀ L k : Int, jlv L k → g2 L k = h L k := fun L k q => by
        have q9 := jlv_o q
        exact (ft1 L k (by unfold w_X12_ask; omega))
      exact st_r0 (ls := []) ⟨rfl, rfl, fg2, (-9), rfl, (by omega), (by exact ⟨⟨by omega, Or.inr ⟨(by have a := zt1.2.1; omega), Or.inl ⟨by have a := zt1.2.2.1; omega, by omega⟩⟩⟩, hc18⟩)⟩
  · replace c3 : t1 = 0 := by first | exact c3 | exact Int.not_le.mp c3 | exact Int.not_lt.mp c3 | exact Decidable.not_not.mp c3
    refine st_cv (na := 1) (st := [.inl (-3), .inr (.inr (.inl 176))]) jo_176 rfl rfl rfl (c_X12_refuse (-3) g2 (by omega)) rfl ?_
    rintro _ _ g20 ⟨rfl, ft19, t19, rfl, ht19, zt19⟩ kt19
    replace kt19 : -2147483648 ≤ t19 ∧ t19 ≤ 2147483647 := kt19
    replace ht19 : -7 ≤ t19 ∧ t19 ≤ -1 := ht19
    have fg20 : jfr w_X12_order h g20 := jfr_tr fg2 ft19 (fun i k q => by unfold w_X12_refuse at q; unfold w_X12_order; omega)
    replace zt19 : t19 = (-3 : Int) := zt19
    have e21 : g20 176 0 = g2 176 0 := ft19 176 0 (by unfold w_X12_refuse; omega)
    have e22 : g2 176 0 = h 176 0 := ft1 176 0 (by unfold w_X12_ask; omega)
    have hc23 : ∀ L k : Int, jlv L k → g20 L k = h L k := fun L k q => by
      have q9 := jlv_o q
      exact ((ft19 L k (by unfold w_X12_refuse; omega)).trans (ft1 L k (by unfold w_X12_ask; omega)))
    exact st_r0 (ls := []) ⟨rfl, rfl, fg20, t19, rfl, (by omega), (by exact ⟨⟨by omega, Or.inl ⟨by omega, (by have a := zt1.2.1; omega)⟩⟩, hc23⟩)⟩
