def w_X12_least (i k : Int) : Prop := (i = 181) ∨ (i = 190) ∨ (192 ≤ i ∧ i ≤ 200) ∨ (i = 202) ∨ (i = 219) ∨ (224 ≤ i ∧ i ≤ 228) ∨ (i = 176 ∧ k = 0) ∨ (i = 176 ∧ 30 ≤ k ∧ k ≤ 32) ∨ (i = 176 ∧ k = 62)
def k_X12_least (h : JH) (v : Option JV) (r' g : JH) : Prop := r' = jr0 ∧ jfr w_X12_least h g ∧ ∃ x : Int, v = some (.inl x) ∧ (True) ∧ (((g 176 0 = h 176 0) ∧ (((x = -3 ∧ 5 < (jUL h).length) ∨ ((jUL h).length ≤ 5 ∧ ∃ o : Nat → Int, jRLs h x o)))) ∧ ∀ L k : Int, jlv L k → g L k = h L k)
set_option maxHeartbeats 4000000 in
theorem c_X12_least {E : JE} {l : Launch} (h : JH) (q0 : h 176 0 ≤ 2000) : jMt E l 167 [.inr (.inr (.inl 176))] 229 jr0 h (k_X12_least h) := by
  refine jMt0 (nL := 1) (ls := [.inr (.inr (.inl 176))]) (by decide +kernel) (by decide +kernel) (by decide +kernel) rfl rfl ?_
  have f0 : jfr w_X12_least h h := jfr_rf _ _
  refine jGo_blk qX12_least_0 ?_
  refine st_cv (na := 0) (st := [.inr (.inr (.inl 176))]) jo_176 rfl rfl rfl (c_X12_ask h) rfl ?_
  rintro _ _ g2 ⟨rfl, ft1, t1, rfl, ht1, zt1⟩ kt1
  replace kt1 : -2147483648 ≤ t1 ∧ t1 ≤ 2147483647 := kt1
  replace ht1 : 0 ≤ t1 ∧ t1 ≤ 1 := ht1
  have fg2 : jfr w_X12_least h g2 := jfr_tr f0 ft1 (fun i k q => by unfold w_X12_ask at q; unfold w_X12_least; omega)
  replace zt1 : ((t1 = 1 ∧ g2 176 62 ≤ 5) ∨ t1 = 0) ∧ ((t1 = 1 ∧ (jUL h).length ≤ 5 ∧ jAkd g2) ∨ (t1 = 0 ∧ 5 < (jUL h).length)) ∧ g2 176 62 = (jUL h).length ∧ jUL g2 = jUL h := zt1
  refine And.intro (fun c3 => ?_) (fun c3 => ?_)
  · replace c3 : t1 = 0 := c3
    show jGo E l 167 229 229 _ 14 [.inr (.inr (.inl 176))] [] 229 jr0 g2
    refine jGo_blk qX12_least_14 ?_
    refine st_cv (na := 1) (st := [.inl (-3), .inr (.inr (.inl 176))]) jo_176 rfl rfl rfl (c_X12_refuse (-3) g2 (by omega)) rfl ?_
    rintro _ _ g5 ⟨rfl, ft4, t4, rfl, ht4, zt4⟩ kt4
    replace kt4 : -2147483648 ≤ t4 ∧ t4 ≤ 2147483647 := kt4
    replace ht4 : -7 ≤ t4 ∧ t4 ≤ -1 := ht4
    have fg5 : jfr w_X12_least h g5 := jfr_tr fg2 ft4 (fun i k q => by unfold w_X12_refuse at q; unfold w_X12_least; omega)
    replace zt4 : t4 = (-3 : Int) := zt4
    show jGo E l 167 229 229 _ 20 [.inr (.inr (.inl 176))] [.inl t4] 229 jr0 g5
    refine jGo_blk qX12_least_20 ?_
    have e6 : g5 176 0 = g2 176 0 := ft4 176 0 (by unfold w_X12_refuse; omega)
    have e7 : g2 176 0 = h 176 0 := ft1 176 0 (by unfold w_X12_ask; omega)
    have hc8 : ∀ L k : Int, jlv L k → g5 L k = h L k := fun L k q => by
      have q9 := jlv_o q
      exact ((ft4 L k (by unfold w_X12_refuse; omega)).trans (ft1 L k (by unfold w_X12_ask; omega)))
    exact st_r0 (ls := []) ⟨rfl, rfl, fg5, t4, rfl, trivial, (by exact ⟨⟨by omega, Or.inl ⟨by omega, (by have a := zt1.2.1; omega)⟩⟩, hc8⟩)⟩
  · replace c3 : ¬ t1 = 0 := by first | exact c3 | exact Int.not_le.mp c3 | exact Int.not_lt.mp c3 | exact Decidable.not_not.mp c3
    have e9 : g2 176 0 = h 176 0 := ft1 176 0 (by unfold w_X12_ask; omega)
    refine st_cv (na := 0) (st := [.inr (.inr (.inl 176))]) jo_176 rfl rfl rfl (c_X12_findLeast g2 (by omega) (by omega)) rfl ?_
    rintro _ _ g11 ⟨rfl, ft10, t10, rfl, ht10, zt10⟩ kt10
    replace kt10 : -2147483648 ≤ t10 ∧ t10 ≤ 2147483647 := kt10
    have fg11 : jfr w_X12_least h g11 := jfr_tr fg2 ft10 (fun i k q => by unfold w_X12_findLeast at q; unfold w_X12_least; omega)
    replace zt10 : ((g11 176 0 = g2 176 0) ∧ (jAkd g2 → jRLs g2 t10 (fun i => g11 228 i))) ∧ ∀ L k : Int, jlv L k → g11 L k = g2 L k := zt10
    show jGo E l 167 229 229 _ 20 [.inr (.inr (.inl 176))] [.inl t10] 229 jr0 g11
    refine jGo_blk qX12_least_20 ?_
    have hc12 : ∀ L k : Int, jlv L k → g11 L k = h L k := fun L k q => by
      have q9 := jlv_o q
      exact (zt10.2 L k q).trans (ft1 L k (by unfold w_X12_ask; omega))
    have hq13 := jRLs_fr (fun i k a b => ft1 i k (by unfold w_X12_ask; omega)) (zt10.1.2 (by rcases zt1.2.1 with q | q; exact q.2.2; omega))
    exact st_r0 (ls := []) ⟨rfl, rfl, fg11, t10, rfl, trivial, (by exact ⟨⟨by omega, Or.inr ⟨(by have a := zt1.2.1; omega), _, hq13⟩⟩, hc12⟩)⟩
