def w_X12_least (i k : Int) : Prop := (i = 181) ∨ (i = 190) ∨ (192 ≤ i ∧ i ≤ 200) ∨ (i = 202) ∨ (i = 219) ∨ (224 ≤ i ∧ i ≤ 228) ∨ (i = 176 ∧ k = 0) ∨ (i = 176 ∧ 30 ≤ k ∧ k ≤ 32) ∨ (i = 176 ∧ k = 62)
theorem ws_X12_ask__X12_least (i k : Int) (q : w_X12_ask i k) : w_X12_least i k := by
  unfold w_X12_ask at q; unfold w_X12_least
  rcases q with q | q
  · exact (Or.inr (Or.inr (Or.inr (Or.inr (Or.inr (Or.inl (by omega)))))))
  · exact (Or.inr (Or.inr (Or.inr (Or.inr (Or.inr (Or.inr (Or.inr (Or.inr (by omega)))))))))
theorem ws_X12_refuse__X12_least (i k : Int) (q : w_X12_refuse i k) : w_X12_least i k := by
  unfold w_X12_refuse at q; unfold w_X12_least
  exact (Or.inr (Or.inr (Or.inr (Or.inr (Or.inl (by omega))))))
theorem ws_X12_findLeast__X12_least (i k : Int) (q : w_X12_findLeast i k) : w_X12_least i k := by
  unfold w_X12_findLeast at q; unfold w_X12_least
  rcases q with q | q | q | q | q | q | q | q
  · exact (Or.inl (by omega))
  · exact (Or.inr (Or.inl (by omega)))
  · exact (Or.inr (Or.inr (Or.inl (by omega))))
  · exact (Or.inr (Or.inr (Or.inr (Or.inl (by omega)))))
  · exact (Or.inr (Or.inr (Or.inr (Or.inr (Or.inr (Or.inl (by omega)))))))
  · exact (Or.inr (Or.inr (Or.inr (Or.inr (Or.inr (Or.inl (by omega)))))))
  · exact (Or.inr (Or.inr (Or.inr (Or.inr (Or.inr (Or.inr (Or.inl (by omega))))))))
  · exact (Or.inr (Or.inr (Or.inr (Or.inr (Or.inr (Or.inr (Or.inr (Or.inl (by omega)))))))))
def k_X12_least (h : JH) (v : Option JV) (r' g : JH) : Prop := r' = jr0 ∧ jfr w_X12_least h g ∧ ∃ x : Int, v = some (.inl x) ∧ (True) ∧ (((g 176 0 = h 176 0) ∧ (((x = -3 ∧ 5 < (jUL h).length) ∨ ((jUL h).length ≤ 5 ∧ ∃ o : Nat → Int, jRLs h x o)))) ∧ ∀ L k : Int, jlv L k → g L k = h L k)
set_option maxHeartbeats 4000000 in
theorem c_X12_least {E : JE} {l : Launch} (h : JH) (q0 : h 176 0 ≤ 2000) : jMt E l 167 [.inr (.inr (.inl 176))] 229 jr0 h (k_X12_least h) := by
  refine jMt0 (nL := 1) (ls := [.inr (.inr (.inl 176))]) (by decide +kernel) (by decide +kernel) (by decide +kernel) rfl rfl ?_
  have f0 : jfr w_X12_least h h := jfr_rf _ _
  refine jGo_blk qX12_least_0 ?_
  refine st_cv (na := 0) (st := [.inr (.inr (.inl 176))]) jo_176 rfl rfl rfl (c_X12_ask h) rfl ?_
  rintro _ _ g2 ⟨rfl, ft1, t1, rfl, ht1, zt1⟩ kt1
  replace kt1 : -2147483648 ≤ t1 ∧ t1 ≤ 2147483647 := kt1
  replace ht1 : 0 ≤ t1 ∧ t1 ≤ 1 := ht1
  have fg2 : jfr w_X12_least h g2 := jfr_tr f0 ft1 ws_X12_ask__X12_least
  replace zt1 : ((t1 = 1 ∧ g2 176 62 ≤ 5) ∨ t1 = 0) ∧ ((t1 = 1 ∧ (jUL h).length ≤ 5 ∧ jAkd g2) ∨ (t1 = 0 ∧ 5 < (jUL h).length)) ∧ g2 176 62 = (jUL h).length ∧ jUL g2 = jUL h := zt1
  refine And.intro (fun c3 => ?_) (fun c3 => ?_)
  · replace c3 : t1 = 0 := c3
    show jGo E l 167 229 229 _ 14 [.inr (.inr (.inl 176))] [] 229 jr0 g2
    refine jGo_blk qX12_least_14 ?_
    refine st_cv (na := 1) (st := [.inl (-3), .inr (.inr (.inl 176))]) jo_176 rfl rfl rfl (c_X12_refuse (-3) g2 (by omega)) rfl ?_
    rintro _ _ g5 ⟨rfl, ft4, t4, rfl, ht4, zt4⟩ kt4
    replace kt4 : -2147483648 ≤ t4 ∧ t4 ≤ 2147483647 := kt4
    replace ht4 : -7 ≤ t4 ∧ t4 ≤ -1 := ht4
    have fg5 : jfr w_X12_least h g5 := jfr_tr fg2 ft4 ws_X12_refuse__X12_least
    replace zt4 : t4 = (-3 : Int) := zt4
    show jGo E l 167 229 229 _ 20 [.inr (.inr (.inl 176))] [.inl t4] 229 jr0 g5
    refine jGo_blk qX12_least_20 ?_
    have e6 : g5 176 0 = g2 176 0 := ft4 176 0 (by unfold w_X12_refuse; omega)
    have e7 : g2 176 0 = h 176 0 := ft1 176 0 (by unfold w_X12_ask; omega)
    have hc8 : ∀ L k : Int, jlv L k → g5 L k = h L k := fun L k q => by
      have q9 := jlv_o q
      exact ((ft4 L k (by unfold w_X12_refuse; omega)).trans (ft1 L k (by unfold w_X12_ask; omega)))
    exact st_r0 (ls := []) ⟨rfl, rfl, fg5, t4, rfl, trivial, (by exact ⟨⟨by omega, Or.inl ⟨by omega, (by have a := zt1.2.1; omega)⟩⟩, hc8⟩)⟩
  · replace c3 : ¬ t1 = 0 := by first | exact c3 | exact Int.not_le.mp c3 | exact Int.not_lt.mp c3 | exact Decidable.not_not.mp c3
    have e9 : g2 176 0 = h 176 0 := ft1 176 0 (by unfold w_X12_ask; omega)
    refine st_cv (na := 0) (st := [.inr (.inr (.inl 176))]) jo_176 rfl rfl rfl (c_X12_findLeast g2 (by omega) (by omega)) rfl ?_
    rintro _ _ g11 ⟨rfl, ft10, t10, rfl, ht10, zt10⟩ kt10
    replace kt10 : -2147483648 ≤ t10 ∧ t10 ≤ 2147483647 := kt10
    have fg11 : jfr w_X12_least h g11 := jfr_tr fg2 ft10 ws_X12_findLeast__X12_least
    replace zt10 : ((g11 176 0 = g2 176 0) ∧ (jAkd g2 → jRLs g2 t10 (fun i => g11 228 i))) ∧ ∀ L k : Int, jlv L k → g11 L k = g2 L k := zt10
    show jGo E l 167 229 229 _ 20 [.inr (.inr (.inl 176))] [.inl t10] 229 jr0 g11
    refine jGo_blk qX12_least_20 ?_
    have hc12 : ∀ L k : Int, jlv L k → g11 L k = h L k := fun L k q => by
      have q9 := jlv_o q
      exact (zt10.2 L k q).trans (ft1 L k (by unfold w_X12_ask; omega))
    have hq13 := jRLs_fr (fun i k a b => ft1 i k (by unfold w_X12_ask; omega)) (zt10.1.2 (by rcases zt1.2.1 with q | q; exact q.2.2; omega))
    exact st_r0 (ls := []) ⟨rfl, rfl, fg11, t10, rfl, trivial, (by exact ⟨⟨by omega, Or.inr ⟨(by have a := zt1.2.1; omega), _, hq13⟩⟩, hc12⟩)⟩

def w_X11_order (i k : Int) : Prop := (i = 1) ∨ (i = 15) ∨ (i = 112) ∨ (114 ≤ i ∧ i ≤ 118) ∨ (120 ≤ i ∧ i ≤ 121) ∨ (124 ≤ i ∧ i ≤ 173) ∨ (i = 175) ∨ (i = 11 ∧ k = 5) ∨ (i = 111 ∧ k = 0) ∨ (i = 111 ∧ 2 ≤ k ∧ k ≤ 3) ∨ (i = 111 ∧ k = 9) ∨ (i = 111 ∧ k = 11) ∨ (i = 119 ∧ 6 ≤ k ∧ k ≤ 10)
theorem ws_X11_findOrder__X11_order (i k : Int) (q : w_X11_findOrder i k) : w_X11_order i k := by
  unfold w_X11_findOrder at q; unfold w_X11_order
  rcases q with q | q | q | q | q | q | q | q | q | q | q | q
  · exact (Or.inr (Or.inl (by omega)))
  · exact (Or.inr (Or.inr (Or.inl (by omega))))
  · exact (Or.inr (Or.inr (Or.inr (Or.inl (by omega)))))
  · exact (Or.inr (Or.inr (Or.inr (Or.inr (Or.inl (by omega))))))
  · exact (Or.inr (Or.inr (Or.inr (Or.inr (Or.inr (Or.inl (by omega)))))))
  · exact (Or.inr (Or.inr (Or.inr (Or.inr (Or.inr (Or.inr (Or.inl (by omega))))))))
  · exact (Or.inr (Or.inr (Or.inr (Or.inr (Or.inr (Or.inr (Or.inr (Or.inl (by omega)))))))))
  · exact (Or.inr (Or.inr (Or.inr (Or.inr (Or.inr (Or.inr (Or.inr (Or.inr (Or.inl (by omega))))))))))
  · exact (Or.inr (Or.inr (Or.inr (Or.inr (Or.inr (Or.inr (Or.inr (Or.inr (Or.inr (Or.inl (by omega)))))))))))
  · exact (Or.inr (Or.inr (Or.inr (Or.inr (Or.inr (Or.inr (Or.inr (Or.inr (Or.inr (Or.inr (Or.inl (by omega))))))))))))
  · exact (Or.inr (Or.inr (Or.inr (Or.inr (Or.inr (Or.inr (Or.inr (Or.inr (Or.inr (Or.inr (Or.inr (Or.inl (by omega)))))))))))))
  · exact (Or.inr (Or.inr (Or.inr (Or.inr (Or.inr (Or.inr (Or.inr (Or.inr (Or.inr (Or.inr (Or.inr (Or.inr (by omega)))))))))))))
theorem ws_X11_refused__X11_order (i k : Int) (q : w_X11_refused i k) : w_X11_order i k := by
  unfold w_X11_refused at q; unfold w_X11_order
  exact (Or.inl (by omega))
def k_X11_order (a1 : Int) (h : JH) (v : Option JV) (r' g : JH) : Prop := r' = jr0 ∧ jfr w_X11_order h g ∧ ∃ x : Int, v = some (.inl x) ∧ (-9 ≤ x ∧ x ≤ 15) ∧ (((x = -3 ∧ 5 < (jull (jcS h) (h 29 4).toNat).length) ∨ ((jull (jcS h) (h 29 4).toNat).length ≤ 5 ∧ ¬ g 111 11 = 0 ∧ ¬ g 111 9 = 0 ∧ ((0 ≤ a1 ∧ a1 < g 111 2 ∧ x = g 112 a1) ∨ (¬ (0 ≤ a1 ∧ a1 < g 111 2) ∧ x = -9)))) ∧ jAP h g)
set_option maxHeartbeats 4000000 in
theorem c_X11_order {E : JE} {l : Launch} (a1 : Int) (h : JH) : jMt E l 168 [.inr (.inr (.inl 0)), .inl a1] 229 jr0 h (k_X11_order a1 h) := by
  refine jMt0 (nL := 2) (ls := [.inr (.inr (.inl 0)), .inl a1]) (by decide +kernel) (by decide +kernel) (by decide +kernel) rfl rfl ?_
  have f0 : jfr w_X11_order h h := jfr_rf _ _
  refine jGo_blk qX11_order_0 ?_
  refine st_cv (na := 0) (st := [.inr (.inr (.inl 0))]) jo_0 rfl rfl rfl (c_X11_findOrder h) rfl ?_
  rintro _ _ g2 ⟨rfl, ft1, t1, rfl, ht1, zt1⟩ kt1
  replace kt1 : -2147483648 ≤ t1 ∧ t1 ≤ 2147483647 := kt1
  replace ht1 : 0 ≤ t1 ∧ t1 ≤ 1 := ht1
  have fg2 : jfr w_X11_order h g2 := jfr_tr f0 ft1 ws_X11_findOrder__X11_order
  replace zt1 : ((t1 = 0 ∧ 5 < (jull (jcS h) (h 29 4).toNat).length) ∨ (t1 = 1 ∧ (jull (jcS h) (h 29 4).toNat).length ≤ 5 ∧ ¬ g2 111 11 = 0 ∧ ¬ g2 111 9 = 0)) ∧ jAP h g2 := zt1
  refine And.intro (fun c3 => ?_) (fun c3 => ?_)
  · replace c3 : ¬ t1 = 0 := c3
    show jGo E l 168 229 229 _ 14 [.inr (.inr (.inl 0)), .inl a1] [] 229 jr0 g2
    refine jGo_blk qX11_order_14 ?_
    refine st_gr jo_0 jr_0_11 ?_
    refine st_gi jo_111 (fun v4 ev4 b5 => ?_)
    replace ev4 : v4 = g2 111 2 := ev4
    replace b5 := (jbf_7_2 jo_111 _).1 b5
    refine st_cs (na := 2) (st := [.inl v4, .inl a1]) rfl rfl rfl (c_X11_within a1 v4 g2) rfl ?_
    rintro _ _ _ ⟨rfl, rfl, t6, rfl, ht6, zt6⟩ kt6
    replace kt6 : -2147483648 ≤ t6 ∧ t6 ≤ 2147483647 := kt6
    replace ht6 : 0 ≤ t6 ∧ t6 ≤ 1 := ht6
    replace zt6 : (t6 = 1 ∧ 0 ≤ a1 ∧ a1 < v4) ∨ (t6 = 0 ∧ ¬ (0 ≤ a1 ∧ a1 < v4)) := zt6
    refine And.intro (fun c8 => ?_) (fun c8 => ?_)
    · replace c8 : t6 = 0 := c8
      show jGo E l 168 229 229 _ 40 [.inr (.inr (.inl 0)), .inl a1] [] 229 jr0 g2
      refine jGo_blk qX11_order_40 ?_
      show jGo E l 168 229 229 _ 42 [.inr (.inr (.inl 0)), .inl a1] [.inl (-9)] 229 jr0 g2
      refine jGo_blk qX11_order_42 ?_
      exact st_r0 (ls := []) ⟨rfl, rfl, fg2, (-9), rfl, (by omega), (by refine ⟨Or.inr ⟨by omega, by omega, by omega, by omega⟩, zt1.2⟩)⟩
    · replace c8 : ¬ t6 = 0 := by first | exact c8 | exact Int.not_le.mp c8 | exact Int.not_lt.mp c8 | exact Decidable.not_not.mp c8
      refine st_gr jo_0 jr_0_11 ?_
      refine st_gr jo_111 jr_111_1 ?_
      refine st_ai jo_112 (show 0 ≤ a1 by omega) (show a1 < ((5 : Nat) : Int) by omega) (fun v9 ev9 b10 => ?_)
      replace ev9 : v9 = g2 112 a1 := ev9
      replace b10 := (jba_112 a1 _).1 b10
      show jGo E l 168 229 229 _ 42 [.inr (.inr (.inl 0)), .inl a1] [.inl v9] 229 jr0 g2
      refine jGo_blk qX11_order_42 ?_
      exact st_r0 (ls := []) ⟨rfl, rfl, fg2, v9, rfl, (by omega), (by refine ⟨Or.inr ⟨by omega, by omega, by omega, by omega⟩, zt1.2⟩)⟩
  · replace c3 : t1 = 0 := by first | exact c3 | exact Int.not_le.mp c3 | exact Int.not_lt.mp c3 | exact Decidable.not_not.mp c3
    refine st_cv (na := 1) (st := [.inl (-3), .inr (.inr (.inl 0))]) jo_0 rfl rfl rfl (c_X11_refused (-3) g2 (by omega)) rfl ?_
    rintro _ _ g12 ⟨rfl, ft11, t11, rfl, ht11, zt11⟩ kt11
    replace kt11 : -2147483648 ≤ t11 ∧ t11 ≤ 2147483647 := kt11
    replace ht11 : -7 ≤ t11 ∧ t11 ≤ -1 := ht11
    have fg12 : jfr w_X11_order h g12 := jfr_tr fg2 ft11 ws_X11_refused__X11_order
    replace zt11 : t11 = (-3 : Int) := zt11
    exact st_r0 (ls := []) ⟨rfl, rfl, fg12, t11, rfl, (by omega), (by exact ⟨Or.inl ⟨by omega, by omega⟩, fun hm S q => jHH_fr (fun i k w => by unfold jwh3 at w; exact (ft11 i k (by unfold w_X11_refused; omega))) (zt1.2 hm S q)⟩)⟩

def w_X12_order (i k : Int) : Prop := (i = 181) ∨ (i = 190) ∨ (192 ≤ i ∧ i ≤ 200) ∨ (i = 202) ∨ (i = 219) ∨ (224 ≤ i ∧ i ≤ 228) ∨ (i = 176 ∧ k = 0) ∨ (i = 176 ∧ 30 ≤ k ∧ k ≤ 32) ∨ (i = 176 ∧ k = 62)
theorem ws_X12_ask__X12_order (i k : Int) (q : w_X12_ask i k) : w_X12_order i k := by
  unfold w_X12_ask at q; unfold w_X12_order
  rcases q with q | q
  · exact (Or.inr (Or.inr (Or.inr (Or.inr (Or.inr (Or.inl (by omega)))))))
  · exact (Or.inr (Or.inr (Or.inr (Or.inr (Or.inr (Or.inr (Or.inr (Or.inr (by omega)))))))))
theorem ws_X12_findLeast__X12_order (i k : Int) (q : w_X12_findLeast i k) : w_X12_order i k := by
  unfold w_X12_findLeast at q; unfold w_X12_order
  rcases q with q | q | q | q | q | q | q | q
  · exact (Or.inl (by omega))
  · exact (Or.inr (Or.inl (by omega)))
  · exact (Or.inr (Or.inr (Or.inl (by omega))))
  · exact (Or.inr (Or.inr (Or.inr (Or.inl (by omega)))))
  · exact (Or.inr (Or.inr (Or.inr (Or.inr (Or.inr (Or.inl (by omega)))))))
  · exact (Or.inr (Or.inr (Or.inr (Or.inr (Or.inr (Or.inl (by omega)))))))
  · exact (Or.inr (Or.inr (Or.inr (Or.inr (Or.inr (Or.inr (Or.inl (by omega))))))))
  · exact (Or.inr (Or.inr (Or.inr (Or.inr (Or.inr (Or.inr (Or.inr (Or.inl (by omega)))))))))
theorem ws_X12_refuse__X12_order (i k : Int) (q : w_X12_refuse i k) : w_X12_order i k := by
  unfold w_X12_refuse at q; unfold w_X12_order
  exact (Or.inr (Or.inr (Or.inr (Or.inr (Or.inl (by omega))))))
def k_X12_order (a1 : Int) (h : JH) (v : Option JV) (r' g : JH) : Prop := r' = jr0 ∧ jfr w_X12_order h g ∧ ∃ x : Int, v = some (.inl x) ∧ (-9 ≤ x ∧ x ≤ 15) ∧ (((g 176 0 = h 176 0) ∧ (((x = -3 ∧ 5 < (jUL h).length) ∨ ((jUL h).length ≤ 5 ∧ ((¬ (0 ≤ a1 ∧ a1 < ((jUL h).length : Int)) ∧ x = -9) ∨ (0 ≤ a1 ∧ a1 < ((jUL h).length : Int) ∧ ∃ (t : Int) (o : Nat → Int), jRLs h t o ∧ x = o a1.toNat)))))) ∧ ∀ L k : Int, jlv L k → g L k = h L k)
set_option maxHeartbeats 4000000 in
theorem c_X12_order {E : JE} {l : Launch} (a1 : Int) (h : JH) (q0 : h 176 0 ≤ 2000) : jMt E l 169 [.inr (.inr (.inl 176)), .inl a1] 229 jr0 h (k_X12_order a1 h) := by
  refine jMt0 (nL := 3) (ls := [.inr (.inr (.inl 176)), .inl a1, .inr (.inr (.inr ()))]) (by decide +kernel) (by decide +kernel) (by decide +kernel) rfl rfl ?_
  have f0 : jfr w_X12_order h h := jfr_rf _ _
  refine jGo_blk qX12_order_0 ?_
  refine st_cv (na := 0) (st := [.inr (.inr (.inl 176))]) jo_176 rfl rfl rfl (c_X12_ask h) rfl ?_
  rintro _ _ g2 ⟨rfl, ft1, t1, rfl, ht1, zt1⟩ kt1
  replace kt1 : -2147483648 ≤ t1 ∧ t1 ≤ 2147483647 := kt1
  replace ht1 : 0 ≤ t1 ∧ t1 ≤ 1 := ht1
  have fg2 : jfr w_X12_order h g2 := jfr_tr f0 ft1 ws_X12_ask__X12_order
  replace zt1 : ((t1 = 1 ∧ g2 176 62 ≤ 5) ∨ t1 = 0) ∧ ((t1 = 1 ∧ (jUL h).length ≤ 5 ∧ jAkd g2) ∨ (t1 = 0 ∧ 5 < (jUL h).length)) ∧ g2 176 62 = (jUL h).length ∧ jUL g2 = jUL h := zt1
  refine And.intro (fun c3 => ?_) (fun c3 => ?_)
  · replace c3 : ¬ t1 = 0 := c3
    show jGo E l 169 229 229 _ 14 [.inr (.inr (.inl 176)), .inl a1, .inr (.inr (.inr ()))] [] 229 jr0 g2
    refine jGo_blk qX12_order_14 ?_
    refine st_gi jo_176 (fun v4 ev4 b5 => ?_)
    replace ev4 : v4 = g2 176 62 := ev4
    replace b5 := (jbf_12_62 jo_176 _).1 b5
    have e6 : jw32 (v4 - 1) = v4 - 1 := jzj32 (by omega)
    refine st_cs (na := 3) (st := [.inl (jw32 (v4 - 1)), .inl 0, .inl a1]) rfl rfl rfl (c_X12_in a1 0 (jw32 (v4 - 1)) g2) rfl ?_
    rintro _ _ _ ⟨rfl, rfl, t7, rfl, ht7, zt7⟩ kt7
    replace kt7 : -2147483648 ≤ t7 ∧ t7 ≤ 2147483647 := kt7
    replace ht7 : 0 ≤ t7 ∧ t7 ≤ 1 := ht7
    replace zt7 : (t7 = 1 ∧ (0 : Int) ≤ a1 ∧ a1 ≤ (jw32 (v4 - 1))) ∨ (t7 = 0 ∧ ¬ ((0 : Int) ≤ a1 ∧ a1 ≤ (jw32 (v4 - 1)))) := zt7
    refine And.intro (fun c9 => ?_) (fun c9 => ?_)
    · replace c9 : ¬ t7 = 0 := c9
      show jGo E l 169 229 229 _ 31 [.inr (.inr (.inl 176)), .inl a1, .inr (.inr (.inr ()))] [] 229 jr0 g2
      refine jGo_blk qX12_order_31 ?_
      have e10 : g2 176 0 = h 176 0 := ft1 176 0 (by unfold w_X12_ask; omega)
      refine st_cv (na := 0) (st := [.inr (.inr (.inl 176))]) jo_176 rfl rfl rfl (c_X12_findLeast g2 (by omega) (by omega)) rfl ?_
      rintro _ _ g12 ⟨rfl, ft11, t11, rfl, ht11, zt11⟩ kt11
      replace kt11 : -2147483648 ≤ t11 ∧ t11 ≤ 2147483647 := kt11
      have fg12 : jfr w_X12_order h g12 := jfr_tr fg2 ft11 ws_X12_findLeast__X12_order
      replace zt11 : ((g12 176 0 = g2 176 0) ∧ (jAkd g2 → jRLs g2 t11 (fun i => g12 228 i))) ∧ ∀ L k : Int, jlv L k → g12 L k = g2 L k := zt11
      refine st_gr jo_176 jr_176_64 ?_
      refine st_ai jo_228 (show 0 ≤ a1 by omega) (show a1 < ((5 : Nat) : Int) by omega) (fun v13 ev13 b14 => ?_)
      replace ev13 : v13 = g12 228 a1 := ev13
      replace b14 := (jba_228 a1 _).1 b14
      have hc15 : ∀ L k : Int, jlv L k → g12 L k = h L k := fun L k q => by
        have q9 := jlv_o q
        exact (zt11.2 L k q).trans (ft1 L k (by unfold w_X12_ask; omega))
      have hq16 := jRLs_fr (fun i k a b => ft1 i k (by unfold w_X12_ask; omega)) (zt11.1.2 (by rcases zt1.2.1 with q | q; exact q.2.2; omega))
      exact st_r0 (ls := []) ⟨rfl, rfl, fg12, v13, rfl, (by omega), (by exact ⟨⟨by omega, Or.inr ⟨(by have a := zt1.2.1; omega), Or.inr ⟨by omega, by have a := zt1.2.2.1; omega, _, _, hq16, by show _ = g12 228 ((a1.toNat : Nat) : Int); rw [Int.toNat_of_nonneg (by omega)]; omega⟩⟩⟩, hc15⟩)⟩
    · replace c9 : t7 = 0 := by first | exact c9 | exact Int.not_le.mp c9 | exact Int.not_lt.mp c9 | exact Decidable.not_not.mp c9
      have e17 : g2 176 0 = h 176 0 := ft1 176 0 (by unfold w_X12_ask; omega)
      have hc18 : ∀ L k : Int, jlv L k → g2 L k = h L k := fun L k q => by
        have q9 := jlv_o q
        exact (ft1 L k (by unfold w_X12_ask; omega))
      exact st_r0 (ls := []) ⟨rfl, rfl, fg2, (-9), rfl, (by omega), (by exact ⟨⟨by omega, Or.inr ⟨(by have a := zt1.2.1; omega), Or.inl ⟨by have a := zt1.2.2.1; omega, by omega⟩⟩⟩, hc18⟩)⟩
  · replace c3 : t1 = 0 := by first | exact c3 | exact Int.not_le.mp c3 | exact Int.not_lt.mp c3 | exact Decidable.not_not.mp c3
    refine st_cv (na := 1) (st := [.inl (-3), .inr (.inr (.inl 176))]) jo_176 rfl rfl rfl (c_X12_refuse (-3) g2 (by omega)) rfl ?_
    rintro _ _ g20 ⟨rfl, ft19, t19, rfl, ht19, zt19⟩ kt19
    replace kt19 : -2147483648 ≤ t19 ∧ t19 ≤ 2147483647 := kt19
    replace ht19 : -7 ≤ t19 ∧ t19 ≤ -1 := ht19
    have fg20 : jfr w_X12_order h g20 := jfr_tr fg2 ft19 ws_X12_refuse__X12_order
    replace zt19 : t19 = (-3 : Int) := zt19
    have e21 : g20 176 0 = g2 176 0 := ft19 176 0 (by unfold w_X12_refuse; omega)
    have e22 : g2 176 0 = h 176 0 := ft1 176 0 (by unfold w_X12_ask; omega)
    have hc23 : ∀ L k : Int, jlv L k → g20 L k = h L k := fun L k q => by
      have q9 := jlv_o q
      exact ((ft19 L k (by unfold w_X12_refuse; omega)).trans (ft1 L k (by unfold w_X12_ask; omega)))
    exact st_r0 (ls := []) ⟨rfl, rfl, fg20, t19, rfl, (by omega), (by exact ⟨⟨by omega, Or.inl ⟨by omega, (by have a := zt1.2.1; omega)⟩⟩, hc23⟩)⟩

def w_X11_hullOf (i k : Int) : Prop := (i = 1)
theorem ws_X11_refused__X11_hullOf (i k : Int) (q : w_X11_refused i k) : w_X11_hullOf i k := by
  unfold w_X11_refused at q; unfold w_X11_hullOf
  exact (by omega)
def k_X11_hullOf (a1 : Int) (a2 : Int) (h : JH) (v : Option JV) (r' g : JH) : Prop := r' = jr0 ∧ jfr w_X11_hullOf h g ∧ ∃ x : Int, v = some (.inl x) ∧ (True) ∧ (P_X11_hullOf a1 a2 x h)
set_option maxHeartbeats 4000000 in
theorem c_X11_hullOf {E : JE} {l : Launch} (a1 : Int) (a2 : Int) (h : JH) : jMt E l 170 [.inr (.inr (.inl 0)), .inl a1, .inl a2] 229 jr0 h (k_X11_hullOf a1 a2 h) := by
  refine jMt0 (nL := 4) (ls := [.inr (.inr (.inl 0)), .inl a1, .inl a2, .inr (.inr (.inr ()))]) (by decide +kernel) (by decide +kernel) (by decide +kernel) rfl rfl ?_
  have f0 : jfr w_X11_hullOf h h := jfr_rf _ _
  refine jGo_blk qX11_hullOf_0 ?_
  refine st_cv (na := 1) (st := [.inl a1, .inr (.inr (.inl 0))]) jo_0 rfl rfl rfl (c_X11_isHull a1 h) rfl ?_
  rintro _ _ _ ⟨rfl, rfl, t1, rfl, ht1, zt1⟩ kt1
  replace kt1 : -2147483648 ≤ t1 ∧ t1 ≤ 2147483647 := kt1
  replace ht1 : 0 ≤ t1 ∧ t1 ≤ 1 := ht1
  replace zt1 : (t1 = 1 ∧ 0 ≤ a1 ∧ a1 < h 29 4 ∧ h 29 4 ≤ 16) ∨ (t1 = 0 ∧ ¬ (0 ≤ a1 ∧ a1 < h 29 4)) := zt1
  refine And.intro (fun c3 => ?_) (fun c3 => ?_)
  · replace c3 : ¬ t1 = 0 := c3
    show jGo E l 170 229 229 _ 14 [.inr (.inr (.inl 0)), .inl a1, .inl a2, .inr (.inr (.inr ()))] [] 229 jr0 h
    refine jGo_blk qX11_hullOf_14 ?_
    refine st_gr jo_0 jr_0_5 ?_
    refine st_gr jo_29 jr_29_3 ?_
    refine st_ar jo_33 (by decide) (show 0 ≤ a1 by omega) (show a1 < ((16 : Nat) : Int) by omega) (fun u4 eu4 => ?_)
    replace eu4 : u4 = jr0 33 a1 := eu4
    have qu4 : u4 = 36 + 3 * a1 := eu4.trans (jhul_33 a1 (by omega) (by omega)).1
    have hu4 : jHl u4 := by rw [eu4]; exact (jhul_33 a1 (by omega) (by omega)).2
    refine And.intro (show u4 ≠ -1 by omega) ?_
    refine And.intro (fun c5 => ?_) (And.intro (fun c5 => ?_) (And.intro (fun c5 => ?_) (And.intro (fun c5 => ?_) (And.intro (fun c5 => ?_) (And.intro (fun c5 => ?_) (And.intro (fun c5 => ?_) (And.intro (fun c5 => ?_) (And.intro (fun c5 => ?_) (And.intro (fun c5 => ?_) (trivial))))))))))
    · replace c5 : a2 < 0 ∨ 8 < a2 := c5
      show jGo E l 170 229 229 _ 129 [.inr (.inr (.inl 0)), .inl a1, .inl a2, .inr (.inr (.inl u4))] [] 229 jr0 h
      refine jGo_blk qX11_hullOf_129 ?_
      refine st_cv (na := 1) (st := [.inl (-2), .inr (.inr (.inl 0))]) jo_0 rfl rfl rfl (c_X11_refused (-2) h (by omega)) rfl ?_
      rintro _ _ g7 ⟨rfl, ft6, t6, rfl, ht6, zt6⟩ kt6
      replace kt6 : -2147483648 ≤ t6 ∧ t6 ≤ 2147483647 := kt6
      replace ht6 : -7 ≤ t6 ∧ t6 ≤ -1 := ht6
      have fg7 : jfr w_X11_hullOf h g7 := jfr_tr f0 ft6 ws_X11_refused__X11_hullOf
      replace zt6 : t6 = (-2 : Int) := zt6
      exact st_r0 (ls := []) ⟨rfl, rfl, fg7, t6, rfl, trivial, (by unfold P_X11_hullOf; first | exact Or.inl (by omega) | (refine Or.inr ⟨by omega, ?_⟩; first | exact Or.inl (by omega) | exact Or.inr (Or.inl (by omega)) | exact Or.inr (Or.inr (Or.inl (by omega))) | exact Or.inr (Or.inr (Or.inr (Or.inl (by omega)))) | exact Or.inr (Or.inr (Or.inr (Or.inr (Or.inl (by omega))))) | exact Or.inr (Or.inr (Or.inr (Or.inr (Or.inr (Or.inl (by omega)))))) | exact Or.inr (Or.inr (Or.inr (Or.inr (Or.inr (Or.inr (Or.inl (by omega))))))) | exact Or.inr (Or.inr (Or.inr (Or.inr (Or.inr (Or.inr (Or.inr (Or.inl (by omega)))))))) | exact Or.inr (Or.inr (Or.inr (Or.inr (Or.inr (Or.inr (Or.inr (Or.inr (Or.inl (by omega))))))))) | exact Or.inr (Or.inr (Or.inr (Or.inr (Or.inr (Or.inr (Or.inr (Or.inr (Or.inr (Or.inl (by omega)))))))))) | exact Or.inr (Or.inr (Or.inr (Or.inr (Or.inr (Or.inr (Or.inr (Or.inr (Or.inr (Or.inr (by omega))))))))))))⟩
    · replace c5 : a2 = 0 := c5
      show jGo E l 170 229 229 _ 76 [.inr (.inr (.inl 0)), .inl a1, .inl a2, .inr (.inr (.inl u4))] [] 229 jr0 h
      refine jGo_blk qX11_hullOf_76 ?_
      refine st_gi hu4.1 (fun v8 ev8 b9 => ?_)
      replace ev8 : v8 = h u4 3 := ev8
      replace b9 := (jbf_4_3 hu4.1 _).1 b9
      have e10 : h u4 3 = h (36 + 3 * a1) 3 := by rw [qu4]
      exact st_r0 (ls := []) ⟨rfl, rfl, f0, v8, rfl, trivial, (by unfold P_X11_hullOf; first | exact Or.inl (by omega) | (refine Or.inr ⟨by omega, ?_⟩; first | exact Or.inl (by omega) | exact Or.inr (Or.inl (by omega)) | exact Or.inr (Or.inr (Or.inl (by omega))) | exact Or.inr (Or.inr (Or.inr (Or.inl (by omega)))) | exact Or.inr (Or.inr (Or.inr (Or.inr (Or.inl (by omega))))) | exact Or.inr (Or.inr (Or.inr (Or.inr (Or.inr (Or.inl (by omega)))))) | exact Or.inr (Or.inr (Or.inr (Or.inr (Or.inr (Or.inr (Or.inl (by omega))))))) | exact Or.inr (Or.inr (Or.inr (Or.inr (Or.inr (Or.inr (Or.inr (Or.inl (by omega)))))))) | exact Or.inr (Or.inr (Or.inr (Or.inr (Or.inr (Or.inr (Or.inr (Or.inr (Or.inl (by omega))))))))) | exact Or.inr (Or.inr (Or.inr (Or.inr (Or.inr (Or.inr (Or.inr (Or.inr (Or.inr (Or.inl (by omega)))))))))) | exact Or.inr (Or.inr (Or.inr (Or.inr (Or.inr (Or.inr (Or.inr (Or.inr (Or.inr (Or.inr (by omega))))))))))))⟩
    · replace c5 : a2 = 1 := c5
      show jGo E l 170 229 229 _ 81 [.inr (.inr (.inl 0)), .inl a1, .inl a2, .inr (.inr (.inl u4))] [] 229 jr0 h
      refine jGo_blk qX11_hullOf_81 ?_
      refine st_gi hu4.1 (fun v11 ev11 b12 => ?_)
      replace ev11 : v11 = h u4 4 := ev11
      replace b12 := (jbf_4_4 hu4.1 _).1 b12
      have e13 : h u4 4 = h (36 + 3 * a1) 4 := by rw [qu4]
      exact st_r0 (ls := []) ⟨rfl, rfl, f0, v11, rfl, trivial, (by unfold P_X11_hullOf; first | exact Or.inl (by omega) | (refine Or.inr ⟨by omega, ?_⟩; first | exact Or.inl (by omega) | exact Or.inr (Or.inl (by omega)) | exact Or.inr (Or.inr (Or.inl (by omega))) | exact Or.inr (Or.inr (Or.inr (Or.inl (by omega)))) | exact Or.inr (Or.inr (Or.inr (Or.inr (Or.inl (by omega))))) | exact Or.inr (Or.inr (Or.inr (Or.inr (Or.inr (Or.inl (by omega)))))) | exact Or.inr (Or.inr (Or.inr (Or.inr (Or.inr (Or.inr (Or.inl (by omega))))))) | exact Or.inr (Or.inr (Or.inr (Or.inr (Or.inr (Or.inr (Or.inr (Or.inl (by omega)))))))) | exact Or.inr (Or.inr (Or.inr (Or.inr (Or.inr (Or.inr (Or.inr (Or.inr (Or.inl (by omega))))))))) | exact Or.inr (Or.inr (Or.inr (Or.inr (Or.inr (Or.inr (Or.inr (Or.inr (Or.inr (Or.inl (by omega)))))))))) | exact Or.inr (Or.inr (Or.inr (Or.inr (Or.inr (Or.inr (Or.inr (Or.inr (Or.inr (Or.inr (by omega))))))))))))⟩
    · replace c5 : a2 = 2 := c5
      show jGo E l 170 229 229 _ 86 [.inr (.inr (.inl 0)), .inl a1, .inl a2, .inr (.inr (.inl u4))] [] 229 jr0 h
      refine jGo_blk qX11_hullOf_86 ?_
      refine st_gi hu4.1 (fun v14 ev14 b15 => ?_)
      replace ev14 : v14 = h u4 6 := ev14
      replace b15 := (jbf_4_6 hu4.1 _).1 b15
      have e16 : h u4 6 = h (36 + 3 * a1) 6 := by rw [qu4]
      exact st_r0 (ls := []) ⟨rfl, rfl, f0, v14, rfl, trivial, (by unfold P_X11_hullOf; first | exact Or.inl (by omega) | (refine Or.inr ⟨by omega, ?_⟩; first | exact Or.inl (by omega) | exact Or.inr (Or.inl (by omega)) | exact Or.inr (Or.inr (Or.inl (by omega))) | exact Or.inr (Or.inr (Or.inr (Or.inl (by omega)))) | exact Or.inr (Or.inr (Or.inr (Or.inr (Or.inl (by omega))))) | exact Or.inr (Or.inr (Or.inr (Or.inr (Or.inr (Or.inl (by omega)))))) | exact Or.inr (Or.inr (Or.inr (Or.inr (Or.inr (Or.inr (Or.inl (by omega))))))) | exact Or.inr (Or.inr (Or.inr (Or.inr (Or.inr (Or.inr (Or.inr (Or.inl (by omega)))))))) | exact Or.inr (Or.inr (Or.inr (Or.inr (Or.inr (Or.inr (Or.inr (Or.inr (Or.inl (by omega))))))))) | exact Or.inr (Or.inr (Or.inr (Or.inr (Or.inr (Or.inr (Or.inr (Or.inr (Or.inr (Or.inl (by omega)))))))))) | exact Or.inr (Or.inr (Or.inr (Or.inr (Or.inr (Or.inr (Or.inr (Or.inr (Or.inr (Or.inr (by omega))))))))))))⟩
    · replace c5 : a2 = 3 := c5
      show jGo E l 170 229 229 _ 91 [.inr (.inr (.inl 0)), .inl a1, .inl a2, .inr (.inr (.inl u4))] [] 229 jr0 h
      refine jGo_blk qX11_hullOf_91 ?_
      refine st_gi hu4.1 (fun v17 ev17 b18 => ?_)
      replace ev17 : v17 = h u4 7 := ev17
      replace b18 := (jbf_4_7 hu4.1 _).1 b18
      refine And.intro (fun c19 => ?_) (fun c19 => ?_)
      · replace c19 : v17 = 0 := c19
        show jGo E l 170 229 229 _ 102 [.inr (.inr (.inl 0)), .inl a1, .inl a2, .inr (.inr (.inl u4))] [] 229 jr0 h
        refine jGo_blk qX11_hullOf_102 ?_
        show jGo E l 170 229 229 _ 103 [.inr (.inr (.inl 0)), .inl a1, .inl a2, .inr (.inr (.inl u4))] [.inl 0] 229 jr0 h
        refine jGo_blk qX11_hullOf_103 ?_
        have e20 : h u4 7 = h (36 + 3 * a1) 7 := by rw [qu4]
        exact st_r0 (ls := []) ⟨rfl, rfl, f0, 0, rfl, trivial, (by unfold P_X11_hullOf; first | exact Or.inl (by omega) | (refine Or.inr ⟨by omega, ?_⟩; first | exact Or.inl (by omega) | exact Or.inr (Or.inl (by omega)) | exact Or.inr (Or.inr (Or.inl (by omega))) | exact Or.inr (Or.inr (Or.inr (Or.inl (by omega)))) | exact Or.inr (Or.inr (Or.inr (Or.inr (Or.inl (by omega))))) | exact Or.inr (Or.inr (Or.inr (Or.inr (Or.inr (Or.inl (by omega)))))) | exact Or.inr (Or.inr (Or.inr (Or.inr (Or.inr (Or.inr (Or.inl (by omega))))))) | exact Or.inr (Or.inr (Or.inr (Or.inr (Or.inr (Or.inr (Or.inr (Or.inl (by omega)))))))) | exact Or.inr (Or.inr (Or.inr (Or.inr (Or.inr (Or.inr (Or.inr (Or.inr (Or.inl (by omega))))))))) | exact Or.inr (Or.inr (Or.inr (Or.inr (Or.inr (Or.inr (Or.inr (Or.inr (Or.inr (Or.inl (by omega)))))))))) | exact Or.inr (Or.inr (Or.inr (Or.inr (Or.inr (Or.inr (Or.inr (Or.inr (Or.inr (Or.inr (by omega))))))))))))⟩
      · replace c19 : ¬ v17 = 0 := by first | exact c19 | exact Int.not_le.mp c19 | exact Int.not_lt.mp c19 | exact Decidable.not_not.mp c19
        show jGo E l 170 229 229 _ 103 [.inr (.inr (.inl 0)), .inl a1, .inl a2, .inr (.inr (.inl u4))] [.inl 1] 229 jr0 h
        refine jGo_blk qX11_hullOf_103 ?_
        have e21 : h u4 7 = h (36 + 3 * a1) 7 := by rw [qu4]
        exact st_r0 (ls := []) ⟨rfl, rfl, f0, 1, rfl, trivial, (by unfold P_X11_hullOf; first | exact Or.inl (by omega) | (refine Or.inr ⟨by omega, ?_⟩; first | exact Or.inl (by omega) | exact Or.inr (Or.inl (by omega)) | exact Or.inr (Or.inr (Or.inl (by omega))) | exact Or.inr (Or.inr (Or.inr (Or.inl (by omega)))) | exact Or.inr (Or.inr (Or.inr (Or.inr (Or.inl (by omega))))) | exact Or.inr (Or.inr (Or.inr (Or.inr (Or.inr (Or.inl (by omega)))))) | exact Or.inr (Or.inr (Or.inr (Or.inr (Or.inr (Or.inr (Or.inl (by omega))))))) | exact Or.inr (Or.inr (Or.inr (Or.inr (Or.inr (Or.inr (Or.inr (Or.inl (by omega)))))))) | exact Or.inr (Or.inr (Or.inr (Or.inr (Or.inr (Or.inr (Or.inr (Or.inr (Or.inl (by omega))))))))) | exact Or.inr (Or.inr (Or.inr (Or.inr (Or.inr (Or.inr (Or.inr (Or.inr (Or.inr (Or.inl (by omega)))))))))) | exact Or.inr (Or.inr (Or.inr (Or.inr (Or.inr (Or.inr (Or.inr (Or.inr (Or.inr (Or.inr (by omega))))))))))))⟩
    · replace c5 : a2 = 4 := c5
      show jGo E l 170 229 229 _ 104 [.inr (.inr (.inl 0)), .inl a1, .inl a2, .inr (.inr (.inl u4))] [] 229 jr0 h
      refine jGo_blk qX11_hullOf_104 ?_
      refine st_gi hu4.1 (fun v22 ev22 b23 => ?_)
      replace ev22 : v22 = h u4 8 := ev22
      replace b23 := (jbf_4_8 hu4.1 _).1 b23
      have e24 : h u4 8 = h (36 + 3 * a1) 8 := by rw [qu4]
      exact st_r0 (ls := []) ⟨rfl, rfl, f0, v22, rfl, trivial, (by unfold P_X11_hullOf; first | exact Or.inl (by omega) | (refine Or.inr ⟨by omega, ?_⟩; first | exact Or.inl (by omega) | exact Or.inr (Or.inl (by omega)) | exact Or.inr (Or.inr (Or.inl (by omega))) | exact Or.inr (Or.inr (Or.inr (Or.inl (by omega)))) | exact Or.inr (Or.inr (Or.inr (Or.inr (Or.inl (by omega))))) | exact Or.inr (Or.inr (Or.inr (Or.inr (Or.inr (Or.inl (by omega)))))) | exact Or.inr (Or.inr (Or.inr (Or.inr (Or.inr (Or.inr (Or.inl (by omega))))))) | exact Or.inr (Or.inr (Or.inr (Or.inr (Or.inr (Or.inr (Or.inr (Or.inl (by omega)))))))) | exact Or.inr (Or.inr (Or.inr (Or.inr (Or.inr (Or.inr (Or.inr (Or.inr (Or.inl (by omega))))))))) | exact Or.inr (Or.inr (Or.inr (Or.inr (Or.inr (Or.inr (Or.inr (Or.inr (Or.inr (Or.inl (by omega)))))))))) | exact Or.inr (Or.inr (Or.inr (Or.inr (Or.inr (Or.inr (Or.inr (Or.inr (Or.inr (Or.inr (by omega))))))))))))⟩
    · replace c5 : a2 = 5 := c5
      show jGo E l 170 229 229 _ 109 [.inr (.inr (.inl 0)), .inl a1, .inl a2, .inr (.inr (.inl u4))] [] 229 jr0 h
      refine jGo_blk qX11_hullOf_109 ?_
      refine st_gi hu4.1 (fun v25 ev25 b26 => ?_)
      replace ev25 : v25 = h u4 1 := ev25
      replace b26 := (jbf_4_1 hu4.1 _).1 b26
      have e27 : h u4 1 = h (36 + 3 * a1) 1 := by rw [qu4]
      exact st_r0 (ls := []) ⟨rfl, rfl, f0, v25, rfl, trivial, (by unfold P_X11_hullOf; first | exact Or.inl (by omega) | (refine Or.inr ⟨by omega, ?_⟩; first | exact Or.inl (by omega) | exact Or.inr (Or.inl (by omega)) | exact Or.inr (Or.inr (Or.inl (by omega))) | exact Or.inr (Or.inr (Or.inr (Or.inl (by omega)))) | exact Or.inr (Or.inr (Or.inr (Or.inr (Or.inl (by omega))))) | exact Or.inr (Or.inr (Or.inr (Or.inr (Or.inr (Or.inl (by omega)))))) | exact Or.inr (Or.inr (Or.inr (Or.inr (Or.inr (Or.inr (Or.inl (by omega))))))) | exact Or.inr (Or.inr (Or.inr (Or.inr (Or.inr (Or.inr (Or.inr (Or.inl (by omega)))))))) | exact Or.inr (Or.inr (Or.inr (Or.inr (Or.inr (Or.inr (Or.inr (Or.inr (Or.inl (by omega))))))))) | exact Or.inr (Or.inr (Or.inr (Or.inr (Or.inr (Or.inr (Or.inr (Or.inr (Or.inr (Or.inl (by omega)))))))))) | exact Or.inr (Or.inr (Or.inr (Or.inr (Or.inr (Or.inr (Or.inr (Or.inr (Or.inr (Or.inr (by omega))))))))))))⟩
    · replace c5 : a2 = 6 := c5
      show jGo E l 170 229 229 _ 114 [.inr (.inr (.inl 0)), .inl a1, .inl a2, .inr (.inr (.inl u4))] [] 229 jr0 h
      refine jGo_blk qX11_hullOf_114 ?_
      refine st_gi hu4.1 (fun v28 ev28 b29 => ?_)
      replace ev28 : v28 = h u4 0 := ev28
      replace b29 := (jbf_4_0 hu4.1 _).1 b29
      have e30 : h u4 0 = h (36 + 3 * a1) 0 := by rw [qu4]
      exact st_r0 (ls := []) ⟨rfl, rfl, f0, v28, rfl, trivial, (by unfold P_X11_hullOf; first | exact Or.inl (by omega) | (refine Or.inr ⟨by omega, ?_⟩; first | exact Or.inl (by omega) | exact Or.inr (Or.inl (by omega)) | exact Or.inr (Or.inr (Or.inl (by omega))) | exact Or.inr (Or.inr (Or.inr (Or.inl (by omega)))) | exact Or.inr (Or.inr (Or.inr (Or.inr (Or.inl (by omega))))) | exact Or.inr (Or.inr (Or.inr (Or.inr (Or.inr (Or.inl (by omega)))))) | exact Or.inr (Or.inr (Or.inr (Or.inr (Or.inr (Or.inr (Or.inl (by omega))))))) | exact Or.inr (Or.inr (Or.inr (Or.inr (Or.inr (Or.inr (Or.inr (Or.inl (by omega)))))))) | exact Or.inr (Or.inr (Or.inr (Or.inr (Or.inr (Or.inr (Or.inr (Or.inr (Or.inl (by omega))))))))) | exact Or.inr (Or.inr (Or.inr (Or.inr (Or.inr (Or.inr (Or.inr (Or.inr (Or.inr (Or.inl (by omega)))))))))) | exact Or.inr (Or.inr (Or.inr (Or.inr (Or.inr (Or.inr (Or.inr (Or.inr (Or.inr (Or.inr (by omega))))))))))))⟩
    · replace c5 : a2 = 7 := c5
      show jGo E l 170 229 229 _ 119 [.inr (.inr (.inl 0)), .inl a1, .inl a2, .inr (.inr (.inl u4))] [] 229 jr0 h
      refine jGo_blk qX11_hullOf_119 ?_
      refine st_gi hu4.1 (fun v31 ev31 b32 => ?_)
      replace ev31 : v31 = h u4 2 := ev31
      replace b32 := (jbf_4_2 hu4.1 _).1 b32
      have e33 : h u4 2 = h (36 + 3 * a1) 2 := by rw [qu4]
      exact st_r0 (ls := []) ⟨rfl, rfl, f0, v31, rfl, trivial, (by unfold P_X11_hullOf; first | exact Or.inl (by omega) | (refine Or.inr ⟨by omega, ?_⟩; first | exact Or.inl (by omega) | exact Or.inr (Or.inl (by omega)) | exact Or.inr (Or.inr (Or.inl (by omega))) | exact Or.inr (Or.inr (Or.inr (Or.inl (by omega)))) | exact Or.inr (Or.inr (Or.inr (Or.inr (Or.inl (by omega))))) | exact Or.inr (Or.inr (Or.inr (Or.inr (Or.inr (Or.inl (by omega)))))) | exact Or.inr (Or.inr (Or.inr (Or.inr (Or.inr (Or.inr (Or.inl (by omega))))))) | exact Or.inr (Or.inr (Or.inr (Or.inr (Or.inr (Or.inr (Or.inr (Or.inl (by omega)))))))) | exact Or.inr (Or.inr (Or.inr (Or.inr (Or.inr (Or.inr (Or.inr (Or.inr (Or.inl (by omega))))))))) | exact Or.inr (Or.inr (Or.inr (Or.inr (Or.inr (Or.inr (Or.inr (Or.inr (Or.inr (Or.inl (by omega)))))))))) | exact Or.inr (Or.inr (Or.inr (Or.inr (Or.inr (Or.inr (Or.inr (Or.inr (Or.inr (Or.inr (by omega))))))))))))⟩
    · replace c5 : a2 = 8 := c5
      show jGo E l 170 229 229 _ 124 [.inr (.inr (.inl 0)), .inl a1, .inl a2, .inr (.inr (.inl u4))] [] 229 jr0 h
      refine jGo_blk qX11_hullOf_124 ?_
      refine st_gi hu4.1 (fun v34 ev34 b35 => ?_)
      replace ev34 : v34 = h u4 9 := ev34
      replace b35 := (jbf_4_9 hu4.1 _).1 b35
      have e36 : h u4 9 = h (36 + 3 * a1) 9 := by rw [qu4]
      exact st_r0 (ls := []) ⟨rfl, rfl, f0, v34, rfl, trivial, (by unfold P_X11_hullOf; first | exact Or.inl (by omega) | (refine Or.inr ⟨by omega, ?_⟩; first | exact Or.inl (by omega) | exact Or.inr (Or.inl (by omega)) | exact Or.inr (Or.inr (Or.inl (by omega))) | exact Or.inr (Or.inr (Or.inr (Or.inl (by omega)))) | exact Or.inr (Or.inr (Or.inr (Or.inr (Or.inl (by omega))))) | exact Or.inr (Or.inr (Or.inr (Or.inr (Or.inr (Or.inl (by omega)))))) | exact Or.inr (Or.inr (Or.inr (Or.inr (Or.inr (Or.inr (Or.inl (by omega))))))) | exact Or.inr (Or.inr (Or.inr (Or.inr (Or.inr (Or.inr (Or.inr (Or.inl (by omega)))))))) | exact Or.inr (Or.inr (Or.inr (Or.inr (Or.inr (Or.inr (Or.inr (Or.inr (Or.inl (by omega))))))))) | exact Or.inr (Or.inr (Or.inr (Or.inr (Or.inr (Or.inr (Or.inr (Or.inr (Or.inr (Or.inl (by omega)))))))))) | exact Or.inr (Or.inr (Or.inr (Or.inr (Or.inr (Or.inr (Or.inr (Or.inr (Or.inr (Or.inr (by omega))))))))))))⟩
  · replace c3 : t1 = 0 := by first | exact c3 | exact Int.not_le.mp c3 | exact Int.not_lt.mp c3 | exact Decidable.not_not.mp c3
    refine st_cv (na := 1) (st := [.inl (-1), .inr (.inr (.inl 0))]) jo_0 rfl rfl rfl (c_X11_refused (-1) h (by omega)) rfl ?_
    rintro _ _ g38 ⟨rfl, ft37, t37, rfl, ht37, zt37⟩ kt37
    replace kt37 : -2147483648 ≤ t37 ∧ t37 ≤ 2147483647 := kt37
    replace ht37 : -7 ≤ t37 ∧ t37 ≤ -1 := ht37
    have fg38 : jfr w_X11_hullOf h g38 := jfr_tr f0 ft37 ws_X11_refused__X11_hullOf
    replace zt37 : t37 = (-1 : Int) := zt37
    exact st_r0 (ls := []) ⟨rfl, rfl, fg38, t37, rfl, trivial, (by unfold P_X11_hullOf; first | exact Or.inl (by omega) | (refine Or.inr ⟨by omega, ?_⟩; first | exact Or.inl (by omega) | exact Or.inr (Or.inl (by omega)) | exact Or.inr (Or.inr (Or.inl (by omega))) | exact Or.inr (Or.inr (Or.inr (Or.inl (by omega)))) | exact Or.inr (Or.inr (Or.inr (Or.inr (Or.inl (by omega))))) | exact Or.inr (Or.inr (Or.inr (Or.inr (Or.inr (Or.inl (by omega)))))) | exact Or.inr (Or.inr (Or.inr (Or.inr (Or.inr (Or.inr (Or.inl (by omega))))))) | exact Or.inr (Or.inr (Or.inr (Or.inr (Or.inr (Or.inr (Or.inr (Or.inl (by omega)))))))) | exact Or.inr (Or.inr (Or.inr (Or.inr (Or.inr (Or.inr (Or.inr (Or.inr (Or.inl (by omega))))))))) | exact Or.inr (Or.inr (Or.inr (Or.inr (Or.inr (Or.inr (Or.inr (Or.inr (Or.inr (Or.inl (by omega)))))))))) | exact Or.inr (Or.inr (Or.inr (Or.inr (Or.inr (Or.inr (Or.inr (Or.inr (Or.inr (Or.inr (by omega))))))))))))⟩

def w_X12_hullOf (i k : Int) : Prop := (i = 219)
theorem ws_X12_refuse__X12_hullOf (i k : Int) (q : w_X12_refuse i k) : w_X12_hullOf i k := by
  unfold w_X12_refuse at q; unfold w_X12_hullOf
  exact (by omega)
def k_X12_hullOf (a1 : Int) (a2 : Int) (h : JH) (v : Option JV) (r' g : JH) : Prop := r' = jr0 ∧ jfr w_X12_hullOf h g ∧ ∃ x : Int, v = some (.inl x) ∧ (True) ∧ (P_X12_hullOf a1 a2 x h)
set_option maxHeartbeats 4000000 in
theorem c_X12_hullOf {E : JE} {l : Launch} (a1 : Int) (a2 : Int) (h : JH) : jMt E l 171 [.inr (.inr (.inl 176)), .inl a1, .inl a2] 229 jr0 h (k_X12_hullOf a1 a2 h) := by
  refine jMt0 (nL := 3) (ls := [.inr (.inr (.inl 176)), .inl a1, .inl a2]) (by decide +kernel) (by decide +kernel) (by decide +kernel) rfl rfl ?_
  have f0 : jfr w_X12_hullOf h h := jfr_rf _ _
  refine jGo_blk qX12_hullOf_0 ?_
  refine st_cv (na := 1) (st := [.inl a1, .inr (.inr (.inl 176))]) jo_176 rfl rfl rfl (c_X12_isHull a1 h) rfl ?_
  rintro _ _ _ ⟨rfl, rfl, t1, rfl, ht1, zt1⟩ kt1
  replace kt1 : -2147483648 ≤ t1 ∧ t1 ≤ 2147483647 := kt1
  replace ht1 : 0 ≤ t1 ∧ t1 ≤ 1 := ht1
  replace zt1 : (t1 = 1 ∧ 0 ≤ a1 ∧ a1 < h 176 14 ∧ h 176 14 ≤ 16) ∨ (t1 = 0 ∧ ¬ (0 ≤ a1 ∧ a1 < h 176 14)) := zt1
  refine And.intro (fun c3 => ?_) (fun c3 => ?_)
  · replace c3 : ¬ t1 = 0 := c3
    show jGo E l 171 229 229 _ 14 [.inr (.inr (.inl 176)), .inl a1, .inl a2] [] 229 jr0 h
    refine jGo_blk qX12_hullOf_14 ?_
    refine And.intro (fun c4 => ?_) (And.intro (fun c4 => ?_) (And.intro (fun c4 => ?_) (And.intro (fun c4 => ?_) (And.intro (fun c4 => ?_) (And.intro (fun c4 => ?_) (And.intro (fun c4 => ?_) (And.intro (fun c4 => ?_) (And.intro (fun c4 => ?_) (And.intro (fun c4 => ?_) (trivial))))))))))
    · replace c4 : a2 < 0 ∨ 8 < a2 := c4
      show jGo E l 171 229 229 _ 159 [.inr (.inr (.inl 176)), .inl a1, .inl a2] [] 229 jr0 h
      refine jGo_blk qX12_hullOf_159 ?_
      refine st_cv (na := 1) (st := [.inl (-2), .inr (.inr (.inl 176))]) jo_176 rfl rfl rfl (c_X12_refuse (-2) h (by omega)) rfl ?_
      rintro _ _ g6 ⟨rfl, ft5, t5, rfl, ht5, zt5⟩ kt5
      replace kt5 : -2147483648 ≤ t5 ∧ t5 ≤ 2147483647 := kt5
      replace ht5 : -7 ≤ t5 ∧ t5 ≤ -1 := ht5
      have fg6 : jfr w_X12_hullOf h g6 := jfr_tr f0 ft5 ws_X12_refuse__X12_hullOf
      replace zt5 : t5 = (-2 : Int) := zt5
      exact st_r0 (ls := []) ⟨rfl, rfl, fg6, t5, rfl, trivial, (by unfold P_X12_hullOf; first | exact Or.inl (by omega) | (refine Or.inr ⟨by omega, ?_⟩; first | exact Or.inl (by omega) | exact Or.inr (Or.inl (by omega)) | exact Or.inr (Or.inr (Or.inl (by omega))) | exact Or.inr (Or.inr (Or.inr (Or.inl (by omega)))) | exact Or.inr (Or.inr (Or.inr (Or.inr (Or.inl (by omega))))) | exact Or.inr (Or.inr (Or.inr (Or.inr (Or.inr (Or.inl (by omega)))))) | exact Or.inr (Or.inr (Or.inr (Or.inr (Or.inr (Or.inr (Or.inl (by omega))))))) | exact Or.inr (Or.inr (Or.inr (Or.inr (Or.inr (Or.inr (Or.inr (Or.inl (by omega)))))))) | exact Or.inr (Or.inr (Or.inr (Or.inr (Or.inr (Or.inr (Or.inr (Or.inr (Or.inl (by omega))))))))) | exact Or.inr (Or.inr (Or.inr (Or.inr (Or.inr (Or.inr (Or.inr (Or.inr (Or.inr (Or.inl (by omega)))))))))) | exact Or.inr (Or.inr (Or.inr (Or.inr (Or.inr (Or.inr (Or.inr (Or.inr (Or.inr (Or.inr (Or.inl (by omega))))))))))) | exact Or.inr (Or.inr (Or.inr (Or.inr (Or.inr (Or.inr (Or.inr (Or.inr (Or.inr (Or.inr (Or.inr (by omega)))))))))))))⟩
    · replace c4 : a2 = 0 := c4
      show jGo E l 171 229 229 _ 64 [.inr (.inr (.inl 176)), .inl a1, .inl a2] [] 229 jr0 h
      refine jGo_blk qX12_hullOf_64 ?_
      refine st_gr jo_176 jr_176_18 ?_
      refine st_ai jo_192 (show 0 ≤ a1 by omega) (show a1 < ((16 : Nat) : Int) by omega) (fun v7 ev7 b8 => ?_)
      replace ev7 : v7 = h 192 a1 := ev7
      replace b8 := (jba_192 a1 _).1 b8
      exact st_r0 (ls := []) ⟨rfl, rfl, f0, v7, rfl, trivial, (by unfold P_X12_hullOf; first | exact Or.inl (by omega) | (refine Or.inr ⟨by omega, ?_⟩; first | exact Or.inl (by omega) | exact Or.inr (Or.inl (by omega)) | exact Or.inr (Or.inr (Or.inl (by omega))) | exact Or.inr (Or.inr (Or.inr (Or.inl (by omega)))) | exact Or.inr (Or.inr (Or.inr (Or.inr (Or.inl (by omega))))) | exact Or.inr (Or.inr (Or.inr (Or.inr (Or.inr (Or.inl (by omega)))))) | exact Or.inr (Or.inr (Or.inr (Or.inr (Or.inr (Or.inr (Or.inl (by omega))))))) | exact Or.inr (Or.inr (Or.inr (Or.inr (Or.inr (Or.inr (Or.inr (Or.inl (by omega)))))))) | exact Or.inr (Or.inr (Or.inr (Or.inr (Or.inr (Or.inr (Or.inr (Or.inr (Or.inl (by omega))))))))) | exact Or.inr (Or.inr (Or.inr (Or.inr (Or.inr (Or.inr (Or.inr (Or.inr (Or.inr (Or.inl (by omega)))))))))) | exact Or.inr (Or.inr (Or.inr (Or.inr (Or.inr (Or.inr (Or.inr (Or.inr (Or.inr (Or.inr (Or.inl (by omega))))))))))) | exact Or.inr (Or.inr (Or.inr (Or.inr (Or.inr (Or.inr (Or.inr (Or.inr (Or.inr (Or.inr (Or.inr (by omega)))))))))))))⟩
    · replace c4 : a2 = 1 := c4
      show jGo E l 171 229 229 _ 71 [.inr (.inr (.inl 176)), .inl a1, .inl a2] [] 229 jr0 h
      refine jGo_blk qX12_hullOf_71 ?_
      refine st_gr jo_176 jr_176_19 ?_
      refine st_ai jo_193 (show 0 ≤ a1 by omega) (show a1 < ((16 : Nat) : Int) by omega) (fun v9 ev9 b10 => ?_)
      replace ev9 : v9 = h 193 a1 := ev9
      replace b10 := (jba_193 a1 _).1 b10
      exact st_r0 (ls := []) ⟨rfl, rfl, f0, v9, rfl, trivial, (by unfold P_X12_hullOf; first | exact Or.inl (by omega) | (refine Or.inr ⟨by omega, ?_⟩; first | exact Or.inl (by omega) | exact Or.inr (Or.inl (by omega)) | exact Or.inr (Or.inr (Or.inl (by omega))) | exact Or.inr (Or.inr (Or.inr (Or.inl (by omega)))) | exact Or.inr (Or.inr (Or.inr (Or.inr (Or.inl (by omega))))) | exact Or.inr (Or.inr (Or.inr (Or.inr (Or.inr (Or.inl (by omega)))))) | exact Or.inr (Or.inr (Or.inr (Or.inr (Or.inr (Or.inr (Or.inl (by omega))))))) | exact Or.inr (Or.inr (Or.inr (Or.inr (Or.inr (Or.inr (Or.inr (Or.inl (by omega)))))))) | exact Or.inr (Or.inr (Or.inr (Or.inr (Or.inr (Or.inr (Or.inr (Or.inr (Or.inl (by omega))))))))) | exact Or.inr (Or.inr (Or.inr (Or.inr (Or.inr (Or.inr (Or.inr (Or.inr (Or.inr (Or.inl (by omega)))))))))) | exact Or.inr (Or.inr (Or.inr (Or.inr (Or.inr (Or.inr (Or.inr (Or.inr (Or.inr (Or.inr (Or.inl (by omega))))))))))) | exact Or.inr (Or.inr (Or.inr (Or.inr (Or.inr (Or.inr (Or.inr (Or.inr (Or.inr (Or.inr (Or.inr (by omega)))))))))))))⟩
    · replace c4 : a2 = 2 := c4
      show jGo E l 171 229 229 _ 78 [.inr (.inr (.inl 176)), .inl a1, .inl a2] [] 229 jr0 h
      refine jGo_blk qX12_hullOf_78 ?_
      refine st_gr jo_176 jr_176_18 ?_
      refine st_ai jo_192 (show 0 ≤ a1 by omega) (show a1 < ((16 : Nat) : Int) by omega) (fun v11 ev11 b12 => ?_)
      replace ev11 : v11 = h 192 a1 := ev11
      replace b12 := (jba_192 a1 _).1 b12
      refine And.intro (fun c13 => ?_) (fun c13 => ?_)
      · replace c13 : ¬ v11 = 1 := c13
        show jGo E l 171 229 229 _ 97 [.inr (.inr (.inl 176)), .inl a1, .inl a2] [] 229 jr0 h
        refine jGo_blk qX12_hullOf_97 ?_
        show jGo E l 171 229 229 _ 98 [.inr (.inr (.inl 176)), .inl a1, .inl a2] [.inl 0] 229 jr0 h
        refine jGo_blk qX12_hullOf_98 ?_
        exact st_r0 (ls := []) ⟨rfl, rfl, f0, 0, rfl, trivial, (by unfold P_X12_hullOf; first | exact Or.inl (by omega) | (refine Or.inr ⟨by omega, ?_⟩; first | exact Or.inl (by omega) | exact Or.inr (Or.inl (by omega)) | exact Or.inr (Or.inr (Or.inl (by omega))) | exact Or.inr (Or.inr (Or.inr (Or.inl (by omega)))) | exact Or.inr (Or.inr (Or.inr (Or.inr (Or.inl (by omega))))) | exact Or.inr (Or.inr (Or.inr (Or.inr (Or.inr (Or.inl (by omega)))))) | exact Or.inr (Or.inr (Or.inr (Or.inr (Or.inr (Or.inr (Or.inl (by omega))))))) | exact Or.inr (Or.inr (Or.inr (Or.inr (Or.inr (Or.inr (Or.inr (Or.inl (by omega)))))))) | exact Or.inr (Or.inr (Or.inr (Or.inr (Or.inr (Or.inr (Or.inr (Or.inr (Or.inl (by omega))))))))) | exact Or.inr (Or.inr (Or.inr (Or.inr (Or.inr (Or.inr (Or.inr (Or.inr (Or.inr (Or.inl (by omega)))))))))) | exact Or.inr (Or.inr (Or.inr (Or.inr (Or.inr (Or.inr (Or.inr (Or.inr (Or.inr (Or.inr (Or.inl (by omega))))))))))) | exact Or.inr (Or.inr (Or.inr (Or.inr (Or.inr (Or.inr (Or.inr (Or.inr (Or.inr (Or.inr (Or.inr (by omega)))))))))))))⟩
      · replace c13 : v11 = 1 := by first | exact c13 | exact Int.not_le.mp c13 | exact Int.not_lt.mp c13 | exact Decidable.not_not.mp c13
        refine st_gr jo_176 jr_176_21 ?_
        refine st_ai jo_195 (show 0 ≤ a1 by omega) (show a1 < ((16 : Nat) : Int) by omega) (fun v14 ev14 b15 => ?_)
        replace ev14 : v14 = h 195 a1 := ev14
        replace b15 := (jba_195 a1 _).1 b15
        show jGo E l 171 229 229 _ 98 [.inr (.inr (.inl 176)), .inl a1, .inl a2] [.inl v14] 229 jr0 h
        refine jGo_blk qX12_hullOf_98 ?_
        exact st_r0 (ls := []) ⟨rfl, rfl, f0, v14, rfl, trivial, (by unfold P_X12_hullOf; first | exact Or.inl (by omega) | (refine Or.inr ⟨by omega, ?_⟩; first | exact Or.inl (by omega) | exact Or.inr (Or.inl (by omega)) | exact Or.inr (Or.inr (Or.inl (by omega))) | exact Or.inr (Or.inr (Or.inr (Or.inl (by omega)))) | exact Or.inr (Or.inr (Or.inr (Or.inr (Or.inl (by omega))))) | exact Or.inr (Or.inr (Or.inr (Or.inr (Or.inr (Or.inl (by omega)))))) | exact Or.inr (Or.inr (Or.inr (Or.inr (Or.inr (Or.inr (Or.inl (by omega))))))) | exact Or.inr (Or.inr (Or.inr (Or.inr (Or.inr (Or.inr (Or.inr (Or.inl (by omega)))))))) | exact Or.inr (Or.inr (Or.inr (Or.inr (Or.inr (Or.inr (Or.inr (Or.inr (Or.inl (by omega))))))))) | exact Or.inr (Or.inr (Or.inr (Or.inr (Or.inr (Or.inr (Or.inr (Or.inr (Or.inr (Or.inl (by omega)))))))))) | exact Or.inr (Or.inr (Or.inr (Or.inr (Or.inr (Or.inr (Or.inr (Or.inr (Or.inr (Or.inr (Or.inl (by omega))))))))))) | exact Or.inr (Or.inr (Or.inr (Or.inr (Or.inr (Or.inr (Or.inr (Or.inr (Or.inr (Or.inr (Or.inr (by omega)))))))))))))⟩
    · replace c4 : a2 = 3 := c4
      show jGo E l 171 229 229 _ 99 [.inr (.inr (.inl 176)), .inl a1, .inl a2] [] 229 jr0 h
      refine jGo_blk qX12_hullOf_99 ?_
      refine st_gr jo_176 jr_176_18 ?_
      refine st_ai jo_192 (show 0 ≤ a1 by omega) (show a1 < ((16 : Nat) : Int) by omega) (fun v16 ev16 b17 => ?_)
      replace ev16 : v16 = h 192 a1 := ev16
      replace b17 := (jba_192 a1 _).1 b17
      refine And.intro (fun c18 => ?_) (fun c18 => ?_)
      · replace c18 : ¬ v16 = 1 := c18
        show jGo E l 171 229 229 _ 122 [.inr (.inr (.inl 176)), .inl a1, .inl a2] [] 229 jr0 h
        refine jGo_blk qX12_hullOf_122 ?_
        show jGo E l 171 229 229 _ 123 [.inr (.inr (.inl 176)), .inl a1, .inl a2] [.inl 0] 229 jr0 h
        refine jGo_blk qX12_hullOf_123 ?_
        exact st_r0 (ls := []) ⟨rfl, rfl, f0, 0, rfl, trivial, (by unfold P_X12_hullOf; first | exact Or.inl (by omega) | (refine Or.inr ⟨by omega, ?_⟩; first | exact Or.inl (by omega) | exact Or.inr (Or.inl (by omega)) | exact Or.inr (Or.inr (Or.inl (by omega))) | exact Or.inr (Or.inr (Or.inr (Or.inl (by omega)))) | exact Or.inr (Or.inr (Or.inr (Or.inr (Or.inl (by omega))))) | exact Or.inr (Or.inr (Or.inr (Or.inr (Or.inr (Or.inl (by omega)))))) | exact Or.inr (Or.inr (Or.inr (Or.inr (Or.inr (Or.inr (Or.inl (by omega))))))) | exact Or.inr (Or.inr (Or.inr (Or.inr (Or.inr (Or.inr (Or.inr (Or.inl (by omega)))))))) | exact Or.inr (Or.inr (Or.inr (Or.inr (Or.inr (Or.inr (Or.inr (Or.inr (Or.inl (by omega))))))))) | exact Or.inr (Or.inr (Or.inr (Or.inr (Or.inr (Or.inr (Or.inr (Or.inr (Or.inr (Or.inl (by omega)))))))))) | exact Or.inr (Or.inr (Or.inr (Or.inr (Or.inr (Or.inr (Or.inr (Or.inr (Or.inr (Or.inr (Or.inl (by omega))))))))))) | exact Or.inr (Or.inr (Or.inr (Or.inr (Or.inr (Or.inr (Or.inr (Or.inr (Or.inr (Or.inr (Or.inr (by omega)))))))))))))⟩
      · replace c18 : v16 = 1 := by first | exact c18 | exact Int.not_le.mp c18 | exact Int.not_lt.mp c18 | exact Decidable.not_not.mp c18
        refine st_gr jo_176 jr_176_22 ?_
        refine st_bi jo_196 (show 0 ≤ a1 by omega) (show a1 < ((16 : Nat) : Int) by omega) (fun v19 ev19 b20 => ?_)
        replace ev19 : v19 = h 196 a1 := ev19
        replace b20 := (jba_196 a1 _).1 b20
        refine And.intro (fun c21 => ?_) (fun c21 => ?_)
        · replace c21 : v19 = 0 := c21
          show jGo E l 171 229 229 _ 122 [.inr (.inr (.inl 176)), .inl a1, .inl a2] [] 229 jr0 h
          refine jGo_blk qX12_hullOf_122 ?_
          show jGo E l 171 229 229 _ 123 [.inr (.inr (.inl 176)), .inl a1, .inl a2] [.inl 0] 229 jr0 h
          refine jGo_blk qX12_hullOf_123 ?_
          exact st_r0 (ls := []) ⟨rfl, rfl, f0, 0, rfl, trivial, (by unfold P_X12_hullOf; first | exact Or.inl (by omega) | (refine Or.inr ⟨by omega, ?_⟩; first | exact Or.inl (by omega) | exact Or.inr (Or.inl (by omega)) | exact Or.inr (Or.inr (Or.inl (by omega))) | exact Or.inr (Or.inr (Or.inr (Or.inl (by omega)))) | exact Or.inr (Or.inr (Or.inr (Or.inr (Or.inl (by omega))))) | exact Or.inr (Or.inr (Or.inr (Or.inr (Or.inr (Or.inl (by omega)))))) | exact Or.inr (Or.inr (Or.inr (Or.inr (Or.inr (Or.inr (Or.inl (by omega))))))) | exact Or.inr (Or.inr (Or.inr (Or.inr (Or.inr (Or.inr (Or.inr (Or.inl (by omega)))))))) | exact Or.inr (Or.inr (Or.inr (Or.inr (Or.inr (Or.inr (Or.inr (Or.inr (Or.inl (by omega))))))))) | exact Or.inr (Or.inr (Or.inr (Or.inr (Or.inr (Or.inr (Or.inr (Or.inr (Or.inr (Or.inl (by omega)))))))))) | exact Or.inr (Or.inr (Or.inr (Or.inr (Or.inr (Or.inr (Or.inr (Or.inr (Or.inr (Or.inr (Or.inl (by omega))))))))))) | exact Or.inr (Or.inr (Or.inr (Or.inr (Or.inr (Or.inr (Or.inr (Or.inr (Or.inr (Or.inr (Or.inr (by omega)))))))))))))⟩
        · replace c21 : ¬ v19 = 0 := by first | exact c21 | exact Int.not_le.mp c21 | exact Int.not_lt.mp c21 | exact Decidable.not_not.mp c21
          show jGo E l 171 229 229 _ 123 [.inr (.inr (.inl 176)), .inl a1, .inl a2] [.inl 1] 229 jr0 h
          refine jGo_blk qX12_hullOf_123 ?_
          exact st_r0 (ls := []) ⟨rfl, rfl, f0, 1, rfl, trivial, (by unfold P_X12_hullOf; first | exact Or.inl (by omega) | (refine Or.inr ⟨by omega, ?_⟩; first | exact Or.inl (by omega) | exact Or.inr (Or.inl (by omega)) | exact Or.inr (Or.inr (Or.inl (by omega))) | exact Or.inr (Or.inr (Or.inr (Or.inl (by omega)))) | exact Or.inr (Or.inr (Or.inr (Or.inr (Or.inl (by omega))))) | exact Or.inr (Or.inr (Or.inr (Or.inr (Or.inr (Or.inl (by omega)))))) | exact Or.inr (Or.inr (Or.inr (Or.inr (Or.inr (Or.inr (Or.inl (by omega))))))) | exact Or.inr (Or.inr (Or.inr (Or.inr (Or.inr (Or.inr (Or.inr (Or.inl (by omega)))))))) | exact Or.inr (Or.inr (Or.inr (Or.inr (Or.inr (Or.inr (Or.inr (Or.inr (Or.inl (by omega))))))))) | exact Or.inr (Or.inr (Or.inr (Or.inr (Or.inr (Or.inr (Or.inr (Or.inr (Or.inr (Or.inl (by omega)))))))))) | exact Or.inr (Or.inr (Or.inr (Or.inr (Or.inr (Or.inr (Or.inr (Or.inr (Or.inr (Or.inr (Or.inl (by omega))))))))))) | exact Or.inr (Or.inr (Or.inr (Or.inr (Or.inr (Or.inr (Or.inr (Or.inr (Or.inr (Or.inr (Or.inr (by omega)))))))))))))⟩
    · replace c4 : a2 = 4 := c4
      show jGo E l 171 229 229 _ 124 [.inr (.inr (.inl 176)), .inl a1, .inl a2] [] 229 jr0 h
      refine jGo_blk qX12_hullOf_124 ?_
      refine st_gr jo_176 jr_176_23 ?_
      refine st_ai jo_197 (show 0 ≤ a1 by omega) (show a1 < ((16 : Nat) : Int) by omega) (fun v22 ev22 b23 => ?_)
      replace ev22 : v22 = h 197 a1 := ev22
      replace b23 := (jba_197 a1 _).1 b23
      exact st_r0 (ls := []) ⟨rfl, rfl, f0, v22, rfl, trivial, (by unfold P_X12_hullOf; first | exact Or.inl (by omega) | (refine Or.inr ⟨by omega, ?_⟩; first | exact Or.inl (by omega) | exact Or.inr (Or.inl (by omega)) | exact Or.inr (Or.inr (Or.inl (by omega))) | exact Or.inr (Or.inr (Or.inr (Or.inl (by omega)))) | exact Or.inr (Or.inr (Or.inr (Or.inr (Or.inl (by omega))))) | exact Or.inr (Or.inr (Or.inr (Or.inr (Or.inr (Or.inl (by omega)))))) | exact Or.inr (Or.inr (Or.inr (Or.inr (Or.inr (Or.inr (Or.inl (by omega))))))) | exact Or.inr (Or.inr (Or.inr (Or.inr (Or.inr (Or.inr (Or.inr (Or.inl (by omega)))))))) | exact Or.inr (Or.inr (Or.inr (Or.inr (Or.inr (Or.inr (Or.inr (Or.inr (Or.inl (by omega))))))))) | exact Or.inr (Or.inr (Or.inr (Or.inr (Or.inr (Or.inr (Or.inr (Or.inr (Or.inr (Or.inl (by omega)))))))))) | exact Or.inr (Or.inr (Or.inr (Or.inr (Or.inr (Or.inr (Or.inr (Or.inr (Or.inr (Or.inr (Or.inl (by omega))))))))))) | exact Or.inr (Or.inr (Or.inr (Or.inr (Or.inr (Or.inr (Or.inr (Or.inr (Or.inr (Or.inr (Or.inr (by omega)))))))))))))⟩
    · replace c4 : a2 = 5 := c4
      show jGo E l 171 229 229 _ 131 [.inr (.inr (.inl 176)), .inl a1, .inl a2] [] 229 jr0 h
      refine jGo_blk qX12_hullOf_131 ?_
      refine st_gr jo_176 jr_176_16 ?_
      refine st_ai jo_190 (show 0 ≤ a1 by omega) (show a1 < ((16 : Nat) : Int) by omega) (fun v24 ev24 b25 => ?_)
      replace ev24 : v24 = h 190 a1 := ev24
      replace b25 := (jba_190 a1 _).1 b25
      exact st_r0 (ls := []) ⟨rfl, rfl, f0, v24, rfl, trivial, (by unfold P_X12_hullOf; first | exact Or.inl (by omega) | (refine Or.inr ⟨by omega, ?_⟩; first | exact Or.inl (by omega) | exact Or.inr (Or.inl (by omega)) | exact Or.inr (Or.inr (Or.inl (by omega))) | exact Or.inr (Or.inr (Or.inr (Or.inl (by omega)))) | exact Or.inr (Or.inr (Or.inr (Or.inr (Or.inl (by omega))))) | exact Or.inr (Or.inr (Or.inr (Or.inr (Or.inr (Or.inl (by omega)))))) | exact Or.inr (Or.inr (Or.inr (Or.inr (Or.inr (Or.inr (Or.inl (by omega))))))) | exact Or.inr (Or.inr (Or.inr (Or.inr (Or.inr (Or.inr (Or.inr (Or.inl (by omega)))))))) | exact Or.inr (Or.inr (Or.inr (Or.inr (Or.inr (Or.inr (Or.inr (Or.inr (Or.inl (by omega))))))))) | exact Or.inr (Or.inr (Or.inr (Or.inr (Or.inr (Or.inr (Or.inr (Or.inr (Or.inr (Or.inl (by omega)))))))))) | exact Or.inr (Or.inr (Or.inr (Or.inr (Or.inr (Or.inr (Or.inr (Or.inr (Or.inr (Or.inr (Or.inl (by omega))))))))))) | exact Or.inr (Or.inr (Or.inr (Or.inr (Or.inr (Or.inr (Or.inr (Or.inr (Or.inr (Or.inr (Or.inr (by omega)))))))))))))⟩
    · replace c4 : a2 = 6 := c4
      show jGo E l 171 229 229 _ 138 [.inr (.inr (.inl 176)), .inl a1, .inl a2] [] 229 jr0 h
      refine jGo_blk qX12_hullOf_138 ?_
      refine st_gr jo_176 jr_176_15 ?_
      refine st_ai jo_189 (show 0 ≤ a1 by omega) (show a1 < ((16 : Nat) : Int) by omega) (fun v26 ev26 b27 => ?_)
      replace ev26 : v26 = h 189 a1 := ev26
      replace b27 := (jba_189 a1 _).1 b27
      exact st_r0 (ls := []) ⟨rfl, rfl, f0, v26, rfl, trivial, (by unfold P_X12_hullOf; first | exact Or.inl (by omega) | (refine Or.inr ⟨by omega, ?_⟩; first | exact Or.inl (by omega) | exact Or.inr (Or.inl (by omega)) | exact Or.inr (Or.inr (Or.inl (by omega))) | exact Or.inr (Or.inr (Or.inr (Or.inl (by omega)))) | exact Or.inr (Or.inr (Or.inr (Or.inr (Or.inl (by omega))))) | exact Or.inr (Or.inr (Or.inr (Or.inr (Or.inr (Or.inl (by omega)))))) | exact Or.inr (Or.inr (Or.inr (Or.inr (Or.inr (Or.inr (Or.inl (by omega))))))) | exact Or.inr (Or.inr (Or.inr (Or.inr (Or.inr (Or.inr (Or.inr (Or.inl (by omega)))))))) | exact Or.inr (Or.inr (Or.inr (Or.inr (Or.inr (Or.inr (Or.inr (Or.inr (Or.inl (by omega))))))))) | exact Or.inr (Or.inr (Or.inr (Or.inr (Or.inr (Or.inr (Or.inr (Or.inr (Or.inr (Or.inl (by omega)))))))))) | exact Or.inr (Or.inr (Or.inr (Or.inr (Or.inr (Or.inr (Or.inr (Or.inr (Or.inr (Or.inr (Or.inl (by omega))))))))))) | exact Or.inr (Or.inr (Or.inr (Or.inr (Or.inr (Or.inr (Or.inr (Or.inr (Or.inr (Or.inr (Or.inr (by omega)))))))))))))⟩
    · replace c4 : a2 = 7 := c4
      show jGo E l 171 229 229 _ 145 [.inr (.inr (.inl 176)), .inl a1, .inl a2] [] 229 jr0 h
      refine jGo_blk qX12_hullOf_145 ?_
      refine st_gr jo_176 jr_176_17 ?_
      refine st_ai jo_191 (show 0 ≤ a1 by omega) (show a1 < ((16 : Nat) : Int) by omega) (fun v28 ev28 b29 => ?_)
      replace ev28 : v28 = h 191 a1 := ev28
      replace b29 := (jba_191 a1 _).1 b29
      exact st_r0 (ls := []) ⟨rfl, rfl, f0, v28, rfl, trivial, (by unfold P_X12_hullOf; first | exact Or.inl (by omega) | (refine Or.inr ⟨by omega, ?_⟩; first | exact Or.inl (by omega) | exact Or.inr (Or.inl (by omega)) | exact Or.inr (Or.inr (Or.inl (by omega))) | exact Or.inr (Or.inr (Or.inr (Or.inl (by omega)))) | exact Or.inr (Or.inr (Or.inr (Or.inr (Or.inl (by omega))))) | exact Or.inr (Or.inr (Or.inr (Or.inr (Or.inr (Or.inl (by omega)))))) | exact Or.inr (Or.inr (Or.inr (Or.inr (Or.inr (Or.inr (Or.inl (by omega))))))) | exact Or.inr (Or.inr (Or.inr (Or.inr (Or.inr (Or.inr (Or.inr (Or.inl (by omega)))))))) | exact Or.inr (Or.inr (Or.inr (Or.inr (Or.inr (Or.inr (Or.inr (Or.inr (Or.inl (by omega))))))))) | exact Or.inr (Or.inr (Or.inr (Or.inr (Or.inr (Or.inr (Or.inr (Or.inr (Or.inr (Or.inl (by omega)))))))))) | exact Or.inr (Or.inr (Or.inr (Or.inr (Or.inr (Or.inr (Or.inr (Or.inr (Or.inr (Or.inr (Or.inl (by omega))))))))))) | exact Or.inr (Or.inr (Or.inr (Or.inr (Or.inr (Or.inr (Or.inr (Or.inr (Or.inr (Or.inr (Or.inr (by omega)))))))))))))⟩
    · replace c4 : a2 = 8 := c4
      show jGo E l 171 229 229 _ 152 [.inr (.inr (.inl 176)), .inl a1, .inl a2] [] 229 jr0 h
      refine jGo_blk qX12_hullOf_152 ?_
      refine st_gr jo_176 jr_176_24 ?_
      refine st_ai jo_198 (show 0 ≤ a1 by omega) (show a1 < ((16 : Nat) : Int) by omega) (fun v30 ev30 b31 => ?_)
      replace ev30 : v30 = h 198 a1 := ev30
      replace b31 := (jba_198 a1 _).1 b31
      exact st_r0 (ls := []) ⟨rfl, rfl, f0, v30, rfl, trivial, (by unfold P_X12_hullOf; first | exact Or.inl (by omega) | (refine Or.inr ⟨by omega, ?_⟩; first | exact Or.inl (by omega) | exact Or.inr (Or.inl (by omega)) | exact Or.inr (Or.inr (Or.inl (by omega))) | exact Or.inr (Or.inr (Or.inr (Or.inl (by omega)))) | exact Or.inr (Or.inr (Or.inr (Or.inr (Or.inl (by omega))))) | exact Or.inr (Or.inr (Or.inr (Or.inr (Or.inr (Or.inl (by omega)))))) | exact Or.inr (Or.inr (Or.inr (Or.inr (Or.inr (Or.inr (Or.inl (by omega))))))) | exact Or.inr (Or.inr (Or.inr (Or.inr (Or.inr (Or.inr (Or.inr (Or.inl (by omega)))))))) | exact Or.inr (Or.inr (Or.inr (Or.inr (Or.inr (Or.inr (Or.inr (Or.inr (Or.inl (by omega))))))))) | exact Or.inr (Or.inr (Or.inr (Or.inr (Or.inr (Or.inr (Or.inr (Or.inr (Or.inr (Or.inl (by omega)))))))))) | exact Or.inr (Or.inr (Or.inr (Or.inr (Or.inr (Or.inr (Or.inr (Or.inr (Or.inr (Or.inr (Or.inl (by omega))))))))))) | exact Or.inr (Or.inr (Or.inr (Or.inr (Or.inr (Or.inr (Or.inr (Or.inr (Or.inr (Or.inr (Or.inr (by omega)))))))))))))⟩
  · replace c3 : t1 = 0 := by first | exact c3 | exact Int.not_le.mp c3 | exact Int.not_lt.mp c3 | exact Decidable.not_not.mp c3
    refine st_cv (na := 1) (st := [.inl (-1), .inr (.inr (.inl 176))]) jo_176 rfl rfl rfl (c_X12_refuse (-1) h (by omega)) rfl ?_
    rintro _ _ g33 ⟨rfl, ft32, t32, rfl, ht32, zt32⟩ kt32
    replace kt32 : -2147483648 ≤ t32 ∧ t32 ≤ 2147483647 := kt32
    replace ht32 : -7 ≤ t32 ∧ t32 ≤ -1 := ht32
    have fg33 : jfr w_X12_hullOf h g33 := jfr_tr f0 ft32 ws_X12_refuse__X12_hullOf
    replace zt32 : t32 = (-1 : Int) := zt32
    exact st_r0 (ls := []) ⟨rfl, rfl, fg33, t32, rfl, trivial, (by unfold P_X12_hullOf; first | exact Or.inl (by omega) | (refine Or.inr ⟨by omega, ?_⟩; first | exact Or.inl (by omega) | exact Or.inr (Or.inl (by omega)) | exact Or.inr (Or.inr (Or.inl (by omega))) | exact Or.inr (Or.inr (Or.inr (Or.inl (by omega)))) | exact Or.inr (Or.inr (Or.inr (Or.inr (Or.inl (by omega))))) | exact Or.inr (Or.inr (Or.inr (Or.inr (Or.inr (Or.inl (by omega)))))) | exact Or.inr (Or.inr (Or.inr (Or.inr (Or.inr (Or.inr (Or.inl (by omega))))))) | exact Or.inr (Or.inr (Or.inr (Or.inr (Or.inr (Or.inr (Or.inr (Or.inl (by omega)))))))) | exact Or.inr (Or.inr (Or.inr (Or.inr (Or.inr (Or.inr (Or.inr (Or.inr (Or.inl (by omega))))))))) | exact Or.inr (Or.inr (Or.inr (Or.inr (Or.inr (Or.inr (Or.inr (Or.inr (Or.inr (Or.inl (by omega)))))))))) | exact Or.inr (Or.inr (Or.inr (Or.inr (Or.inr (Or.inr (Or.inr (Or.inr (Or.inr (Or.inr (Or.inl (by omega))))))))))) | exact Or.inr (Or.inr (Or.inr (Or.inr (Or.inr (Or.inr (Or.inr (Or.inr (Or.inr (Or.inr (Or.inr (by omega)))))))))))))⟩
