def w_X11_order (i k : Int) : Prop := (i = 1) ∨ (i = 15) ∨ (i = 112) ∨ (114 ≤ i ∧ i ≤ 118) ∨ (120 ≤ i ∧ i ≤ 121) ∨ (124 ≤ i ∧ i ≤ 173) ∨ (i = 175) ∨ (i = 11 ∧ k = 5) ∨ (i = 111 ∧ k = 0) ∨ (i = 111 ∧ 2 ≤ k ∧ k ≤ 3) ∨ (i = 111 ∧ k = 9) ∨ (i = 111 ∧ k = 11) ∨ (i = 119 ∧ 6 ≤ k ∧ k ≤ 10)
def k_X11_order (a1 : Int) (h : JH) (v : Option JV) (r' g : JH) : Prop := r' = jr0 ∧ jfr w_X11_order h g ∧ ∃ x : Int, v = some (.inl x) ∧ (-9 ≤ x ∧ x ≤ 15) ∧ (((x = -3 ∧ 5 < (jull (jcS h) (h 29 4).toNat).length) ∨ ((jull (jcS h) (h 29 4).toNat).length ≤ 5 ∧ ¬ g 111 11 = 0 ∧ ¬ g 111 9 = 0 ∧ ((0 ≤ a1 ∧ a1 < g 111 2 ∧ x = g 112 a1) ∨ (¬ (0 ≤ a1 ∧ a1 < g 111 2) ∧ x = -9)))) ∧ jAP h g)
set_option maxHeartbeats 4000000 in
theorem c_X11_order {E : JE} {l : Launch} (a1 : Int) (h : JH) : jMt E l 168 [.inr (.inr (.inl 0)), .inl a1] 229 jr0 h (k_X11_order a1 h) := by
  refine jMt0 (nL := 2) (ls := [.inr (.inr (.inl 0)), .inl a1]) (by decide +kernel) (by decide +kernel) (by decide +kernel) rfl rfl ?_
  have f0 : jfr w_X11_order h h := jfr_rf _ _
  refine jGo_blk qX11_order_0 ?_
  refine st_cv (na := 0) (st := [.inr (.inr (.inl 0))]) jo_0 rfl rfl rfl (c_X11_findOrder h) rfl ?_
  rintro _ _ g2 ⟨rfl, ft1, t1, rfl, ht1, zt1⟩ kt1
  replace kt1 : -2147483648 ≤ t1 ∧ t1 ≤ 2147483647 := kt1
  replace ht1 : 0 ≤ t1 ∧ t1 ≤ 1 := ht1
  have fg2 : jfr w_X11_order h g2 := jfr_tr f0 ft1 (fun i k q => by unfold w_X11_findOrder at q; unfold w_X11_order; omega)
  replace zt1 : ((t1 = 0 ∧ 5 < (jull (jcS h) (h 29 4).toNat).length) ∨ (t1 = 1 ∧ (jull (jcS h) (h 29 4).toNat).length ≤ 5 ∧ ¬ g2 111 11 = 0 ∧ ¬ g2 111 9 = 0)) ∧ jAP h g2 := zt1
  refine And.intro (fun c3 => ?_) (fun c3 => ?_)
  · replace c3 : ¬ t1 = 0 := c3
    show jGo E l 168 229 229 _ 14 [.inr (.inr (.inl 0)), .inl a1] [] 229 jr0 g2
    refine jGo_blk qX11_order_14 ?_
    refine st_gr jo_0 jr_0_11 ?_
    refine st_gi jo_111 (fun v4 ev4 b5 => ?_)
    replace ev4 : v4 = g2 111 2 := ev4
    replace b5 := (jbf_7_2 jo_111 _).1 b5
    refine st_cs (na := 2) (st := [.inl v4, .inl a1]) rfl rfl rfl (c_X11_within a1 v4 g2) rfl ?_
    rintro _ _ _ ⟨rfl, rfl, t6, rfl, ht6, zt6⟩ kt6
    replace kt6 : -2147483648 ≤ t6 ∧ t6 ≤ 2147483647 := kt6
    replace ht6 : 0 ≤ t6 ∧ t6 ≤ 1 := ht6
    replace zt6 : (t6 = 1 ∧ 0 ≤ a1 ∧ a1 < v4) ∨ (t6 = 0 ∧ ¬ (0 ≤ a1 ∧ a1 < v4)) := zt6
    refine And.intro (fun c8 => ?_) (fun c8 => ?_)
    · replace c8 : t6 = 0 := c8
      show jGo E l 168 229 229 _ 40 [.inr (.inr (.inl 0)), .inl a1] [] 229 jr0 g2
      refine jGo_blk qX11_order_40 ?_
      show jGo E l 168 229 229 _ 42 [.inr (.inr (.inl 0)), .inl a1] [.inl (-9)] 229 jr0 g2
      refine jGo_blk qX11_order_42 ?_
      exact st_r0 (ls := []) ⟨rfl, rfl, fg2, (-9), rfl, (by omega), (by refine ⟨Or.inr ⟨by omega, by omega, by omega, by omega⟩, zt1.2⟩)⟩
    · replace c8 : ¬ t6 = 0 := by first | exact c8 | exact Int.not_le.mp c8 | exact Int.not_lt.mp c8 | exact Decidable.not_not.mp c8
      refine st_gr jo_0 jr_0_11 ?_
      refine st_gr jo_111 jr_111_1 ?_
      refine st_ai jo_112 (show 0 ≤ a1 by omega) (show a1 < ((5 : Nat) : Int) by omega) (fun v9 ev9 b10 => ?_)
      replace ev9 : v9 = g2 112 a1 := ev9
      replace b10 := (jba_112 a1 _).1 b10
      show jGo E l 168 229 229 _ 42 [.inr (.inr (.inl 0)), .inl a1] [.inl v9] 229 jr0 g2
      refine jGo_blk qX11_order_42 ?_
      exact st_r0 (ls := []) ⟨rfl, rfl, fg2, v9, rfl, (by omega), (by refine ⟨Or.inr ⟨by omega, by omega, by omega, by omega⟩, zt1.2⟩)⟩
  · replace c3 : t1 = 0 := by first | exact c3 | exact Int.not_le.mp c3 | exact Int.not_lt.mp c3 | exact Decidable.not_not.mp c3
    refine st_cv (na := 1) (st := [.inl (-3), .inr (.inr (.inl 0))]) jo_0 rfl rfl rfl (c_X11_refused (-3) g2 (by omega)) rfl ?_
    rintro _ _ g12 ⟨rfl, ft11, t11, rfl, ht11, zt11⟩ kt11
    replace kt11 : -2147483648 ≤ t11 ∧ t11 ≤ 2147483647 := kt11
    replace ht11 : -7 ≤ t11 ∧ t11 ≤ -1 := ht11
    have fg12 : jfr w_X11_order h g12 := jfr_tr fg2 ft11 (fun i k q => by unfold w_X11_refused at q; unfold w_X11_order; omega)
    replace zt11 : t11 = (-3 : Int) := zt11
    exact st_r0 (ls := []) ⟨rfl, rfl, fg12, t11, rfl, (by omega), (by exact ⟨Or.inl ⟨by omega, by omega⟩, fun hm S q => jHH_fr (fun i k w => by unfold jwh3 at w; exact (ft11 i k (by unfold w_X11_refused; omega))) (zt1.2 hm S q)⟩)⟩
