def w_X11_least (i k : Int) : Prop := (i = 1) ∨ (i = 15) ∨ (i = 112) ∨ (114 ≤ i ∧ i ≤ 118) ∨ (120 ≤ i ∧ i ≤ 121) ∨ (124 ≤ i ∧ i ≤ 173) ∨ (i = 175) ∨ (i = 11 ∧ k = 5) ∨ (i = 111 ∧ k = 0) ∨ (i = 111 ∧ 2 ≤ k ∧ k ≤ 3) ∨ (i = 111 ∧ k = 9) ∨ (i = 111 ∧ k = 11) ∨ (i = 119 ∧ 6 ≤ k ∧ k ≤ 10)
def k_X11_least (h : JH) (v : Option JV) (r' g : JH) : Prop := r' = jr0 ∧ jfr w_X11_least h g ∧ ∃ x : Int, v = some (.inl x) ∧ (True) ∧ (((x = -3 ∧ 5 < (jull (jcS h) (h 29 4).toNat).length) ∨ ((jull (jcS h) (h 29 4).toNat).length ≤ 5 ∧ ¬ g 111 11 = 0 ∧ ¬ g 111 9 = 0 ∧ x = g 111 0)) ∧ jAP h g)
set_option maxHeartbeats 4000000 in
theorem c_X11_least {E : JE} {l : Launch} (h : JH) : jMt E l 163 [.inr (.inr (.inl 0))] 229 jr0 h (k_X11_least h) := by
  refine jMt0 (nL := 1) (ls := [.inr (.inr (.inl 0))]) (by decide +kernel) (by decide +kernel) (by decide +kernel) rfl rfl ?_
  have f0 : jfr w_X11_least h h := jfr_rf _ _
  refine jGo_blk qX11_least_0 ?_
  refine st_cv (na := 0) (st := [.inr (.inr (.inl 0))]) jo_0 rfl rfl rfl (c_X11_findOrder h) rfl ?_
  rintro _ _ g2 ⟨rfl, ft1, t1, rfl, ht1, zt1⟩ kt1
  replace kt1 : -2147483648 ≤ t1 ∧ t1 ≤ 2147483647 := kt1
  replace ht1 : 0 ≤ t1 ∧ t1 ≤ 1 := ht1
  have fg2 : jfr w_X11_least h g2 := jfr_tr f0 ft1 (fun i k q => by unfold w_X11_findOrder at q; unfold w_X11_least; omega)
  replace zt1 : ((t1 = 0 ∧ 5 < (jull (jcS h) (h 29 4).toNat).length) ∨ (t1 = 1 ∧ (jull (jcS h) (h 29 4).toNat).length ≤ 5 ∧ ¬ g2 111 11 = 0 ∧ ¬ g2 111 9 = 0)) ∧ jAP h g2 := zt1
  refine And.intro (fun c3 => ?_) (fun c3 => ?_)
  · replace c3 : ¬ t1 = 0 := c3
    show jGo E l 163 229 229 _ 14 [.inr (.inr (.inl 0))] [] 229 jr0 g2
    refine jGo_blk qX11_least_14 ?_
    refine st_gr jo_0 jr_0_11 ?_
    refine st_gi jo_111 (fun v4 ev4 b5 => ?_)
    replace ev4 : v4 = g2 111 0 := ev4
    replace b5 := (jbf_7_0 jo_111 _).1 b5
    exact st_r0 (ls := []) ⟨rfl, rfl, fg2, v4, rfl, trivial, (by refine ⟨Or.inr ⟨by omega, by omega, by omega, by omega⟩, zt1.2⟩)⟩
  · replace c3 : t1 = 0 := by first | exact c3 | exact Int.not_le.mp c3 | exact Int.not_lt.mp c3 | exact Decidable.not_not.mp c3
    refine st_cv (na := 1) (st := [.inl (-3), .inr (.inr (.inl 0))]) jo_0 rfl rfl rfl (c_X11_refused (-3) g2 (by omega)) rfl ?_
    rintro _ _ g7 ⟨rfl, ft6, t6, rfl, ht6, zt6⟩ kt6
    replace kt6 : -2147483648 ≤ t6 ∧ t6 ≤ 2147483647 := kt6
    replace ht6 : -7 ≤ t6 ∧ t6 ≤ -1 := ht6
    have fg7 : jfr w_X11_least h g7 := jfr_tr fg2 ft6 (fun i k q => by unfold w_X11_refused at q; unfold w_X11_least; omega)
    replace zt6 : t6 = (-3 : Int) := zt6
    exact st_r0 (ls := []) ⟨rfl, rfl, fg7, t6, rfl, trivial, (by exact ⟨Or.inl ⟨by omega, by omega⟩, fun hm S q => jHH_fr (fun i k w => by unfold jwh3 at w; exact (ft6 i k (by unfold w_X11_refused; omega))) (zt1.2 hm S q)⟩)⟩
