def w_X11_findOrder (i k : Int) : Prop := (i = 15) ∨ (i = 112) ∨ (114 ≤ i ∧ i ≤ 118) ∨ (120 ≤ i ∧ i ≤ 121) ∨ (124 ≤ i ∧ i ≤ 173) ∨ (i = 175) ∨ (i = 11 ∧ k = 5) ∨ (i = 111 ∧ k = 0) ∨ (i = 111 ∧ 2 ≤ k ∧ k ≤ 3) ∨ (i = 111 ∧ k = 9) ∨ (i = 111 ∧ k = 11) ∨ (i = 119 ∧ 6 ≤ k ∧ k ≤ 10)
def k_X11_findOrder (h : JH) (v : Option JV) (r' g : JH) : Prop := r' = jr0 ∧ jfr w_X11_findOrder h g ∧ ∃ x : Int, v = some (.inl x) ∧ (0 ≤ x ∧ x ≤ 1) ∧ (((x = 0 ∧ 5 < (jull (jcS h) (h 29 4).toNat).length) ∨ (x = 1 ∧ (jull (jcS h) (h 29 4).toNat).length ≤ 5 ∧ ¬ g 111 11 = 0 ∧ ¬ g 111 9 = 0)) ∧ jAP h g)
set_option maxHeartbeats 4000000 in
theorem c_X11_findOrder {E : JE} {l : Launch} (h : JH) : jMt E l 162 [.inr (.inr (.inl 0))] 229 jr0 h (k_X11_findOrder h) := by
  refine jMt0 (nL := 1) (ls := [.inr (.inr (.inl 0))]) (by decide +kernel) (by decide +kernel) (by decide +kernel) rfl rfl ?_
  have f0 : jfr w_X11_findOrder h h := jfr_rf _ _
  refine jGo_blk qX11_findOrder_0 ?_
  refine st_gr jo_0 jr_0_5 ?_
  refine st_cv (na := 1) (st := [.inl 0, .inr (.inr (.inl 29))]) jo_29 rfl rfl rfl (c_X10_countOf_29 0 h) rfl ?_
  rintro _ _ _ ⟨rfl, rfl, t1, rfl, ht1, zt1⟩ kt1
  replace kt1 : -2147483648 ≤ t1 ∧ t1 ≤ 2147483647 := kt1
  replace zt1 : (t1 = jct (jcS h) (0 : Int) (h 29 4).toNat) ∧ 0 ≤ t1 ∧ t1 ≤ 16 := zt1
  refine st_gr jo_0 jr_0_5 ?_
  refine st_cv (na := 1) (st := [.inl 1, .inr (.inr (.inl 29)), .inl t1]) jo_29 rfl rfl rfl (c_X10_countOf_29 1 h) rfl ?_
  rintro _ _ _ ⟨rfl, rfl, t3, rfl, ht3, zt3⟩ kt3
  replace kt3 : -2147483648 ≤ t3 ∧ t3 ≤ 2147483647 := kt3
  replace zt3 : (t3 = jct (jcS h) (1 : Int) (h 29 4).toNat) ∧ 0 ≤ t3 ∧ t3 ≤ 16 := zt3
  refine And.intro (fun c5 => ?_) (fun c5 => ?_)
  · replace c5 : jw32 (t1 + t3) ≤ 5 := c5
    show jGo E l 162 229 229 _ 23 [.inr (.inr (.inl 0))] [] 229 jr0 h
    refine jGo_blk qX11_findOrder_23 ?_
    refine st_gr jo_0 jr_0_11 ?_
    refine st_gi jo_0 (fun v6 ev6 b7 => ?_)
    replace ev6 : v6 = h 0 0 := ev6
    replace b7 := (jbf_11_0 jo_0 _).1 b7
    refine st_gr jo_0 jr_0_2 ?_
    refine st_gr jo_0 jr_0_3 ?_
    refine st_cv (na := 3) (st := [.inr (.inr (.inl 11)), .inr (.inr (.inl 2)), .inl v6, .inr (.inr (.inl 111))]) jo_111 rfl rfl rfl (c_X7_standAt v6 h (by omega)) rfl ?_
    rintro _ _ g9 ⟨rfl, ft8, rfl, zt8⟩ kt8
    have fg9 : jfr w_X11_findOrder h g9 := jfr_tr f0 ft8 (fun i k q => by unfold w_X7_standAt at q; unfold w_X11_findOrder; omega)
    replace zt8 : jSAp v6 h g9 := zt8
    refine st_gr jo_0 jr_0_11 ?_
    refine st_gr jo_0 jr_0_5 ?_
    refine st_gr jo_0 jr_0_4 ?_
    refine st_cv (na := 2) (st := [.inr (.inr (.inl 16)), .inr (.inr (.inl 29)), .inr (.inr (.inl 111))]) jo_111 rfl rfl rfl (c_X7_findLeast_29 g9) rfl ?_
    rintro _ _ g11 ⟨rfl, ft10, rfl, zt10⟩ kt10
    have fg11 : jfr w_X11_findOrder h g11 := jfr_tr fg9 ft10 (fun i k q => by unfold w_X7_findLeast_29 at q; unfold w_X11_findOrder; omega)
    replace zt10 : ¬ g11 111 11 = 0 ∧ jFLp g9 g11 := zt10
    have q9 := jct_l (S := jcS h) (h 29 4).toNat; rw [← zt1.1, ← zt3.1] at q9
    have j9 : jw32 (t1 + t3) = t1 + t3 := j32e (by have a := zt1.2; have b := zt3.2; omega) (by have a := zt1.2; have b := zt3.2; omega)
    exact st_r1 (ls := []) (show (1 : Int) = 0 ∨ (1 : Int) = 1 by omega) ⟨rfl, rfl, fg11, 1, rfl, (by omega), (by exact ⟨Or.inr ⟨by omega, by omega, zt10.1, by rw [ft10 111 9 (by unfold w_X7_findLeast_29; omega)]; exact jSA_9 zt8⟩, jFO_ap zt8 (by omega) (fun i k q => ft8 i k (by unfold w_X7_standAt; unfold jwk at q; omega)) zt10.2 (fun i k q => ft10 i k (by unfold w_X7_findLeast_29; omega))⟩)⟩
  · replace c5 : 5 < jw32 (t1 + t3) := by first | exact c5 | exact Int.not_le.mp c5 | exact Int.not_lt.mp c5 | exact Decidable.not_not.mp c5
    have q9 := jct_l (S := jcS h) (h 29 4).toNat; rw [← zt1.1, ← zt3.1] at q9
    have j9 : jw32 (t1 + t3) = t1 + t3 := j32e (by have a := zt1.2; have b := zt3.2; omega) (by have a := zt1.2; have b := zt3.2; omega)
    exact st_r1 (ls := []) (show (0 : Int) = 0 ∨ (0 : Int) = 1 by omega) ⟨rfl, rfl, f0, 0, rfl, (by omega), (by exact ⟨Or.inl ⟨by omega, by omega⟩, jAP_fr (fun i k q => by unfold jwh3 at q; exact rfl)⟩)⟩
