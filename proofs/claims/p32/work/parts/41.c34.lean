def w_X11_readyAhead (i k : Int) : Prop := (i = 15) ∨ (i = 34) ∨ (114 ≤ i ∧ i ≤ 118) ∨ (120 ≤ i ∧ i ≤ 121) ∨ (124 ≤ i ∧ i ≤ 174) ∨ (i = 11 ∧ k = 5) ∨ (i = 29 ∧ k = 6) ∨ (i = 111 ∧ k = 3) ∨ (i = 111 ∧ 9 ≤ k ∧ k ≤ 10) ∨ (i = 119 ∧ 6 ≤ k ∧ k ≤ 10)
def k_X11_readyAhead (a1 : Int) (h : JH) (v : Option JV) (r' g : JH) : Prop := r' = jr0 ∧ jfr w_X11_readyAhead h g ∧ ∃ x : Int, v = some (.inl x) ∧ (True) ∧ (jRA a1 x h g)
set_option maxHeartbeats 4000000 in
theorem c_X11_readyAhead {E : JE} {l : Launch} (a1 : Int) (h : JH) (p1 : 0 ≤ a1 ∧ a1 ≤ 15) : jMt E l 146 [.inr (.inr (.inl 0)), .inl a1] 229 jr0 h (k_X11_readyAhead a1 h) := by
  refine jMt0 (nL := 2) (ls := [.inr (.inr (.inl 0)), .inl a1]) (by decide +kernel) (by decide +kernel) (by decide +kernel) rfl rfl ?_
  have f0 : jfr w_X11_readyAhead h h := jfr_rf _ _
  refine jGo_blk qX11_readyAhead_0 ?_
  refine st_gr jo_0 jr_0_11 ?_
  refine st_gi jo_0 (fun v1 ev1 b2 => ?_)
  replace ev1 : v1 = h 0 0 := ev1
  replace b2 := (jbf_11_0 jo_0 _).1 b2
  refine st_gr jo_0 jr_0_2 ?_
  refine st_gr jo_0 jr_0_3 ?_
  refine st_cv (na := 3) (st := [.inr (.inr (.inl 11)), .inr (.inr (.inl 2)), .inl v1, .inr (.inr (.inl 111))]) jo_111 rfl rfl rfl (c_X7_standAt v1 h (by omega)) rfl ?_
  rintro _ _ g4 ⟨rfl, ft3, rfl, zt3⟩ kt3
  have fg4 : jfr w_X11_readyAhead h g4 := jfr_tr f0 ft3 (fun i k q => by unfold w_X7_standAt at q; unfold w_X11_readyAhead; omega)
  replace zt3 : jSAp v1 h g4 := zt3
  refine st_gr jo_0 jr_0_11 ?_
  refine st_gr jo_0 jr_0_5 ?_
  refine st_gr jo_0 jr_0_4 ?_
  refine st_cv (na := 3) (st := [.inr (.inr (.inl 16)), .inr (.inr (.inl 29)), .inl a1, .inr (.inr (.inl 111))]) jo_111 rfl rfl rfl (c_X7_readyDay_29 a1 g4 (by omega)) rfl ?_
  rintro _ _ g6 ⟨rfl, ft5, t5, rfl, ht5, zt5⟩ kt5
  replace kt5 : -2147483648 ≤ t5 ∧ t5 ≤ 2147483647 := kt5
  have fg6 : jfr w_X11_readyAhead h g6 := jfr_tr fg4 ft5 (fun i k q => by unfold w_X7_readyDay_29 at q; unfold w_X11_readyAhead; omega)
  replace zt5 : jRd a1 t5 g4 g6 := zt5
  exact st_r0 (ls := []) ⟨rfl, rfl, fg6, t5, rfl, trivial, (by exact jRA_mk zt3 (by omega) zt5 (fun i k q => by unfold jwk at q; exact (ft3 i k (by unfold w_X7_standAt; omega))) (fun i k q => (ft5 i k (by unfold w_X7_readyDay_29; omega))))⟩
