def w_X7_standAt (i k : Int) : Prop := (i = 15) ∨ (114 ≤ i ∧ i ≤ 118) ∨ (i = 11 ∧ k = 5) ∨ (i = 111 ∧ k = 3) ∨ (i = 111 ∧ k = 9)
theorem ws_X0_write_113__X7_standAt (i k : Int) (q : w_X0_write_113 i k) : w_X7_standAt i k := by
  unfold w_X0_write_113 at q; unfold w_X7_standAt
  rcases q with q | q | q
  · exact (Or.inl (by omega))
  · exact (Or.inr (Or.inl (by omega)))
  · exact (Or.inr (Or.inr (Or.inl (by omega))))
theorem ws_X2_rewind__X7_standAt (i k : Int) (q : w_X2_rewind i k) : w_X7_standAt i k := by
  unfold w_X2_rewind at q; unfold w_X7_standAt
  rcases q with q | q
  · exact (Or.inl (by omega))
  · exact (Or.inr (Or.inr (Or.inl (by omega))))
def k_X7_standAt (a1 : Int) (h : JH) (v : Option JV) (r' g : JH) : Prop := r' = jr0 ∧ jfr w_X7_standAt h g ∧ v = none ∧ (jSAp a1 h g)
set_option maxHeartbeats 4000000 in
theorem c_X7_standAt {E : JE} {l : Launch} (a1 : Int) (h : JH) (p1 : 0 ≤ a1 ∧ a1 ≤ 2000) : jMt E l 140 [.inr (.inr (.inl 111)), .inl a1, .inr (.inr (.inl 2)), .inr (.inr (.inl 11))] 229 jr0 h (k_X7_standAt a1 h) := by
  refine jMt0 (nL := 6) (ls := [.inr (.inr (.inl 111)), .inl a1, .inr (.inr (.inl 2)), .inr (.inr (.inl 11)), .inr (.inr (.inr ())), .inr (.inr (.inr ()))]) (by decide +kernel) (by decide +kernel) (by decide +kernel) rfl rfl ?_
  have f0 : jfr w_X7_standAt h h := jfr_rf _ _
  have key : ∀ N : Nat, (∀ (x4 : Int) (x5 : JV) (g : JH), (0 ≤ x4 ∧ x4 ≤ 300) → (jSt1 a1 x4 h g) → (jSt2 x4 0 g) → (g 111 3 = a1 ∧ x4 ≤ 300) → jfr w_X7_standAt h g → (300 - x4) * 1000000 + 999999 < (N : Int) → jGo E l 140 229 229 (jRK (k_X7_standAt a1 h)) 28 [.inr (.inr (.inl 111)), .inl a1, .inr (.inr (.inl 2)), .inr (.inr (.inl 11)), .inl x4, x5] [] 229 jr0 g) ∧
      (∀ (x4 : Int) (x5 : Int) (g : JH), (0 ≤ x4 ∧ x4 ≤ 299 ∧ 0 ≤ x5 ∧ x5 ≤ 4) → (jSt1 a1 (x4 + 1) h g) → (jSt2 x4 x5 g) → (g 111 3 = a1 ∧ x5 ≤ 4) → jfr w_X7_standAt h g → (300 - x4) * 1000000 + (4 - x5) < (N : Int) → jGo E l 140 229 229 (jRK (k_X7_standAt a1 h)) 59 [.inr (.inr (.inl 111)), .inl a1, .inr (.inr (.inl 2)), .inr (.inr (.inl 11)), .inl x4, .inl x5] [] 229 jr0 g) := by
    intro N
    induction N with
    | zero => exact ⟨fun _ _ _ hi hx0 hx1 hx2 _ hN => absurd hN (by omega), fun _ _ _ hi hx0 hx1 hx2 _ hN => absurd hN (by omega)⟩
    | succ N ih =>
      refine ⟨?_, ?_⟩
      · intro x4 x5 g hi hx0 hx1 hx2 hf hN
        refine jGo_blk qX7_standAt_28 ?_
        refine And.intro (fun c1 => ?_) (fun c1 => ?_)
        · replace c1 : 300 ≤ x4 := c1
          show jGo E l 140 229 229 _ 117 [.inr (.inr (.inl 111)), .inl a1, .inr (.inr (.inl 2)), .inr (.inr (.inl 11)), .inl x4, x5] [] 229 jr0 g
          refine jGo_blk qX7_standAt_117 ?_
          refine st_pi jo_111 (fun hx => (jbf_7_9 jo_111 _).2 (show 0 ≤ 1 ∧ 1 ≤ 1 by omega)) (fun g2 eg2 => ?_)
          replace eg2 : g2 = jup g 111 9 1 := eg2
          have fg2 : jfr w_X7_standAt h g2 := jfr_up hf eg2 (by unfold w_X7_standAt; omega)
          have e3 : g2 111 9 = 1 := jup_s eg2
          have hc4 := hx0; rw [show x4 = 300 by omega] at hc4
          have hc5 := hx1; rw [show x4 = 300 by omega] at hc5
          exact ⟨rfl, rfl, fg2, rfl, (by exact Or.inr ⟨jup_s eg2, ((jup_o eg2 (by first | exact fun q => absurd q.1 (by decide) | exact fun q => absurd q.2 (by decide) | omega))).trans hx2.1, jSt1_fr (fun i k q => (jup_o eg2 (by first | exact fun q => absurd q.1 (by decide) | exact fun q => absurd q.2 (by decide) | omega))) hc4, jSt2_fr (fun i k q1 q2 => (jup_o eg2 (by first | exact fun q => absurd q.1 (by decide) | exact fun q => absurd q.2 (by decide) | omega))) hc5⟩)⟩
        · replace c1 : x4 < 300 := by first | exact c1 | exact Int.not_le.mp c1 | exact Int.not_lt.mp c1 | exact Decidable.not_not.mp c1
          refine st_gr jo_111 jr_111_4 ?_
          refine st_gi jo_111 (fun v6 ev6 b7 => ?_)
          replace ev6 : v6 = g 111 3 := ev6
          replace b7 := (jbf_7_3 jo_111 _).1 b7
          have e8 : jw32 (v6 + 1) = v6 + 1 := jzj32 (by omega)
          have e9 : jw32 ((jw32 (v6 + 1)) + x4) = (jw32 (v6 + 1)) + x4 := jzj32 (by omega)
          refine st_cv (na := 4) (st := [.inr (.inr (.inl 11)), .inr (.inr (.inl 2)), .inl (jw32 ((jw32 (v6 + 1)) + x4)), .inl x4, .inr (.inr (.inl 113))]) jo_113 rfl rfl rfl (c_X0_write_113 x4 (jw32 ((jw32 (v6 + 1)) + x4)) g (by omega) (by omega)) rfl ?_
          rintro _ _ g11 ⟨rfl, ft10, rfl, zt10⟩ kt10
          have fg11 : jfr w_X7_standAt h g11 := jfr_tr hf ft10 ws_X0_write_113__X7_standAt
          replace zt10 : jWri 114 x4 (jw32 ((jw32 (v6 + 1)) + x4)) g g11 := zt10
          show jGo E l 140 229 229 _ 59 [.inr (.inr (.inl 111)), .inl a1, .inr (.inr (.inl 2)), .inr (.inr (.inl 11)), .inl x4, .inl 0] [] 229 jr0 g11
          have w9 := zt10; rw [show jw32 ((jw32 (v6 + 1)) + x4) = a1 + 1 + x4 by omega] at w9
          have e13 : g11 111 3 = g 111 3 := ft10 111 3 (by unfold w_X0_write_113; omega)
          exact ih.2 x4 0 g11 (by omega) (by exact jSt1_w hx0 (by omega) (by omega) (fun i k q => hf i k (by unfold w_X7_standAt; omega)) w9 (fun i k q1 q2 => (ft10 i k (by unfold w_X0_write_113; omega))) ((ft10 11 0 (by unfold w_X0_write_113; omega)))) (by exact jSt2_w w9 (fun c => (ft10 118 c (by unfold w_X0_write_113; omega))) hx1) (by exact ⟨((ft10 111 3 (by unfold w_X0_write_113; omega))).trans hx2.1, by omega⟩) fg11 (by omega)
      · intro x4 x5 g hi hx0 hx1 hx2 hf hN
        refine jGo_blk qX7_standAt_59 ?_
        refine And.intro (fun c14 => ?_) (fun c14 => ?_)
        · replace c14 : 4 ≤ x5 := c14
          show jGo E l 140 229 229 _ 111 [.inr (.inr (.inl 111)), .inl a1, .inr (.inr (.inl 2)), .inr (.inr (.inl 11)), .inl x4, .inl x5] [] 229 jr0 g
          refine jGo_blk qX7_standAt_111 ?_
          have e15 : jw32 (x4 + 1) = x4 + 1 := jzj32 (by omega)
          show jGo E l 140 229 229 _ 28 [.inr (.inr (.inl 111)), .inl a1, .inr (.inr (.inl 2)), .inr (.inr (.inl 11)), .inl (jw32 (x4 + 1)), .inl x5] [] 229 jr0 g
          exact ih.1 (jw32 (x4 + 1)) (.inl x5) g (by omega) (by rw [show jw32 (x4 + 1) = x4 + 1 by omega]; exact hx0) (by rw [show jw32 (x4 + 1) = x4 + 1 by omega]; have y9 := hx1; rw [show x5 = 4 by omega] at y9; exact jSt2_e y9) (by exact ⟨hx2.1, by omega⟩) hf (by omega)
        · replace c14 : x5 < 4 := by first | exact c14 | exact Int.not_le.mp c14 | exact Int.not_lt.mp c14 | exact Decidable.not_not.mp c14
          refine st_gr jo_111 jr_111_4 ?_
          refine st_gr jo_113 jr_113_1 ?_
          refine st_ai jo_115 (show 0 ≤ x4 by omega) (show x4 < ((300 : Nat) : Int) by omega) (fun v16 ev16 b17 => ?_)
          replace ev16 : v16 = g 115 x4 := ev16
          replace b17 := (jba_115 x4 _).1 b17
          refine And.intro (fun c18 => ?_) (fun c18 => ?_)
          · replace c18 : v16 ≤ 0 := c18
            show jGo E l 140 229 229 _ 105 [.inr (.inr (.inl 111)), .inl a1, .inr (.inr (.inl 2)), .inr (.inr (.inl 11)), .inl x4, .inl x5] [] 229 jr0 g
            refine jGo_blk qX7_standAt_105 ?_
            have e19 : jw32 (x5 + 1) = x5 + 1 := jzj32 (by omega)
            show jGo E l 140 229 229 _ 59 [.inr (.inr (.inl 111)), .inl a1, .inr (.inr (.inl 2)), .inr (.inr (.inl 11)), .inl x4, .inl (jw32 (x5 + 1))] [] 229 jr0 g
            exact ih.2 x4 (jw32 (x5 + 1)) g (by omega) (by exact hx0) (by rw [show jw32 (x5 + 1) = x5 + 1 by omega]; exact jSt2_n (Or.inl (by omega)) hx1) (by exact ⟨hx2.1, by omega⟩) hf (by omega)
          · replace c18 : 0 < v16 := by first | exact c18 | exact Int.not_le.mp c18 | exact Int.not_lt.mp c18 | exact Decidable.not_not.mp c18
            refine st_gr jo_111 jr_111_4 ?_
            refine st_gr jo_113 jr_113_0 ?_
            have e20 : jw32 (x4 * 4) = x4 * 4 := jzj32 (by omega)
            have e21 : jw32 ((jw32 (x4 * 4)) + x5) = (jw32 (x4 * 4)) + x5 := jzj32 (by omega)
            refine st_ai jo_114 (show 0 ≤ jw32 ((jw32 (x4 * 4)) + x5) by omega) (show jw32 ((jw32 (x4 * 4)) + x5) < ((1200 : Nat) : Int) by omega) (fun v22 ev22 b23 => ?_)
            replace ev22 : v22 = g 114 (jw32 ((jw32 (x4 * 4)) + x5)) := ev22
            replace b23 := (jba_114 (jw32 ((jw32 (x4 * 4)) + x5)) _).1 b23
            refine And.intro (fun c24 => ?_) (fun c24 => ?_)
            · replace c24 : v22 ≤ 0 := c24
              show jGo E l 140 229 229 _ 105 [.inr (.inr (.inl 111)), .inl a1, .inr (.inr (.inl 2)), .inr (.inr (.inl 11)), .inl x4, .inl x5] [] 229 jr0 g
              refine jGo_blk qX7_standAt_105 ?_
              have e25 : jw32 (x5 + 1) = x5 + 1 := jzj32 (by omega)
              show jGo E l 140 229 229 _ 59 [.inr (.inr (.inl 111)), .inl a1, .inr (.inr (.inl 2)), .inr (.inr (.inl 11)), .inl x4, .inl (jw32 (x5 + 1))] [] 229 jr0 g
              exact ih.2 x4 (jw32 (x5 + 1)) g (by omega) (by exact hx0) (by rw [show jw32 (x5 + 1) = x5 + 1 by omega]; exact jSt2_n (Or.inr (by rw [show x4 * 4 + x5 = jw32 ((jw32 (x4 * 4)) + x5) by omega]; omega)) hx1) (by exact ⟨hx2.1, by omega⟩) hf (by omega)
            · replace c24 : 0 < v22 := by first | exact c24 | exact Int.not_le.mp c24 | exact Int.not_lt.mp c24 | exact Decidable.not_not.mp c24
              refine st_gr jo_111 jr_111_5 ?_
              refine st_si jo_118 (show 0 ≤ x5 by omega) (show x5 < ((4 : Nat) : Int) by omega) (fun hx => (jba_118 _ _).2 (show -1 ≤ x4 ∧ x4 ≤ 299 by omega)) (fun g26 eg26 => ?_)
              replace eg26 : g26 = jup g 118 x5 x4 := eg26
              have fg26 : jfr w_X7_standAt h g26 := jfr_up hf eg26 (by unfold w_X7_standAt; omega)
              have e27 : g26 118 x5 = x4 := jup_s eg26
              show jGo E l 140 229 229 _ 105 [.inr (.inr (.inl 111)), .inl a1, .inr (.inr (.inl 2)), .inr (.inr (.inl 11)), .inl x4, .inl x5] [] 229 jr0 g26
              refine jGo_blk qX7_standAt_105 ?_
              have e28 : jw32 (x5 + 1) = x5 + 1 := jzj32 (by omega)
              show jGo E l 140 229 229 _ 59 [.inr (.inr (.inl 111)), .inl a1, .inr (.inr (.inl 2)), .inr (.inr (.inl 11)), .inl x4, .inl (jw32 (x5 + 1))] [] 229 jr0 g26
              have e29 : g26 111 3 = g 111 3 := jup_o eg26 (by first | exact fun q => absurd q.1 (by decide) | exact fun q => absurd q.2 (by decide) | omega)
              exact ih.2 x4 (jw32 (x5 + 1)) g26 (by omega) (by exact jSt1_fr (fun i k q => (jup_o eg26 (by first | exact fun q => absurd q.1 (by decide) | exact fun q => absurd q.2 (by decide) | omega))) hx0) (by rw [show jw32 (x5 + 1) = x5 + 1 by omega]; exact jSt2_y eg26 (by omega) hx1) (by exact ⟨((jup_o eg26 (by first | exact fun q => absurd q.1 (by decide) | exact fun q => absurd q.2 (by decide) | omega))).trans hx2.1, by omega⟩) fg26 (by omega)
  refine jGo_blk qX7_standAt_0 ?_
  refine st_gi jo_111 (fun v30 ev30 b31 => ?_)
  replace ev30 : v30 = h 111 9 := ev30
  replace b31 := (jbf_7_9 jo_111 _).1 b31
  refine And.intro (fun c32 => ?_) (fun c32 => ?_)
  · replace c32 : v30 = 0 := c32
    show jGo E l 140 229 229 _ 8 [.inr (.inr (.inl 111)), .inl a1, .inr (.inr (.inl 2)), .inr (.inr (.inl 11)), .inr (.inr (.inr ())), .inr (.inr (.inr ()))] [] 229 jr0 h
    refine jGo_blk qX7_standAt_8 ?_
    refine st_pi jo_111 (fun hx => (jbf_7_3 jo_111 _).2 (show 0 ≤ a1 ∧ a1 ≤ 2000 by omega)) (fun g33 eg33 => ?_)
    replace eg33 : g33 = jup h 111 3 a1 := eg33
    have fg33 : jfr w_X7_standAt h g33 := jfr_up f0 eg33 (by unfold w_X7_standAt; omega)
    have e34 : g33 111 3 = a1 := jup_s eg33
    refine st_cv (na := 0) (st := [.inr (.inr (.inl 11))]) jo_11 rfl rfl rfl (c_X2_rewind g33) rfl ?_
    rintro _ _ g36 ⟨rfl, ft35, rfl, zt35⟩ kt35
    have fg36 : jfr w_X7_standAt h g36 := jfr_tr fg33 ft35 ws_X2_rewind__X7_standAt
    replace zt35 : (∀ t : Int, 0 ≤ t → t ≤ 9 → g36 15 t = if t = 9 then 60 else 0) ∧ g36 11 5 = 0 := zt35
    refine st_gr jo_111 jr_111_5 ?_
    refine st_cs (na := 2) (st := [.inl (-1), .inr (.inr (.inl 118))]) rfl rfl rfl (c_fill 118 (-1) g36 jo_118 (by decide) (fun k hx => (jba_118 _ _).2 (by omega))) rfl ?_
    rintro _ _ g38 ⟨rfl, ft37, rfl, zt37⟩ kt37
    have fg38 : jfr w_X7_standAt h g38 := jfr_tr fg36 ft37 (fun i k q => by unfold w_fill at q; unfold w_X7_standAt; omega)
    show jGo E l 140 229 229 _ 28 [.inr (.inr (.inl 111)), .inl a1, .inr (.inr (.inl 2)), .inr (.inr (.inl 11)), .inl 0, .inr (.inr (.inr ()))] [] 229 jr0 g38
    refine jGo_bd (fun hbd40 => ?_)
    have hc39 : jSt1 a1 0 h g38 := by
      refine jSt1_0 ⟨fun t p1 p2 => ((ft37 15 t (by unfold w_fill; omega))).trans (zt35.1 t p1 p2), ((ft37 11 5 (by unfold w_fill; omega))).trans zt35.2⟩ ((jbf_2_0 jo_11 _).1 (hbd40 11 0)).1
    have e41 : g38 111 3 = g36 111 3 := ft37 111 3 (by unfold w_fill; omega)
    have e42 : g36 111 3 = g33 111 3 := ft35 111 3 (by unfold w_X2_rewind; omega)
    exact (key 1000000000000000000).1 0 (.inr (.inr (.inr ()))) g38 (by omega) (by exact hc39) (by exact jSt2_0) (by exact ⟨(((ft37 111 3 (by unfold w_fill; omega)).trans (ft35 111 3 (by unfold w_X2_rewind; omega)))).trans (jup_s eg33), by omega⟩) fg38 (by omega)
  · replace c32 : ¬ v30 = 0 := by first | exact c32 | exact Int.not_le.mp c32 | exact Int.not_lt.mp c32 | exact Decidable.not_not.mp c32
    exact ⟨rfl, rfl, f0, rfl, (by exact Or.inl ⟨by omega, fun i k => rfl⟩)⟩

def w_X4_become (a0 : Int) (a1 : Int) (i k : Int) : Prop := (a0 + 0 ≤ i ∧ i ≤ a0 + 0) ∨ (a0 + 1 ≤ i ∧ i ≤ a0 + 1) ∨ (a0 + 2 ≤ i ∧ i ≤ a0 + 2)
def k_X4_become (a0 : Int) (a1 : Int) (h : JH) (v : Option JV) (r' g : JH) : Prop := r' = jr0 ∧ jfr (w_X4_become a0 a1) h g ∧ v = none ∧ ((∀ f : Int, 0 ≤ f → f ≤ 9 → g a0 f = h a1 f) ∧ (∀ f : Int, 0 ≤ f → f < 6 → g (a0 + 1) f = h (a1 + 1) f ∧ g (a0 + 2) f = h (a1 + 2) f))
set_option maxHeartbeats 4000000 in
theorem c_X4_become {E : JE} {l : Launch} (a0 : Int) (a1 : Int) (h : JH) (ha0 : jHl a0) (ha1 : jHl a1) (q0 : a1 + 2 < a0) : jMt E l 141 [.inr (.inr (.inl a0)), .inr (.inr (.inl a1))] 229 jr0 h (k_X4_become a0 a1 h) := by
  refine jMt0 (nL := 2) (ls := [.inr (.inr (.inl a0)), .inr (.inr (.inl a1))]) (by decide +kernel) (by decide +kernel) (by decide +kernel) rfl rfl ?_
  have f0 : jfr (w_X4_become a0 a1) h h := jfr_rf _ _
  refine jGo_blk qX4_become_0 ?_
  refine st_gi ha1.1 (fun v1 ev1 b2 => ?_)
  replace ev1 : v1 = h a1 0 := ev1
  replace b2 := (jbf_4_0 ha1.1 _).1 b2
  refine st_gi ha1.1 (fun v3 ev3 b4 => ?_)
  replace ev3 : v3 = h a1 1 := ev3
  replace b4 := (jbf_4_1 ha1.1 _).1 b4
  refine st_gi ha1.1 (fun v5 ev5 b6 => ?_)
  replace ev5 : v5 = h a1 2 := ev5
  replace b6 := (jbf_4_2 ha1.1 _).1 b6
  refine st_cv (na := 3) (st := [.inl v5, .inl v3, .inl v1, .inr (.inr (.inl a0))]) ha0.1 rfl rfl rfl (c_X4_begin a0 v1 v3 v5 h ha0 (by omega) (by omega) (by omega)) rfl ?_
  rintro _ _ g8 ⟨rfl, ft7, rfl, zt7⟩ kt7
  have fg8 : jfr (w_X4_become a0 a1) h g8 := jfr_tr f0 ft7 (fun i k q => by unfold w_X4_begin at q; unfold w_X4_become; omega)
  replace zt7 : g8 = jBgn a0 v1 v3 v5 h := zt7
  refine st_gi ha1.1 (fun v9 ev9 b10 => ?_)
  replace ev9 : v9 = g8 a1 3 := ev9
  replace b10 := (jbf_4_3 ha1.1 _).1 b10
  refine st_pi ha0.1 (fun hx => (jbf_4_3 ha0.1 _).2 (show 0 ≤ v9 ∧ v9 ≤ 3 by omega)) (fun g11 eg11 => ?_)
  replace eg11 : g11 = jup g8 a0 3 v9 := eg11
  have fg11 : jfr (w_X4_become a0 a1) h g11 := jfr_up fg8 eg11 (by unfold w_X4_become; omega)
  have e12 : g11 a0 3 = v9 := jup_s eg11
  refine st_gi ha1.1 (fun v13 ev13 b14 => ?_)
  replace ev13 : v13 = g11 a1 4 := ev13
  replace b14 := (jbf_4_4 ha1.1 _).1 b14
  refine st_pi ha0.1 (fun hx => (jbf_4_4 ha0.1 _).2 (show -9 ≤ v13 ∧ v13 ≤ 5 by omega)) (fun g15 eg15 => ?_)
  replace eg15 : g15 = jup g11 a0 4 v13 := eg15
  have fg15 : jfr (w_X4_become a0 a1) h g15 := jfr_up fg11 eg15 (by unfold w_X4_become; omega)
  have e16 : g15 a0 4 = v13 := jup_s eg15
  refine st_gi ha1.1 (fun v17 ev17 b18 => ?_)
  replace ev17 : v17 = g15 a1 5 := ev17
  replace b18 := (jbf_4_5 ha1.1 _).1 b18
  refine st_pi ha0.1 (fun hx => (jbf_4_5 ha0.1 _).2 (show 0 ≤ v17 ∧ v17 ≤ 3 by omega)) (fun g19 eg19 => ?_)
  replace eg19 : g19 = jup g15 a0 5 v17 := eg19
  have fg19 : jfr (w_X4_become a0 a1) h g19 := jfr_up fg15 eg19 (by unfold w_X4_become; omega)
  have e20 : g19 a0 5 = v17 := jup_s eg19
  refine st_gi ha1.1 (fun v21 ev21 b22 => ?_)
  replace ev21 : v21 = g19 a1 6 := ev21
  replace b22 := (jbf_4_6 ha1.1 _).1 b22
  refine st_pi ha0.1 (fun hx => (jbf_4_6 ha0.1 _).2 hx) (fun g23 eg23 => ?_)
  replace eg23 : g23 = jup g19 a0 6 v21 := eg23
  have fg23 : jfr (w_X4_become a0 a1) h g23 := jfr_up fg19 eg23 (by unfold w_X4_become; omega)
  have e24 : g23 a0 6 = v21 := jup_s eg23
  refine st_gi ha1.1 (fun v25 ev25 b26 => ?_)
  replace ev25 : v25 = g23 a1 7 := ev25
  replace b26 := (jbf_4_7 ha1.1 _).1 b26
  refine st_pi ha0.1 (fun hx => (jbf_4_7 ha0.1 _).2 (show 0 ≤ v25 ∧ v25 ≤ 1 by omega)) (fun g27 eg27 => ?_)
  replace eg27 : g27 = jup g23 a0 7 v25 := eg27
  have fg27 : jfr (w_X4_become a0 a1) h g27 := jfr_up fg23 eg27 (by unfold w_X4_become; omega)
  have e28 : g27 a0 7 = v25 := jup_s eg27
  refine st_gi ha1.1 (fun v29 ev29 b30 => ?_)
  replace ev29 : v29 = g27 a1 8 := ev29
  replace b30 := (jbf_4_8 ha1.1 _).1 b30
  refine st_pi ha0.1 (fun hx => (jbf_4_8 ha0.1 _).2 hx) (fun g31 eg31 => ?_)
  replace eg31 : g31 = jup g27 a0 8 v29 := eg31
  have fg31 : jfr (w_X4_become a0 a1) h g31 := jfr_up fg27 eg31 (by unfold w_X4_become; omega)
  have e32 : g31 a0 8 = v29 := jup_s eg31
  refine st_gi ha1.1 (fun v33 ev33 b34 => ?_)
  replace ev33 : v33 = g31 a1 9 := ev33
  replace b34 := (jbf_4_9 ha1.1 _).1 b34
  refine st_pi ha0.1 (fun hx => (jbf_4_9 ha0.1 _).2 hx) (fun g35 eg35 => ?_)
  replace eg35 : g35 = jup g31 a0 9 v33 := eg35
  have fg35 : jfr (w_X4_become a0 a1) h g35 := jfr_up fg31 eg35 (by unfold w_X4_become; omega)
  have e36 : g35 a0 9 = v33 := jup_s eg35
  refine st_gi ha1.1 (fun v37 ev37 b38 => ?_)
  replace ev37 : v37 = g35 a1 10 := ev37
  replace b38 := (jbf_4_10 ha1.1 _).1 b38
  refine st_pi ha0.1 (fun hx => (jbf_4_10 ha0.1 _).2 (show 0 ≤ v37 ∧ v37 ≤ 1 by omega)) (fun g39 eg39 => ?_)
  replace eg39 : g39 = jup g35 a0 10 v37 := eg39
  have fg39 : jfr (w_X4_become a0 a1) h g39 := jfr_up fg35 eg39 (by unfold w_X4_become; omega)
  have e40 : g39 a0 10 = v37 := jup_s eg39
  refine st_gr ha1.1 rfl ?_
  refine st_gr ha0.1 rfl ?_
  refine st_cp ha0.2.1 ha1.2.1 (show 0 ≤ 0 by omega) (show 0 ≤ 0 by omega) (show 0 ≤ 6 by omega) (show 0 + 6 ≤ ((6 : Nat) : Int) by omega) (show 0 + 6 ≤ ((6 : Nat) : Int) by omega) rfl (fun hg j _ _ => (ha0.2.2.2.2.2.1 _ _).2 (jbd_int (by rw [ha1.2.1.2.2]; decide) (hg _ _))) (fun g41 eg41 => ?_)
  replace eg41 : g41 = jcp g39 (jr0 a1 11) 0 (jr0 a0 11) 0 6 := eg41
  have fg41 : jfr (w_X4_become a0 a1) h g41 := jfr_cp fg39 eg41 (fun _ => by have q9 := ha0.2.2.2.1; have q8 := ha0.2.2.2.2.1; unfold w_X4_become; omega)
  refine st_gr ha1.1 rfl ?_
  refine st_gr ha0.1 rfl ?_
  refine st_cp ha0.2.2.1 ha1.2.2.1 (show 0 ≤ 0 by omega) (show 0 ≤ 0 by omega) (show 0 ≤ 6 by omega) (show 0 + 6 ≤ ((6 : Nat) : Int) by omega) (show 0 + 6 ≤ ((6 : Nat) : Int) by omega) rfl (fun hg j _ _ => (ha0.2.2.2.2.2.2 _ _).2 (jbd_int (by rw [ha1.2.2.1.2.2]; decide) (hg _ _))) (fun g42 eg42 => ?_)
  replace eg42 : g42 = jcp g41 (jr0 a1 12) 0 (jr0 a0 12) 0 6 := eg42
  have fg42 : jfr (w_X4_become a0 a1) h g42 := jfr_cp fg41 eg42 (fun _ => by have q9 := ha0.2.2.2.1; have q8 := ha0.2.2.2.2.1; unfold w_X4_become; omega)
  have hc43 : (∀ f : Int, 0 ≤ f → f ≤ 9 → g42 a0 f = h a1 f) ∧ (∀ f : Int, 0 ≤ f → f < 6 → g42 (a0 + 1) f = h (a1 + 1) f ∧ g42 (a0 + 2) f = h (a1 + 2) f) := by
    have n1 := ha0.2.2.2.1; have n2 := ha0.2.2.2.2.1; have m1 := ha1.2.2.2.1; have m2 := ha1.2.2.2.2.1
    refine ⟨fun f p1 p2 => ?_, fun f p1 p2 => ⟨?_, ?_⟩⟩
    · rw [jcp_o eg42 (by omega), jcp_o eg41 (by omega)]
      rcases (show f = 0 ∨ f = 1 ∨ f = 2 ∨ f = 3 ∨ f = 4 ∨ f = 5 ∨ f = 6 ∨ f = 7 ∨ f = 8 ∨ f = 9 by omega) with rfl | rfl | rfl | rfl | rfl | rfl | rfl | rfl | rfl | rfl
      · exact (((jup_o eg39 (by first | exact fun q => absurd q.1 (by decide) | exact fun q => absurd q.2 (by decide) | omega)).trans ((jup_o eg35 (by first | exact fun q => absurd q.1 (by decide) | exact fun q => absurd q.2 (by decide) | omega)).trans ((jup_o eg31 (by first | exact fun q => absurd q.1 (by decide) | exact fun q => absurd q.2 (by decide) | omega)).trans ((jup_o eg27 (by first | exact fun q => absurd q.1 (by decide) | exact fun q => absurd q.2 (by decide) | omega)).trans ((jup_o eg23 (by first | exact fun q => absurd q.1 (by decide) | exact fun q => absurd q.2 (by decide) | omega)).trans ((jup_o eg19 (by first | exact fun q => absurd q.1 (by decide) | exact fun q => absurd q.2 (by decide) | omega)).trans ((jup_o eg15 (by first | exact fun q => absurd q.1 (by decide) | exact fun q => absurd q.2 (by decide) | omega)).trans (jup_o eg11 (by first | exact fun q => absurd q.1 (by decide) | exact fun q => absurd q.2 (by decide) | omega)))))))))).trans ((congrFun (congrFun zt7 a0) 0).trans (by unfold jBgn; rw [jup_ne (by omega), jup_ne (by omega), jup_ne (by omega), jup_ne (by omega), jup_ne (by omega), jup_eq]; exact ev1))
      · exact (((jup_o eg39 (by first | exact fun q => absurd q.1 (by decide) | exact fun q => absurd q.2 (by decide) | omega)).trans ((jup_o eg35 (by first | exact fun q => absurd q.1 (by decide) | exact fun q => absurd q.2 (by decide) | omega)).trans ((jup_o eg31 (by first | exact fun q => absurd q.1 (by decide) | exact fun q => absurd q.2 (by decide) | omega)).trans ((jup_o eg27 (by first | exact fun q => absurd q.1 (by decide) | exact fun q => absurd q.2 (by decide) | omega)).trans ((jup_o eg23 (by first | exact fun q => absurd q.1 (by decide) | exact fun q => absurd q.2 (by decide) | omega)).trans ((jup_o eg19 (by first | exact fun q => absurd q.1 (by decide) | exact fun q => absurd q.2 (by decide) | omega)).trans ((jup_o eg15 (by first | exact fun q => absurd q.1 (by decide) | exact fun q => absurd q.2 (by decide) | omega)).trans (jup_o eg11 (by first | exact fun q => absurd q.1 (by decide) | exact fun q => absurd q.2 (by decide) | omega)))))))))).trans ((congrFun (congrFun zt7 a0) 1).trans (by unfold jBgn; rw [jup_ne (by omega), jup_ne (by omega), jup_ne (by omega), jup_ne (by omega), jup_eq]; exact ev3))
      · exact (((jup_o eg39 (by first | exact fun q => absurd q.1 (by decide) | exact fun q => absurd q.2 (by decide) | omega)).trans ((jup_o eg35 (by first | exact fun q => absurd q.1 (by decide) | exact fun q => absurd q.2 (by decide) | omega)).trans ((jup_o eg31 (by first | exact fun q => absurd q.1 (by decide) | exact fun q => absurd q.2 (by decide) | omega)).trans ((jup_o eg27 (by first | exact fun q => absurd q.1 (by decide) | exact fun q => absurd q.2 (by decide) | omega)).trans ((jup_o eg23 (by first | exact fun q => absurd q.1 (by decide) | exact fun q => absurd q.2 (by decide) | omega)).trans ((jup_o eg19 (by first | exact fun q => absurd q.1 (by decide) | exact fun q => absurd q.2 (by decide) | omega)).trans ((jup_o eg15 (by first | exact fun q => absurd q.1 (by decide) | exact fun q => absurd q.2 (by decide) | omega)).trans (jup_o eg11 (by first | exact fun q => absurd q.1 (by decide) | exact fun q => absurd q.2 (by decide) | omega)))))))))).trans ((congrFun (congrFun zt7 a0) 2).trans (by unfold jBgn; rw [jup_ne (by omega), jup_ne (by omega), jup_ne (by omega), jup_eq]; exact ev5))
      · exact (((jup_o eg39 (by first | exact fun q => absurd q.1 (by decide) | exact fun q => absurd q.2 (by decide) | omega)).trans ((jup_o eg35 (by first | exact fun q => absurd q.1 (by decide) | exact fun q => absurd q.2 (by decide) | omega)).trans ((jup_o eg31 (by first | exact fun q => absurd q.1 (by decide) | exact fun q => absurd q.2 (by decide) | omega)).trans ((jup_o eg27 (by first | exact fun q => absurd q.1 (by decide) | exact fun q => absurd q.2 (by decide) | omega)).trans ((jup_o eg23 (by first | exact fun q => absurd q.1 (by decide) | exact fun q => absurd q.2 (by decide) | omega)).trans ((jup_o eg19 (by first | exact fun q => absurd q.1 (by decide) | exact fun q => absurd q.2 (by decide) | omega)).trans (jup_o eg15 (by first | exact fun q => absurd q.1 (by decide) | exact fun q => absurd q.2 (by decide) | omega))))))))).trans ((jup_s eg11).trans (ev9.trans (fg8 a1 3 (by unfold w_X4_become; omega))))
      · exact (((jup_o eg39 (by first | exact fun q => absurd q.1 (by decide) | exact fun q => absurd q.2 (by decide) | omega)).trans ((jup_o eg35 (by first | exact fun q => absurd q.1 (by decide) | exact fun q => absurd q.2 (by decide) | omega)).trans ((jup_o eg31 (by first | exact fun q => absurd q.1 (by decide) | exact fun q => absurd q.2 (by decide) | omega)).trans ((jup_o eg27 (by first | exact fun q => absurd q.1 (by decide) | exact fun q => absurd q.2 (by decide) | omega)).trans ((jup_o eg23 (by first | exact fun q => absurd q.1 (by decide) | exact fun q => absurd q.2 (by decide) | omega)).trans (jup_o eg19 (by first | exact fun q => absurd q.1 (by decide) | exact fun q => absurd q.2 (by decide) | omega)))))))).trans ((jup_s eg15).trans (ev13.trans (fg11 a1 4 (by unfold w_X4_become; omega))))
      · exact (((jup_o eg39 (by first | exact fun q => absurd q.1 (by decide) | exact fun q => absurd q.2 (by decide) | omega)).trans ((jup_o eg35 (by first | exact fun q => absurd q.1 (by decide) | exact fun q => absurd q.2 (by decide) | omega)).trans ((jup_o eg31 (by first | exact fun q => absurd q.1 (by decide) | exact fun q => absurd q.2 (by decide) | omega)).trans ((jup_o eg27 (by first | exact fun q => absurd q.1 (by decide) | exact fun q => absurd q.2 (by decide) | omega)).trans (jup_o eg23 (by first | exact fun q => absurd q.1 (by decide) | exact fun q => absurd q.2 (by decide) | omega))))))).trans ((jup_s eg19).trans (ev17.trans (fg15 a1 5 (by unfold w_X4_become; omega))))
      · exact (((jup_o eg39 (by first | exact fun q => absurd q.1 (by decide) | exact fun q => absurd q.2 (by decide) | omega)).trans ((jup_o eg35 (by first | exact fun q => absurd q.1 (by decide) | exact fun q => absurd q.2 (by decide) | omega)).trans ((jup_o eg31 (by first | exact fun q => absurd q.1 (by decide) | exact fun q => absurd q.2 (by decide) | omega)).trans (jup_o eg27 (by first | exact fun q => absurd q.1 (by decide) | exact fun q => absurd q.2 (by decide) | omega)))))).trans ((jup_s eg23).trans (ev21.trans (fg19 a1 6 (by unfold w_X4_become; omega))))
      · exact (((jup_o eg39 (by first | exact fun q => absurd q.1 (by decide) | exact fun q => absurd q.2 (by decide) | omega)).trans ((jup_o eg35 (by first | exact fun q => absurd q.1 (by decide) | exact fun q => absurd q.2 (by decide) | omega)).trans (jup_o eg31 (by first | exact fun q => absurd q.1 (by decide) | exact fun q => absurd q.2 (by decide) | omega))))).trans ((jup_s eg27).trans (ev25.trans (fg23 a1 7 (by unfold w_X4_become; omega))))
      · exact (((jup_o eg39 (by first | exact fun q => absurd q.1 (by decide) | exact fun q => absurd q.2 (by decide) | omega)).trans (jup_o eg35 (by first | exact fun q => absurd q.1 (by decide) | exact fun q => absurd q.2 (by decide) | omega)))).trans ((jup_s eg31).trans (ev29.trans (fg27 a1 8 (by unfold w_X4_become; omega))))
      · exact ((jup_o eg39 (by first | exact fun q => absurd q.1 (by decide) | exact fun q => absurd q.2 (by decide) | omega))).trans ((jup_s eg35).trans (ev33.trans (fg31 a1 9 (by unfold w_X4_become; omega))))
    · rw [jcp_o eg42 (by omega), show a0 + 1 = jr0 a0 11 by omega, jcp_s eg41 p1 (by omega), m1, show 0 + (f - 0) = f by omega]; exact fg39 (a1 + 1) f (by unfold w_X4_become; omega)
    · rw [show a0 + 2 = jr0 a0 12 by omega, jcp_s eg42 p1 (by omega), m2, show 0 + (f - 0) = f by omega]; exact fg41 (a1 + 2) f (by unfold w_X4_become; omega)
  exact ⟨rfl, rfl, fg42, rfl, (by exact hc43)⟩

def w_X10_become_119_29_34 (i k : Int) : Prop := (120 ≤ i ∧ i ≤ 121) ∨ (i = 124) ∨ (126 ≤ i ∧ i ≤ 173) ∨ (i = 119 ∧ k = 6)
def k_X10_become_119_29_34 (a3 : Int) (h : JH) (v : Option JV) (r' g : JH) : Prop := r' = jr0 ∧ jfr w_X10_become_119_29_34 h g ∧ v = none ∧ (jBc 34 a3 h g)
set_option maxHeartbeats 4000000 in
theorem c_X10_become_119_29_34 {E : JE} {l : Launch} (a3 : Int) (h : JH) (p3 : 0 ≤ a3 ∧ a3 ≤ 16) : jMt E l 142 [.inr (.inr (.inl 119)), .inr (.inr (.inl 29)), .inr (.inr (.inl 34)), .inl a3] 229 jr0 h (k_X10_become_119_29_34 a3 h) := by
  refine jMt0 (nL := 5) (ls := [.inr (.inr (.inl 119)), .inr (.inr (.inl 29)), .inr (.inr (.inl 34)), .inl a3, .inr (.inr (.inr ()))]) (by decide +kernel) (by decide +kernel) (by decide +kernel) rfl rfl ?_
  have f0 : jfr w_X10_become_119_29_34 h h := jfr_rf _ _
  have key : ∀ N : Nat, (∀ (x4 : Int) (g : JH), (0 ≤ x4 ∧ x4 ≤ 16) → ((∀ x : Int, 0 ≤ x → x < 6 → g 120 x = h 30 x) ∧ (∀ b : Int, 0 ≤ b → b < 6 → g 121 b = h 31 b) ∧ (∀ i : Int, 0 ≤ i → i < a3 → g 124 i = h 34 i) ∧ g 119 6 = a3) → (∀ i : Int, 0 ≤ i → i < x4 → (∀ f : Int, 0 ≤ f → f ≤ 9 → g (126 + 3 * h 34 i) f = h (36 + 3 * h 34 i) f) ∧ (∀ f : Int, 0 ≤ f → f < 6 → g (126 + 3 * h 34 i + 1) f = h (36 + 3 * h 34 i + 1) f ∧ g (126 + 3 * h 34 i + 2) f = h (36 + 3 * h 34 i + 2) f)) → (x4 ≤ a3) → jfr w_X10_become_119_29_34 h g → (16 - x4) < (N : Int) → jGo E l 142 229 229 (jRK (k_X10_become_119_29_34 a3 h)) 49 [.inr (.inr (.inl 119)), .inr (.inr (.inl 29)), .inr (.inr (.inl 34)), .inl a3, .inl x4] [] 229 jr0 g) := by
    intro N
    induction N with
    | zero => exact fun _ _ hi hx0 hx1 hx2 _ hN => absurd hN (by omega)
    | succ N ih =>
      intro x4 g hi hx0 hx1 hx2 hf hN
      refine jGo_blk qX10_become_49 ?_
      refine And.intro (fun c1 => ?_) (fun c1 => ?_)
      · replace c1 : a3 ≤ x4 := c1
        show jGo E l 142 229 229 _ 88 [.inr (.inr (.inl 119)), .inr (.inr (.inl 29)), .inr (.inr (.inl 34)), .inl a3, .inl x4] [] 229 jr0 g
        refine jGo_blk qX10_become_88 ?_
        exact ⟨rfl, rfl, hf, rfl, (by exact ⟨hx0.1, hx0.2.1, hx0.2.2.1, hx0.2.2.2, fun i p1 p2 => hx1 i p1 (by omega)⟩)⟩
      · replace c1 : x4 < a3 := by first | exact c1 | exact Int.not_le.mp c1 | exact Int.not_lt.mp c1 | exact Decidable.not_not.mp c1
        refine st_gr jo_119 jr_119_3 ?_
        refine st_gr jo_119 jr_119_5 ?_
        refine st_ai jo_124 (show 0 ≤ x4 by omega) (show x4 < ((16 : Nat) : Int) by omega) (fun v2 ev2 b3 => ?_)
        replace ev2 : v2 = g 124 x4 := ev2
        replace b3 := (jba_124 x4 _).1 b3
        refine st_ar jo_123 (by decide) (show 0 ≤ v2 by omega) (show v2 < ((16 : Nat) : Int) by omega) (fun u4 eu4 => ?_)
        replace eu4 : u4 = jr0 123 v2 := eu4
        have qu4 : u4 = 126 + 3 * v2 := eu4.trans (jhul_123 v2 (by omega) (by omega)).1
        have hu4 : jHl u4 := by rw [eu4]; exact (jhul_123 v2 (by omega) (by omega)).2
        refine st_gr jo_29 jr_29_3 ?_
        refine st_gr jo_119 jr_119_5 ?_
        refine st_ai jo_124 (show 0 ≤ x4 by omega) (show x4 < ((16 : Nat) : Int) by omega) (fun v5 ev5 b6 => ?_)
        replace ev5 : v5 = g 124 x4 := ev5
        replace b6 := (jba_124 x4 _).1 b6
        refine st_ar jo_33 (by decide) (show 0 ≤ v5 by omega) (show v5 < ((16 : Nat) : Int) by omega) (fun u7 eu7 => ?_)
        replace eu7 : u7 = jr0 33 v5 := eu7
        have qu7 : u7 = 36 + 3 * v5 := eu7.trans (jhul_33 v5 (by omega) (by omega)).1
        have hu7 : jHl u7 := by rw [eu7]; exact (jhul_33 v5 (by omega) (by omega)).2
        refine st_cv (na := 1) (st := [.inr (.inr (.inl u7)), .inr (.inr (.inl u4))]) hu4.1 rfl rfl rfl (c_X4_become u4 u7 g hu4 hu7 (by omega)) rfl ?_
        rintro _ _ g9 ⟨rfl, ft8, rfl, zt8⟩ kt8
        have fg9 : jfr w_X10_become_119_29_34 h g9 := jfr_tr hf ft8 (fun i k q => by unfold w_X4_become at q; unfold w_X10_become_119_29_34; omega)
        replace zt8 : (∀ f : Int, 0 ≤ f → f ≤ 9 → g9 u4 f = g u7 f) ∧ (∀ f : Int, 0 ≤ f → f < 6 → g9 (u4 + 1) f = g (u7 + 1) f ∧ g9 (u4 + 2) f = g (u7 + 2) f) := zt8
        have e10 : jw32 (x4 + 1) = x4 + 1 := jzj32 (by omega)
        show jGo E l 142 229 229 _ 49 [.inr (.inr (.inl 119)), .inr (.inr (.inl 29)), .inr (.inr (.inl 34)), .inl a3, .inl (jw32 (x4 + 1))] [] 229 jr0 g9
        have e11 : g9 119 6 = g 119 6 := ft8 119 6 (by unfold w_X4_become; omega)
        have hc12 : ∀ i : Int, 0 ≤ i → i < (jw32 (x4 + 1)) → (∀ f : Int, 0 ≤ f → f ≤ 9 → g9 (126 + 3 * h 34 i) f = h (36 + 3 * h 34 i) f) ∧ (∀ f : Int, 0 ≤ f → f < 6 → g9 (126 + 3 * h 34 i + 1) f = h (36 + 3 * h 34 i + 1) f ∧ g9 (126 + 3 * h 34 i + 2) f = h (36 + 3 * h 34 i + 2) f) := by
          intro i p1 p2
          have l4 := hx0.2.2.1 x4 (by omega) (by omega)
          have hR : ∀ k m : Int, 36 ≤ k → k ≤ 83 → g k m = h k m := fun k m q1 q2 => hf k m (by unfold w_X10_become_119_29_34; omega)
          by_cases y : h 34 i = v2
          · rw [y, show 126 + 3 * v2 = u4 by omega, show 36 + 3 * v2 = u7 by omega]
            exact ⟨fun f q1 q2 => (zt8.1 f q1 q2).trans (hR _ f (by omega) (by omega)), fun f q1 q2 => ⟨(zt8.2 f q1 q2).1.trans (hR _ f (by omega) (by omega)), (zt8.2 f q1 q2).2.trans (hR _ f (by omega) (by omega))⟩⟩
          · have o := hx1 i p1 (by by_cases y2 : i = x4; exact absurd (by rw [y2]; omega) y; omega)
            exact ⟨fun f q1 q2 => (ft8 _ f (by unfold w_X4_become; omega)).trans (o.1 f q1 q2), fun f q1 q2 => ⟨(ft8 _ f (by unfold w_X4_become; omega)).trans (o.2 f q1 q2).1, (ft8 _ f (by unfold w_X4_become; omega)).trans (o.2 f q1 q2).2⟩⟩
        exact ih (jw32 (x4 + 1)) g9 (by omega) (by exact ⟨fun x p1 p2 => (ft8 120 x (by unfold w_X4_become; omega)).trans (hx0.1 x p1 p2), fun b p1 p2 => (ft8 121 b (by unfold w_X4_become; omega)).trans (hx0.2.1 b p1 p2), fun i p1 p2 => (ft8 124 i (by unfold w_X4_become; omega)).trans (hx0.2.2.1 i p1 p2), (ft8 119 6 (by unfold w_X4_become; omega)).trans hx0.2.2.2⟩) (by exact hc12) (by omega) fg9 (by omega)
  refine jGo_blk qX10_become_0 ?_
  refine st_gr jo_29 jr_29_0 ?_
  refine st_gr jo_119 jr_119_0 ?_
  refine st_cp jo_120 jo_30 (show 0 ≤ 0 by omega) (show 0 ≤ 0 by omega) (show 0 ≤ 6 by omega) (show 0 + 6 ≤ ((6 : Nat) : Int) by omega) (show 0 + 6 ≤ ((6 : Nat) : Int) by omega) rfl (fun hg j _ _ => (jba_120 _ _).2 (jbd_int (by rw [jo_30.2.2]; decide) (hg _ _))) (fun g13 eg13 => ?_)
  replace eg13 : g13 = jcp h 30 0 120 0 6 := eg13
  have fg13 : jfr w_X10_become_119_29_34 h g13 := jfr_cp f0 eg13 (fun _ => by unfold w_X10_become_119_29_34; omega)
  refine st_gr jo_29 jr_29_1 ?_
  refine st_gr jo_119 jr_119_1 ?_
  refine st_cp jo_121 jo_31 (show 0 ≤ 0 by omega) (show 0 ≤ 0 by omega) (show 0 ≤ 6 by omega) (show 0 + 6 ≤ ((6 : Nat) : Int) by omega) (show 0 + 6 ≤ ((6 : Nat) : Int) by omega) rfl (fun hg j _ _ => (jba_121 _ _).2 ((jba_31 _ _).1 (hg _ _))) (fun g14 eg14 => ?_)
  replace eg14 : g14 = jcp g13 31 0 121 0 6 := eg14
  have fg14 : jfr w_X10_become_119_29_34 h g14 := jfr_cp fg13 eg14 (fun _ => by unfold w_X10_become_119_29_34; omega)
  refine st_gr jo_119 jr_119_5 ?_
  refine st_cp jo_124 jo_34 (show 0 ≤ 0 by omega) (show 0 ≤ 0 by omega) (show 0 ≤ a3 by omega) (show 0 + a3 ≤ ((16 : Nat) : Int) by omega) (show 0 + a3 ≤ ((16 : Nat) : Int) by omega) rfl (fun hg j _ _ => (jba_124 _ _).2 ((jba_34 _ _).1 (hg _ _))) (fun g15 eg15 => ?_)
  replace eg15 : g15 = jcp g14 34 0 124 0 a3 := eg15
  have fg15 : jfr w_X10_become_119_29_34 h g15 := jfr_cp fg14 eg15 (fun _ => by unfold w_X10_become_119_29_34; omega)
  refine st_pi jo_119 (fun hx => (jbf_10_6 jo_119 _).2 (show 0 ≤ a3 ∧ a3 ≤ 16 by omega)) (fun g16 eg16 => ?_)
  replace eg16 : g16 = jup g15 119 6 a3 := eg16
  have fg16 : jfr w_X10_become_119_29_34 h g16 := jfr_up fg15 eg16 (by unfold w_X10_become_119_29_34; omega)
  have e17 : g16 119 6 = a3 := jup_s eg16
  show jGo E l 142 229 229 _ 49 [.inr (.inr (.inl 119)), .inr (.inr (.inl 29)), .inr (.inr (.inl 34)), .inl a3, .inl 0] [] 229 jr0 g16
  exact (key 1000000000000) 0 g16 (by omega) (by exact ⟨fun x p1 p2 => ((((jup_o eg16 (by first | exact fun q => absurd q.1 (by decide) | exact fun q => absurd q.2 (by decide) | omega)).trans ((jcp_o eg15 (by omega)).trans (jcp_o eg14 (by omega))))).trans (jcp_s eg13 p1 (by omega))).trans (congrArg (h 30) (by omega)), fun b p1 p2 => ((((jup_o eg16 (by first | exact fun q => absurd q.1 (by decide) | exact fun q => absurd q.2 (by decide) | omega)).trans (jcp_o eg15 (by omega)))).trans ((jcp_s eg14 p1 (by omega)).trans ((jcp_o eg13 (by omega))))).trans (congrArg (h 31) (by omega)), fun i p1 p2 => (((jup_o eg16 (by first | exact fun q => absurd q.1 (by decide) | exact fun q => absurd q.2 (by decide) | omega))).trans ((jcp_s eg15 p1 (by omega)).trans (((jcp_o eg14 (by omega)).trans (jcp_o eg13 (by omega)))))).trans (congrArg (h 34) (by omega)), jup_s eg16⟩) (by exact fun i p1 p2 => absurd p2 (by omega)) (by omega) fg16 (by omega)

def w_X10_berth_119 (i k : Int) : Prop := (i = 121) ∨ (126 ≤ i ∧ i ≤ 173) ∨ (i = 119 ∧ k = 10)
def k_X10_berth_119 (a1 : Int) (a2 : Int) (h : JH) (v : Option JV) (r' g : JH) : Prop := r' = jr0 ∧ jfr w_X10_berth_119 h g ∧ v = none ∧ (g = jBrt 119 121 126 a1 a2 h)
set_option maxHeartbeats 4000000 in
theorem c_X10_berth_119 {E : JE} {l : Launch} (a1 : Int) (a2 : Int) (h : JH) (p1 : 0 ≤ a1 ∧ a1 ≤ 15) (p2 : 0 ≤ a2 ∧ a2 ≤ 5) : jMt E l 76 [.inr (.inr (.inl 119)), .inl a1, .inl a2, .inr (.inr (.inl 16))] 229 jr0 h (k_X10_berth_119 a1 a2 h) := by
  refine jMt0 (nL := 4) (ls := [.inr (.inr (.inl 119)), .inl a1, .inl a2, .inr (.inr (.inl 16))]) (by decide +kernel) (by decide +kernel) (by decide +kernel) rfl rfl ?_
  have f0 : jfr w_X10_berth_119 h h := jfr_rf _ _
  refine jGo_blk qX10_berth_0 ?_
  refine st_gr jo_119 jr_119_1 ?_
  refine st_si jo_121 (show 0 ≤ a2 by omega) (show a2 < ((6 : Nat) : Int) by omega) (fun hx => (jba_121 _ _).2 (show -2 ≤ a1 ∧ a1 ≤ 15 by omega)) (fun g1 eg1 => ?_)
  replace eg1 : g1 = jup h 121 a2 a1 := eg1
  have fg1 : jfr w_X10_berth_119 h g1 := jfr_up f0 eg1 (by unfold w_X10_berth_119; omega)
  have e2 : g1 121 a2 = a1 := jup_s eg1
  refine st_gr jo_119 jr_119_3 ?_
  refine st_ar jo_123 (by decide) (show 0 ≤ a1 by omega) (show a1 < ((16 : Nat) : Int) by omega) (fun u3 eu3 => ?_)
  replace eu3 : u3 = jr0 123 a1 := eu3
  have qu3 : u3 = 126 + 3 * a1 := eu3.trans (jhul_123 a1 (by omega) (by omega)).1
  have hu3 : jHl u3 := by rw [eu3]; exact (jhul_123 a1 (by omega) (by omega)).2
  refine st_cv (na := 2) (st := [.inr (.inr (.inl 16)), .inl a2, .inr (.inr (.inl u3))]) hu3.1 rfl rfl rfl (c_X4_enter u3 a2 g1 hu3 (by omega)) rfl ?_
  rintro _ _ g5 ⟨rfl, ft4, rfl, zt4⟩ kt4
  have fg5 : jfr w_X10_berth_119 h g5 := jfr_tr fg1 ft4 (fun i k q => by unfold w_X4_enter at q; unfold w_X10_berth_119; omega)
  replace zt4 : g5 = jEnt u3 a2 g1 := zt4
  refine st_pi jo_119 (fun hx => (jbf_10_10 jo_119 _).2 (show 0 ≤ 1 ∧ 1 ≤ 1 by omega)) (fun g6 eg6 => ?_)
  replace eg6 : g6 = jup g5 119 10 1 := eg6
  have fg6 : jfr w_X10_berth_119 h g6 := jfr_up fg5 eg6 (by unfold w_X10_berth_119; omega)
  have e7 : g6 119 10 = 1 := jup_s eg6
  exact ⟨rfl, rfl, fg6, rfl, (by subst eg6 zt4 qu3 eg1; unfold jBrt; rfl)⟩

def w_X10_moveOn_119 (i k : Int) : Prop := (i = 121) ∨ (126 ≤ i ∧ i ≤ 173) ∨ (i = 119 ∧ k = 10)
theorem ws_X10_berth_119__X10_moveOn_119 (i k : Int) (q : w_X10_berth_119 i k) : w_X10_moveOn_119 i k := by
  unfold w_X10_berth_119 at q; unfold w_X10_moveOn_119
  rcases q with q | q | q
  · exact (Or.inl (by omega))
  · exact (Or.inr (Or.inl (by omega)))
  · exact (Or.inr (Or.inr (by omega)))
def k_X10_moveOn_119 (a1 : Int) (h : JH) (v : Option JV) (r' g : JH) : Prop := r' = jr0 ∧ jfr w_X10_moveOn_119 h g ∧ ∃ x : Int, v = some (.inl x) ∧ (True) ∧ ((x = jMc 121 126 h) ∧ g = jit (jMvr 119 121 126 a1) 6 h)
set_option maxHeartbeats 4000000 in
theorem c_X10_moveOn_119 {E : JE} {l : Launch} (a1 : Int) (h : JH) : jMt E l 77 [.inr (.inr (.inl 119)), .inl a1, .inr (.inr (.inl 16))] 229 jr0 h (k_X10_moveOn_119 a1 h) := by
  refine jMt0 (nL := 6) (ls := [.inr (.inr (.inl 119)), .inl a1, .inr (.inr (.inl 16)), .inr (.inr (.inr ())), .inr (.inr (.inr ())), .inr (.inr (.inr ()))]) (by decide +kernel) (by decide +kernel) (by decide +kernel) rfl rfl ?_
  have f0 : jfr w_X10_moveOn_119 h h := jfr_rf _ _
  have key : ∀ N : Nat, (∀ (x3 : Int) (x4 : Int) (x5 : JV) (g : JH), ((-1) ≤ x4 ∧ x4 ≤ 5) → (g = jit (jMvr 119 121 126 a1) (5 - x4).toNat h) → (-1 ≤ x4 ∧ x4 ≤ 5) → ((x4 = 5 ∧ x3 = 0) ∨ (x4 < 5 ∧ x3 = jMc 121 126 h)) → jfr w_X10_moveOn_119 h g → (x4 - (-1)) < (N : Int) → jGo E l 77 229 229 (jRK (k_X10_moveOn_119 a1 h)) 5 [.inr (.inr (.inl 119)), .inl a1, .inr (.inr (.inl 16)), .inl x3, .inl x4, x5] [] 229 jr0 g) := by
    intro N
    induction N with
    | zero => exact fun _ _ _ _ hi hx0 hx1 hx2 _ hN => absurd hN (by omega)
    | succ N ih =>
      intro x3 x4 x5 g hi hx0 hx1 hx2 hf hN
      refine jGo_ok (fun hls _ => ?_)
      have rx3 : -2147483648 ≤ x3 ∧ x3 ≤ 2147483647 := hls (.inl x3) (by simp)
      refine jGo_blk qX10_moveOn_5 ?_
      refine And.intro (fun c1 => ?_) (fun c1 => ?_)
      · replace c1 : x4 < 0 := c1
        show jGo E l 77 229 229 _ 114 [.inr (.inr (.inl 119)), .inl a1, .inr (.inr (.inl 16)), .inl x3, .inl x4, x5] [] 229 jr0 g
        refine jGo_blk qX10_moveOn_114 ?_
        exact st_r0 (ls := []) ⟨rfl, rfl, hf, x3, rfl, trivial, (by refine ⟨by rcases hx2 with w | w <;> omega, ?_⟩; rw [hx0, show 5 - x4 = 6 by omega] <;> rfl)⟩
      · replace c1 : 0 ≤ x4 := by first | exact c1 | exact Int.not_le.mp c1 | exact Int.not_lt.mp c1 | exact Decidable.not_not.mp c1
        refine st_gr jo_119 jr_119_1 ?_
        refine st_ai jo_121 (show 0 ≤ x4 by omega) (show x4 < ((6 : Nat) : Int) by omega) (fun v2 ev2 b3 => ?_)
        replace ev2 : v2 = g 121 x4 := ev2
        replace b3 := (jba_121 x4 _).1 b3
        refine And.intro (fun c4 => ?_) (fun c4 => ?_)
        · replace c4 : v2 < 0 := c4
          show jGo E l 77 229 229 _ 108 [.inr (.inr (.inl 119)), .inl a1, .inr (.inr (.inl 16)), .inl x3, .inl x4, .inl v2] [] 229 jr0 g
          refine jGo_blk qX10_moveOn_108 ?_
          have e5 : jw32 (x4 + (-1)) = x4 + (-1) := jzj32 (by omega)
          show jGo E l 77 229 229 _ 5 [.inr (.inr (.inl 119)), .inl a1, .inr (.inr (.inl 16)), .inl x3, .inl (jw32 (x4 + (-1))), .inl v2] [] 229 jr0 g
          have hc6 : (jw32 (x4 + (-1)) = 5 ∧ x3 = 0) ∨ (jw32 (x4 + (-1)) < 5 ∧ x3 = jMc 121 126 h) := by
            refine Or.inr ⟨by omega, ?_⟩
            rcases hx2 with ⟨w1, w2⟩ | ⟨w1, w2⟩
            · have gh : g = h := by rw [hx0, w1]; rfl
              rw [← gh]; unfold jMc
              have e9 : g 121 5 = v2 := by rw [ev2, w1]
              rw [e9]
              first | (rw [if_pos (by omega)]; omega) | (rw [if_neg (by omega)]; omega)
            · omega
          exact ih x3 (jw32 (x4 + (-1))) (.inl v2) g (by omega) (by rw [show 5 - jw32 (x4 + (-1)) = (5 - x4) + 1 by omega, jit_s (by omega), ← hx0]; unfold jMvr; rw [show 5 - (5 - x4) = x4 by omega]; subst ev2; unfold jMv; (repeat (first | rw [if_pos (by omega)] | rw [if_neg (by omega)])); all_goals ((try rw [e5]); (try rfl))) (by omega) (by exact hc6) hf (by omega)
        · replace c4 : 0 ≤ v2 := by first | exact c4 | exact Int.not_le.mp c4 | exact Int.not_lt.mp c4 | exact Decidable.not_not.mp c4
          refine st_gr jo_119 jr_119_3 ?_
          refine st_ar jo_123 (by decide) (show 0 ≤ v2 by omega) (show v2 < ((16 : Nat) : Int) by omega) (fun u7 eu7 => ?_)
          replace eu7 : u7 = jr0 123 v2 := eu7
          have qu7 : u7 = 126 + 3 * v2 := eu7.trans (jhul_123 v2 (by omega) (by omega)).1
          have hu7 : jHl u7 := by rw [eu7]; exact (jhul_123 v2 (by omega) (by omega)).2
          refine st_cv (na := 0) (st := [.inr (.inr (.inl u7))]) hu7.1 rfl rfl rfl (c_X4_mayMoveOn u7 g hu7) rfl ?_
          rintro _ _ _ ⟨rfl, rfl, t8, rfl, ht8, zt8⟩ kt8
          replace kt8 : -2147483648 ≤ t8 ∧ t8 ≤ 2147483647 := kt8
          replace ht8 : 0 ≤ t8 ∧ t8 ≤ 1 := ht8
          replace zt8 : (t8 = 1 ∧ ¬ g u7 7 = 0 ∧ g u7 6 = 0) ∨ (t8 = 0 ∧ (g u7 7 = 0 ∨ ¬ g u7 6 = 0)) := zt8
          refine And.intro (fun c10 => ?_) (fun c10 => ?_)
          · replace c10 : ¬ t8 = 0 := c10
            show jGo E l 77 229 229 _ 40 [.inr (.inr (.inl 119)), .inl a1, .inr (.inr (.inl 16)), .inl x3, .inl x4, .inl v2] [] 229 jr0 g
            refine jGo_blk qX10_moveOn_40 ?_
            refine And.intro (fun c11 => ?_) (fun c11 => ?_)
            · replace c11 : ¬ x4 = 5 := c11
              show jGo E l 77 229 229 _ 76 [.inr (.inr (.inl 119)), .inl a1, .inr (.inr (.inl 16)), .inl x3, .inl x4, .inl v2] [] 229 jr0 g
              refine jGo_blk qX10_moveOn_76 ?_
              refine st_gr jo_119 jr_119_1 ?_
              have e12 : jw32 (x4 + 1) = x4 + 1 := jzj32 (by omega)
              refine st_ai jo_121 (show 0 ≤ jw32 (x4 + 1) by omega) (show jw32 (x4 + 1) < ((6 : Nat) : Int) by omega) (fun v13 ev13 b14 => ?_)
              replace ev13 : v13 = g 121 (jw32 (x4 + 1)) := ev13
              replace b14 := (jba_121 (jw32 (x4 + 1)) _).1 b14
              refine And.intro (fun c15 => ?_) (fun c15 => ?_)
              · replace c15 : ¬ v13 = (-1) := c15
                show jGo E l 77 229 229 _ 108 [.inr (.inr (.inl 119)), .inl a1, .inr (.inr (.inl 16)), .inl x3, .inl x4, .inl v2] [] 229 jr0 g
                refine jGo_blk qX10_moveOn_108 ?_
                have e16 : jw32 (x4 + (-1)) = x4 + (-1) := jzj32 (by omega)
                show jGo E l 77 229 229 _ 5 [.inr (.inr (.inl 119)), .inl a1, .inr (.inr (.inl 16)), .inl x3, .inl (jw32 (x4 + (-1))), .inl v2] [] 229 jr0 g
                have e17 : g 121 (jw32 (x4 + 1)) = g 121 (x4 + 1) := congrArg (g 121) (show jw32 (x4 + 1) = (x4 + 1) by omega)
                have hc18 : (jw32 (x4 + (-1)) = 5 ∧ x3 = 0) ∨ (jw32 (x4 + (-1)) < 5 ∧ x3 = jMc 121 126 h) := by
                  refine Or.inr ⟨by omega, ?_⟩
                  rcases hx2 with ⟨w1, w2⟩ | ⟨w1, w2⟩
                  · have gh : g = h := by rw [hx0, w1]; rfl
                    rw [← gh]; unfold jMc
                    have e9 : g 121 5 = v2 := by rw [ev2, w1]
                    rw [e9]
                    rw [show 126 + 3 * v2 = u7 by omega]
                    first | (rw [if_pos (by omega)]; omega) | (rw [if_neg (by omega)]; omega)
                  · omega
                exact ih x3 (jw32 (x4 + (-1))) (.inl v2) g (by omega) (by rw [show 5 - jw32 (x4 + (-1)) = (5 - x4) + 1 by omega, jit_s (by omega), ← hx0]; unfold jMvr; rw [show 5 - (5 - x4) = x4 by omega]; subst ev13 qu7 ev2; unfold jMv; (repeat (first | rw [if_pos (by omega)] | rw [if_neg (by omega)])); all_goals ((try rw [e16]); (try rw [e12]); (try rfl))) (by omega) (by exact hc18) hf (by omega)
              · replace c15 : v13 = (-1) := by first | exact c15 | exact Int.not_le.mp c15 | exact Int.not_lt.mp c15 | exact Decidable.not_not.mp c15
                refine st_gr jo_119 jr_119_1 ?_
                refine st_si jo_121 (show 0 ≤ x4 by omega) (show x4 < ((6 : Nat) : Int) by omega) (fun hx => (jba_121 _ _).2 (show -2 ≤ (-1) ∧ (-1) ≤ 15 by omega)) (fun g19 eg19 => ?_)
                replace eg19 : g19 = jup g 121 x4 (-1) := eg19
                have fg19 : jfr w_X10_moveOn_119 h g19 := jfr_up hf eg19 (by unfold w_X10_moveOn_119; omega)
                have e20 : g19 121 x4 = (-1) := jup_s eg19
                have e21 : jw32 (x4 + 1) = x4 + 1 := jzj32 (by omega)
                refine st_cv (na := 3) (st := [.inr (.inr (.inl 16)), .inl (jw32 (x4 + 1)), .inl v2, .inr (.inr (.inl 119))]) jo_119 rfl rfl rfl (c_X10_berth_119 v2 (jw32 (x4 + 1)) g19 (by omega) (by omega)) rfl ?_
                rintro _ _ g23 ⟨rfl, ft22, rfl, zt22⟩ kt22
                have fg23 : jfr w_X10_moveOn_119 h g23 := jfr_tr fg19 ft22 ws_X10_berth_119__X10_moveOn_119
                replace zt22 : g23 = jBrt 119 121 126 v2 (jw32 (x4 + 1)) g19 := zt22
                show jGo E l 77 229 229 _ 108 [.inr (.inr (.inl 119)), .inl a1, .inr (.inr (.inl 16)), .inl x3, .inl x4, .inl v2] [] 229 jr0 g23
                refine jGo_blk qX10_moveOn_108 ?_
                have e24 : jw32 (x4 + (-1)) = x4 + (-1) := jzj32 (by omega)
                show jGo E l 77 229 229 _ 5 [.inr (.inr (.inl 119)), .inl a1, .inr (.inr (.inl 16)), .inl x3, .inl (jw32 (x4 + (-1))), .inl v2] [] 229 jr0 g23
                have e25 : g 121 (jw32 (x4 + 1)) = g 121 (x4 + 1) := congrArg (g 121) (show jw32 (x4 + 1) = (x4 + 1) by omega)
                have hc26 : (jw32 (x4 + (-1)) = 5 ∧ x3 = 0) ∨ (jw32 (x4 + (-1)) < 5 ∧ x3 = jMc 121 126 h) := by
                  refine Or.inr ⟨by omega, ?_⟩
                  rcases hx2 with ⟨w1, w2⟩ | ⟨w1, w2⟩
                  · have gh : g = h := by rw [hx0, w1]; rfl
                    rw [← gh]; unfold jMc
                    have e9 : g 121 5 = v2 := by rw [ev2, w1]
                    rw [e9]
                    rw [show 126 + 3 * v2 = u7 by omega]
                    first | (rw [if_pos (by omega)]; omega) | (rw [if_neg (by omega)]; omega)
                  · omega
                exact ih x3 (jw32 (x4 + (-1))) (.inl v2) g23 (by omega) (by rw [show 5 - jw32 (x4 + (-1)) = (5 - x4) + 1 by omega, jit_s (by omega), ← hx0]; unfold jMvr; rw [show 5 - (5 - x4) = x4 by omega]; subst zt22 eg19 ev13 qu7 ev2; unfold jMv; (repeat (first | rw [if_pos (by omega)] | rw [if_neg (by omega)])); all_goals ((try rw [e24]); (try rw [e21]); (try rw [e12]); (try rfl))) (by omega) (by exact hc26) fg23 (by omega)
            · replace c11 : x4 = 5 := by first | exact c11 | exact Int.not_le.mp c11 | exact Int.not_lt.mp c11 | exact Decidable.not_not.mp c11
              refine st_gr jo_119 jr_119_1 ?_
              refine st_si jo_121 (show 0 ≤ x4 by omega) (show x4 < ((6 : Nat) : Int) by omega) (fun hx => (jba_121 _ _).2 (show -2 ≤ (-1) ∧ (-1) ≤ 15 by omega)) (fun g27 eg27 => ?_)
              replace eg27 : g27 = jup g 121 x4 (-1) := eg27
              have fg27 : jfr w_X10_moveOn_119 h g27 := jfr_up hf eg27 (by unfold w_X10_moveOn_119; omega)
              have e28 : g27 121 x4 = (-1) := jup_s eg27
              refine st_gr jo_119 jr_119_3 ?_
              refine st_ar jo_123 (by decide) (show 0 ≤ v2 by omega) (show v2 < ((16 : Nat) : Int) by omega) (fun u29 eu29 => ?_)
              replace eu29 : u29 = jr0 123 v2 := eu29
              have qu29 : u29 = 126 + 3 * v2 := eu29.trans (jhul_123 v2 (by omega) (by omega)).1
              have hu29 : jHl u29 := by rw [eu29]; exact (jhul_123 v2 (by omega) (by omega)).2
              refine st_cv (na := 1) (st := [.inl a1, .inr (.inr (.inl u29))]) hu29.1 rfl rfl rfl (c_X4_leave u29 a1 g27 hu29) rfl ?_
              rintro _ _ g31 ⟨rfl, ft30, rfl, zt30⟩ kt30
              have fg31 : jfr w_X10_moveOn_119 h g31 := jfr_tr fg27 ft30 (fun i k q => by unfold w_X4_leave at q; unfold w_X10_moveOn_119; omega)
              replace zt30 : g31 = jLv u29 a1 g27 := zt30
              refine st_pi jo_119 (fun hx => (jbf_10_10 jo_119 _).2 (show 0 ≤ 1 ∧ 1 ≤ 1 by omega)) (fun g32 eg32 => ?_)
              replace eg32 : g32 = jup g31 119 10 1 := eg32
              have fg32 : jfr w_X10_moveOn_119 h g32 := jfr_up fg31 eg32 (by unfold w_X10_moveOn_119; omega)
              have e33 : g32 119 10 = 1 := jup_s eg32
              show jGo E l 77 229 229 _ 108 [.inr (.inr (.inl 119)), .inl a1, .inr (.inr (.inl 16)), .inl (jw32 (x3 + 1)), .inl x4, .inl v2] [] 229 jr0 g32
              refine jGo_blk qX10_moveOn_108 ?_
              have e34 : jw32 (x4 + (-1)) = x4 + (-1) := jzj32 (by omega)
              show jGo E l 77 229 229 _ 5 [.inr (.inr (.inl 119)), .inl a1, .inr (.inr (.inl 16)), .inl (jw32 (x3 + 1)), .inl (jw32 (x4 + (-1))), .inl v2] [] 229 jr0 g32
              have hc35 : (jw32 (x4 + (-1)) = 5 ∧ jw32 (x3 + 1) = 0) ∨ (jw32 (x4 + (-1)) < 5 ∧ jw32 (x3 + 1) = jMc 121 126 h) := by
                refine Or.inr ⟨by omega, ?_⟩
                rcases hx2 with ⟨w1, w2⟩ | ⟨w1, w2⟩
                · have gh : g = h := by rw [hx0, w1]; rfl
                  rw [← gh]; unfold jMc
                  have e9 : g 121 5 = v2 := by rw [ev2, w1]
                  rw [e9]
                  rw [show 126 + 3 * v2 = u7 by omega]
                  have j9 : jw32 (x3 + 1) = x3 + 1 := jzj32 (by omega)
                  first | (rw [if_pos (by omega)]; omega) | (rw [if_neg (by omega)]; omega)
                · omega
              exact ih (jw32 (x3 + 1)) (jw32 (x4 + (-1))) (.inl v2) g32 (by omega) (by rw [show 5 - jw32 (x4 + (-1)) = (5 - x4) + 1 by omega, jit_s (by omega), ← hx0]; unfold jMvr; rw [show 5 - (5 - x4) = x4 by omega]; subst eg32 zt30 qu29 eg27 qu7 ev2; unfold jMv; (repeat (first | rw [if_pos (by omega)] | rw [if_neg (by omega)])); all_goals ((try rw [e34]); (try rfl))) (by omega) (by exact hc35) fg32 (by omega)
          · replace c10 : t8 = 0 := by first | exact c10 | exact Int.not_le.mp c10 | exact Int.not_lt.mp c10 | exact Decidable.not_not.mp c10
            show jGo E l 77 229 229 _ 108 [.inr (.inr (.inl 119)), .inl a1, .inr (.inr (.inl 16)), .inl x3, .inl x4, .inl v2] [] 229 jr0 g
            refine jGo_blk qX10_moveOn_108 ?_
            have e36 : jw32 (x4 + (-1)) = x4 + (-1) := jzj32 (by omega)
            show jGo E l 77 229 229 _ 5 [.inr (.inr (.inl 119)), .inl a1, .inr (.inr (.inl 16)), .inl x3, .inl (jw32 (x4 + (-1))), .inl v2] [] 229 jr0 g
            have hc37 : (jw32 (x4 + (-1)) = 5 ∧ x3 = 0) ∨ (jw32 (x4 + (-1)) < 5 ∧ x3 = jMc 121 126 h) := by
              refine Or.inr ⟨by omega, ?_⟩
              rcases hx2 with ⟨w1, w2⟩ | ⟨w1, w2⟩
              · have gh : g = h := by rw [hx0, w1]; rfl
                rw [← gh]; unfold jMc
                have e9 : g 121 5 = v2 := by rw [ev2, w1]
                rw [e9]
                rw [show 126 + 3 * v2 = u7 by omega]
                first | (rw [if_pos (by omega)]; omega) | (rw [if_neg (by omega)]; omega)
              · omega
            exact ih x3 (jw32 (x4 + (-1))) (.inl v2) g (by omega) (by rw [show 5 - jw32 (x4 + (-1)) = (5 - x4) + 1 by omega, jit_s (by omega), ← hx0]; unfold jMvr; rw [show 5 - (5 - x4) = x4 by omega]; subst qu7 ev2; unfold jMv; (repeat (first | rw [if_pos (by omega)] | rw [if_neg (by omega)])); all_goals ((try rw [e36]); (try rfl))) (by omega) (by exact hc37) hf (by omega)
  refine jGo_blk qX10_moveOn_0 ?_
  show jGo E l 77 229 229 _ 5 [.inr (.inr (.inl 119)), .inl a1, .inr (.inr (.inl 16)), .inl 0, .inl 5, .inr (.inr (.inr ()))] [] 229 jr0 h
  exact (key 1000000000000) 0 5 (.inr (.inr (.inr ()))) h (by omega) (by rfl) (by omega) (by exact Or.inl ⟨rfl, rfl⟩) f0 (by omega)
