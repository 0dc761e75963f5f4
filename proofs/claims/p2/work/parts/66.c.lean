def w_X12_findLeast (i k : Int) : Prop := (i = 181) ∨ (i = 190) ∨ (192 ≤ i ∧ i ≤ 200) ∨ (i = 202) ∨ (224 ≤ i ∧ i ≤ 225) ∨ (227 ≤ i ∧ i ≤ 228) ∨ (i = 176 ∧ k = 0) ∨ (i = 176 ∧ 30 ≤ k ∧ k ≤ 32)
def k_X12_findLeast (h : JH) (v : Option JV) (r' g : JH) : Prop := r' = jr0 ∧ jfr w_X12_findLeast h g ∧ ∃ x : Int, v = some (.inl x) ∧ (True) ∧ (g 176 0 = h 176 0)
set_option maxHeartbeats 4000000 in
theorem c_X12_findLeast {E : JE} {l : Launch} (h : JH) (q0 : h 176 0 ≤ 2000) (q1 : h 176 62 ≤ 5) : jMt E l 166 [.inr (.inr (.inl 176))] 229 jr0 h (k_X12_findLeast h) := by
  refine jMt0 (nL := 7) (ls := [.inr (.inr (.inl 176)), .inr (.inr (.inr ())), .inr (.inr (.inr ())), .inr (.inr (.inr ())), .inr (.inr (.inr ())), .inr (.inr (.inr ())), .inr (.inr (.inr ()))]) (by decide +kernel) (by decide +kernel) (by decide +kernel) rfl rfl ?_
  have f0 : jfr w_X12_findLeast h h := jfr_rf _ _
  refine jGo_bd (fun hbd => ?_)
  have hb0 := (jbf_12_62 jo_176 _).1 (hbd 176 62)
  have key : ∀ N : Nat, (∀ (x1 : Int) (x2 : Int) (g : JH), (1 ≤ x1 ∧ x1 ≤ 120 ∧ 2 ≤ x2 ∧ x2 ≤ 6) → ((x2 = 2 ∧ x1 = 1) ∨ (x2 = 3 ∧ x1 = 2) ∨ (x2 = 4 ∧ x1 = 6) ∨ (x2 = 5 ∧ x1 = 24) ∨ (x2 = 6 ∧ x1 = 120)) → (g 176 62 = h 176 62) → (g 176 0 = h 176 0) → (x2 = 2 ∨ x2 ≤ g 176 62 + 1) → jfr w_X12_findLeast h g → ((6 - x2) + 20000) * 1000000 + 999999 < (N : Int) → jGo E l 166 229 229 (jRK (k_X12_findLeast h)) 4 [.inr (.inr (.inl 176)), .inl x1, .inl x2, .inr (.inr (.inr ())), .inr (.inr (.inr ())), .inr (.inr (.inr ())), .inr (.inr (.inr ()))] [] 229 jr0 g) ∧
      (∀ (x1 : Int) (x2 : Int) (x3 : Int) (x4 : JV) (x5 : JV) (x6 : JV) (g : JH), (1 ≤ x1 ∧ x1 ≤ 120 ∧ 0 ≤ x3 ∧ x3 ≤ 120) → ((g 176 62 ≤ 1 ∧ x1 = 1) ∨ (g 176 62 = 2 ∧ x1 = 2) ∨ (g 176 62 = 3 ∧ x1 = 6) ∨ (g 176 62 = 4 ∧ x1 = 24) ∨ (g 176 62 = 5 ∧ x1 = 120)) → (g 176 62 = h 176 62) → (g 176 0 = h 176 0) → jfr w_X12_findLeast h g → (120 - x3) * 1000000 + 999999 < (N : Int) → jGo E l 166 229 229 (jRK (k_X12_findLeast h)) 26 [.inr (.inr (.inl 176)), .inl x1, .inl x2, .inl x3, x4, x5, x6] [] 229 jr0 g) ∧
      (∀ (x1 : Int) (x2 : Int) (x3 : Int) (x4 : Int) (x5 : Int) (x6 : JV) (g : JH), (1 ≤ x1 ∧ x1 ≤ 120 ∧ 0 ≤ x3 ∧ x3 ≤ 119 ∧ 0 ≤ x4 ∧ x4 ≤ 2300 ∧ 0 ≤ x5 ∧ x5 ≤ 5) → ((g 176 62 ≤ 1 ∧ x1 = 1) ∨ (g 176 62 = 2 ∧ x1 = 2) ∨ (g 176 62 = 3 ∧ x1 = 6) ∨ (g 176 62 = 4 ∧ x1 = 24) ∨ (g 176 62 = 5 ∧ x1 = 120)) → (g 176 62 = h 176 62) → (g 176 0 = h 176 0) → (g 224 0 = h 176 0 ∧ x3 < x1) → jfr w_X12_findLeast h g → (120 - x3) * 1000000 + (5 - x5) + 40000 < (N : Int) → jGo E l 166 229 229 (jRK (k_X12_findLeast h)) 50 [.inr (.inr (.inl 176)), .inl x1, .inl x2, .inl x3, .inl x4, .inl x5, x6] [] 229 jr0 g) ∧
      (∀ (x1 : Int) (x2 : Int) (x3 : Int) (x4 : Int) (x5 : Int) (x6 : Int) (g : JH), (1 ≤ x1 ∧ x1 ≤ 120 ∧ 0 ≤ x3 ∧ x3 ≤ 119 ∧ 0 ≤ x4 ∧ x4 ≤ 2300 ∧ 0 ≤ x6 ∧ x6 ≤ 5) → ((g 176 62 ≤ 1 ∧ x1 = 1) ∨ (g 176 62 = 2 ∧ x1 = 2) ∨ (g 176 62 = 3 ∧ x1 = 6) ∨ (g 176 62 = 4 ∧ x1 = 24) ∨ (g 176 62 = 5 ∧ x1 = 120)) → (g 176 62 = h 176 62) → (g 224 0 = h 176 0 ∧ x3 < x1) → jfr w_X12_findLeast h g → (120 - x3) * 1000000 + (5 - x6) + 20000 < (N : Int) → jGo E l 166 229 229 (jRK (k_X12_findLeast h)) 92 [.inr (.inr (.inl 176)), .inl x1, .inl x2, .inl x3, .inl x4, .inl x5, .inl x6] [] 229 jr0 g) ∧
      (∀ (x1 : Int) (x2 : Int) (x3 : Int) (x4 : Int) (x5 : Int) (x6 : Int) (g : JH), (1 ≤ x1 ∧ x1 ≤ 120 ∧ 0 ≤ x3 ∧ x3 ≤ 119 ∧ 0 ≤ x4 ∧ x4 ≤ 2300 ∧ 0 ≤ x6 ∧ x6 ≤ 5) → ((g 176 62 ≤ 1 ∧ x1 = 1) ∨ (g 176 62 = 2 ∧ x1 = 2) ∨ (g 176 62 = 3 ∧ x1 = 6) ∨ (g 176 62 = 4 ∧ x1 = 24) ∨ (g 176 62 = 5 ∧ x1 = 120)) → (g 176 62 = h 176 62) → (g 176 0 = h 176 0) → (x3 < x1) → jfr w_X12_findLeast h g → (120 - x3) * 1000000 + (5 - x6) < (N : Int) → jGo E l 166 229 229 (jRK (k_X12_findLeast h)) 162 [.inr (.inr (.inl 176)), .inl x1, .inl x2, .inl x3, .inl x4, .inl x5, .inl x6] [] 229 jr0 g) := by
    intro N
    induction N with
    | zero => exact ⟨fun _ _ _ hi hx0 hx1 hx2 hx3 _ hN => absurd hN (by omega), fun _ _ _ _ _ _ _ hi hx0 hx1 hx2 _ hN => absurd hN (by omega), fun _ _ _ _ _ _ _ hi hx0 hx1 hx2 hx3 _ hN => absurd hN (by omega), fun _ _ _ _ _ _ _ hi hx0 hx1 hx2 _ hN => absurd hN (by omega), fun _ _ _ _ _ _ _ hi hx0 hx1 hx2 hx3 _ hN => absurd hN (by omega)⟩
    | succ N ih =>
      refine ⟨?_, ?_, ?_, ?_, ?_⟩
      · intro x1 x2 g hi hx0 hx1 hx2 hx3 hf hN
        refine jGo_blk qX12_findLeast_4 ?_
        refine st_gi jo_176 (fun v1 ev1 b2 => ?_)
        replace ev1 : v1 = g 176 62 := ev1
        replace b2 := (jbf_12_62 jo_176 _).1 b2
        refine And.intro (fun c3 => ?_) (fun c3 => ?_)
        · replace c3 : v1 < x2 := c3
          show jGo E l 166 229 229 _ 22 [.inr (.inr (.inl 176)), .inl x1, .inl x2, .inr (.inr (.inr ())), .inr (.inr (.inr ())), .inr (.inr (.inr ())), .inr (.inr (.inr ()))] [] 229 jr0 g
          refine jGo_blk qX12_findLeast_22 ?_
          show jGo E l 166 229 229 _ 26 [.inr (.inr (.inl 176)), .inl x1, .inl (-1), .inl 0, .inr (.inr (.inr ())), .inr (.inr (.inr ())), .inr (.inr (.inr ()))] [] 229 jr0 g
          exact ih.2.1 x1 (-1) 0 (.inr (.inr (.inr ()))) (.inr (.inr (.inr ()))) (.inr (.inr (.inr ()))) g (by omega) (by omega) (by omega) (by omega) hf (by omega)
        · replace c3 : x2 ≤ v1 := by first | exact c3 | exact Int.not_le.mp c3 | exact Int.not_lt.mp c3 | exact Decidable.not_not.mp c3
          have hm9 : (jw32 (x1 * x2) = 2 ∧ x2 = 2) ∨ (jw32 (x1 * x2) = 6 ∧ x2 = 3) ∨ (jw32 (x1 * x2) = 24 ∧ x2 = 4) ∨ (jw32 (x1 * x2) = 120 ∧ x2 = 5) := by rcases hx0 with ⟨q1, q2⟩ | ⟨q1, q2⟩ | ⟨q1, q2⟩ | ⟨q1, q2⟩ | ⟨q1, q2⟩ <;> first | (exfalso; omega) | (rw [q1, q2]; decide)
          have e4 : jw32 (x2 + 1) = x2 + 1 := j32e (by omega) (by omega)
          show jGo E l 166 229 229 _ 4 [.inr (.inr (.inl 176)), .inl (jw32 (x1 * x2)), .inl (jw32 (x2 + 1)), .inr (.inr (.inr ())), .inr (.inr (.inr ())), .inr (.inr (.inr ())), .inr (.inr (.inr ()))] [] 229 jr0 g
          exact ih.1 (jw32 (x1 * x2)) (jw32 (x2 + 1)) g (by omega) (by omega) (by omega) (by omega) (by omega) hf (by omega)
      · intro x1 x2 x3 x4 x5 x6 g hi hx0 hx1 hx2 hf hN
        refine jGo_ok (fun hls _ => ?_)
        have rx2 : -2147483648 ≤ x2 ∧ x2 ≤ 2147483647 := hls (.inl x2) (by simp)
        refine jGo_blk qX12_findLeast_26 ?_
        refine And.intro (fun c5 => ?_) (fun c5 => ?_)
        · replace c5 : x1 ≤ x3 := c5
          show jGo E l 166 229 229 _ 197 [.inr (.inr (.inl 176)), .inl x1, .inl x2, .inl x3, x4, x5, x6] [] 229 jr0 g
          refine jGo_blk qX12_findLeast_197 ?_
          exact st_r0 (ls := []) ⟨rfl, rfl, hf, x2, rfl, trivial, (by omega)⟩
        · replace c5 : x3 < x1 := by first | exact c5 | exact Int.not_le.mp c5 | exact Int.not_lt.mp c5 | exact Decidable.not_not.mp c5
          refine st_cv (na := 1) (st := [.inl x3, .inr (.inr (.inl 176))]) jo_176 rfl rfl rfl (c_X12_findOrder x3 g (by omega) (by omega) (by omega)) rfl ?_
          rintro _ _ g7 ⟨rfl, ft6, rfl, zt6⟩ kt6
          have fg7 : jfr w_X12_findLeast h g7 := jfr_tr hf ft6 (fun i k q => by unfold w_X12_findOrder at q; unfold w_X12_findLeast; omega)
          have e8 : g7 176 0 = g 176 0 := ft6 176 0 (by unfold w_X12_findOrder; omega)
          refine st_cv (na := 1) (st := [.inl 0, .inr (.inr (.inl 176))]) jo_176 rfl rfl rfl (c_X12_aside 0 g7 (by omega)) rfl ?_
          rintro _ _ g10 ⟨rfl, ft9, rfl, zt9⟩ kt9
          have fg10 : jfr w_X12_findLeast h g10 := jfr_tr fg7 ft9 (fun i k q => by unfold w_X12_aside at q; unfold w_X12_findLeast; omega)
          replace zt9 : ((0 : Int) = 0 → g10 224 0 = g7 176 0 ∧ g10 176 0 = g7 176 0) ∧ (¬ (0 : Int) = 0 → g10 176 0 = g7 224 0) := zt9
          refine st_gi jo_176 (fun v11 ev11 b12 => ?_)
          replace ev11 : v11 = g10 176 0 := ev11
          replace b12 := (jbf_12_0 jo_176 _).1 b12
          show jGo E l 166 229 229 _ 50 [.inr (.inr (.inl 176)), .inl x1, .inl x2, .inl x3, .inl v11, .inl 0, x6] [] 229 jr0 g10
          have e13 : g10 176 62 = g7 176 62 := ft9 176 62 (by unfold w_X12_aside; omega)
          have e14 : g7 176 62 = g 176 62 := ft6 176 62 (by unfold w_X12_findOrder; omega)
          have e15 : g10 176 62 = g7 176 62 := ft9 176 62 (by unfold w_X12_aside; omega)
          have e16 : g7 176 62 = g 176 62 := ft6 176 62 (by unfold w_X12_findOrder; omega)
          have e17 : g10 176 62 = g7 176 62 := ft9 176 62 (by unfold w_X12_aside; omega)
          have e18 : g7 176 62 = g 176 62 := ft6 176 62 (by unfold w_X12_findOrder; omega)
          have e19 : g10 176 62 = g7 176 62 := ft9 176 62 (by unfold w_X12_aside; omega)
          have e20 : g7 176 62 = g 176 62 := ft6 176 62 (by unfold w_X12_findOrder; omega)
          have e21 : g10 176 62 = g7 176 62 := ft9 176 62 (by unfold w_X12_aside; omega)
          have e22 : g7 176 62 = g 176 62 := ft6 176 62 (by unfold w_X12_findOrder; omega)
          have e23 : g10 176 62 = g7 176 62 := ft9 176 62 (by unfold w_X12_aside; omega)
          have e24 : g7 176 62 = g 176 62 := ft6 176 62 (by unfold w_X12_findOrder; omega)
          exact ih.2.2.1 x1 x2 x3 v11 0 x6 g10 (by omega) (by omega) (by omega) (by omega) (by omega) fg10 (by omega)
      · intro x1 x2 x3 x4 x5 x6 g hi hx0 hx1 hx2 hx3 hf hN
        refine jGo_ok (fun hls _ => ?_)
        have rx2 : -2147483648 ≤ x2 ∧ x2 ≤ 2147483647 := hls (.inl x2) (by simp)
        refine jGo_blk qX12_findLeast_50 ?_
        refine st_gi jo_176 (fun v25 ev25 b26 => ?_)
        replace ev25 : v25 = g 176 62 := ev25
        replace b26 := (jbf_12_62 jo_176 _).1 b26
        refine And.intro (fun c27 => ?_) (fun c27 => ?_)
        · replace c27 : v25 ≤ x5 := c27
          show jGo E l 166 229 229 _ 82 [.inr (.inr (.inl 176)), .inl x1, .inl x2, .inl x3, .inl x4, .inl x5, x6] [] 229 jr0 g
          refine jGo_blk qX12_findLeast_82 ?_
          refine st_cv (na := 0) (st := [.inr (.inr (.inl 176))]) jo_176 rfl rfl rfl (c_X12_goAhead g (by omega)) rfl ?_
          rintro _ _ g29 ⟨rfl, ft28, rfl, zt28⟩ kt28
          have fg29 : jfr w_X12_findLeast h g29 := jfr_tr hf ft28 (fun i k q => by unfold w_X12_goAhead at q; unfold w_X12_findLeast; omega)
          replace zt28 : g29 176 0 = g 176 0 + 300 := zt28
          have e30 : g29 224 0 = g 224 0 := ft28 224 0 (by unfold w_X12_goAhead; omega)
          show jGo E l 166 229 229 _ 92 [.inr (.inr (.inl 176)), .inl x1, .inl x2, .inl x3, .inl x4, .inl 0, .inl 0] [] 229 jr0 g29
          have e31 : g29 176 62 = g 176 62 := ft28 176 62 (by unfold w_X12_goAhead; omega)
          have e32 : g29 176 62 = g 176 62 := ft28 176 62 (by unfold w_X12_goAhead; omega)
          have e33 : g29 176 62 = g 176 62 := ft28 176 62 (by unfold w_X12_goAhead; omega)
          have e34 : g29 176 62 = g 176 62 := ft28 176 62 (by unfold w_X12_goAhead; omega)
          have e35 : g29 176 62 = g 176 62 := ft28 176 62 (by unfold w_X12_goAhead; omega)
          have e36 : g29 176 62 = g 176 62 := ft28 176 62 (by unfold w_X12_goAhead; omega)
          have e37 : g29 224 0 = g 224 0 := ft28 224 0 (by unfold w_X12_goAhead; omega)
          exact ih.2.2.2.1 x1 x2 x3 x4 0 0 g29 (by omega) (by omega) (by omega) (by omega) fg29 (by omega)
        · replace c27 : x5 < v25 := by first | exact c27 | exact Int.not_le.mp c27 | exact Int.not_lt.mp c27 | exact Decidable.not_not.mp c27
          refine st_gr jo_176 jr_176_16 ?_
          refine st_gr jo_176 jr_176_63 ?_
          refine st_ai jo_227 (show 0 ≤ x5 by omega) (show x5 < ((5 : Nat) : Int) by omega) (fun v38 ev38 b39 => ?_)
          replace ev38 : v38 = g 227 x5 := ev38
          replace b39 := (jba_227 x5 _).1 b39
          have e40 : jw32 (99 - x5) = 99 - x5 := j32e (by omega) (by omega)
          refine st_si jo_190 (show 0 ≤ v38 by omega) (show v38 < ((16 : Nat) : Int) by omega) (fun hx => (jba_190 _ _).2 (show 0 ≤ jw32 (99 - x5) ∧ jw32 (99 - x5) ≤ 99 by omega)) (fun g41 eg41 => ?_)
          replace eg41 : g41 = jup g 190 v38 (jw32 (99 - x5)) := eg41
          have fg41 : jfr w_X12_findLeast h g41 := jfr_up hf eg41 (by unfold w_X12_findLeast; omega)
          have e42 : g41 190 v38 = jw32 (99 - x5) := jup_s eg41
          have e43 : jw32 (x5 + 1) = x5 + 1 := j32e (by omega) (by omega)
          show jGo E l 166 229 229 _ 50 [.inr (.inr (.inl 176)), .inl x1, .inl x2, .inl x3, .inl x4, .inl (jw32 (x5 + 1)), x6] [] 229 jr0 g41
          have e44 : g41 176 62 = g 176 62 := jup_o eg41 (by omega)
          have e45 : g41 176 62 = g 176 62 := jup_o eg41 (by omega)
          have e46 : g41 176 62 = g 176 62 := jup_o eg41 (by omega)
          have e47 : g41 176 62 = g 176 62 := jup_o eg41 (by omega)
          have e48 : g41 176 62 = g 176 62 := jup_o eg41 (by omega)
          have e49 : g41 176 62 = g 176 62 := jup_o eg41 (by omega)
          have e50 : g41 176 0 = g 176 0 := jup_o eg41 (by omega)
          have e51 : g41 224 0 = g 224 0 := jup_o eg41 (by omega)
          exact ih.2.2.1 x1 x2 x3 x4 (jw32 (x5 + 1)) x6 g41 (by omega) (by omega) (by omega) (by omega) (by omega) fg41 (by omega)
      · intro x1 x2 x3 x4 x5 x6 g hi hx0 hx1 hx2 hf hN
        refine jGo_ok (fun hls _ => ?_)
        have rx2 : -2147483648 ≤ x2 ∧ x2 ≤ 2147483647 := hls (.inl x2) (by simp)
        have rx5 : -2147483648 ≤ x5 ∧ x5 ≤ 2147483647 := hls (.inl x5) (by simp)
        refine jGo_blk qX12_findLeast_92 ?_
        refine st_gi jo_176 (fun v52 ev52 b53 => ?_)
        replace ev52 : v52 = g 176 62 := ev52
        replace b53 := (jbf_12_62 jo_176 _).1 b53
        refine And.intro (fun c54 => ?_) (fun c54 => ?_)
        · replace c54 : v52 ≤ x6 := c54
          show jGo E l 166 229 229 _ 141 [.inr (.inr (.inl 176)), .inl x1, .inl x2, .inl x3, .inl x4, .inl x5, .inl x6] [] 229 jr0 g
          refine jGo_blk qX12_findLeast_141 ?_
          refine st_cv (na := 1) (st := [.inl 1, .inr (.inr (.inl 176))]) jo_176 rfl rfl rfl (c_X12_aside 1 g (by omega)) rfl ?_
          rintro _ _ g56 ⟨rfl, ft55, rfl, zt55⟩ kt55
          have fg56 : jfr w_X12_findLeast h g56 := jfr_tr hf ft55 (fun i k q => by unfold w_X12_aside at q; unfold w_X12_findLeast; omega)
          replace zt55 : ((1 : Int) = 0 → g56 224 0 = g 176 0 ∧ g56 176 0 = g 176 0) ∧ (¬ (1 : Int) = 0 → g56 176 0 = g 224 0) := zt55
          refine And.intro (fun c57 => ?_) (fun c57 => ?_)
          · replace c57 : x2 < 0 := c57
            show jGo E l 166 229 229 _ 156 [.inr (.inr (.inl 176)), .inl x1, .inl x2, .inl x3, .inl x4, .inl x5, .inl x6] [] 229 jr0 g56
            refine jGo_blk qX12_findLeast_156 ?_
            show jGo E l 166 229 229 _ 162 [.inr (.inr (.inl 176)), .inl x1, .inl x5, .inl x3, .inl x4, .inl x5, .inl 0] [] 229 jr0 g56
            have e58 : g56 176 62 = g 176 62 := ft55 176 62 (by unfold w_X12_aside; omega)
            have e59 : g56 176 62 = g 176 62 := ft55 176 62 (by unfold w_X12_aside; omega)
            have e60 : g56 176 62 = g 176 62 := ft55 176 62 (by unfold w_X12_aside; omega)
            have e61 : g56 176 62 = g 176 62 := ft55 176 62 (by unfold w_X12_aside; omega)
            have e62 : g56 176 62 = g 176 62 := ft55 176 62 (by unfold w_X12_aside; omega)
            have e63 : g56 176 62 = g 176 62 := ft55 176 62 (by unfold w_X12_aside; omega)
            exact ih.2.2.2.2 x1 x5 x3 x4 x5 0 g56 (by omega) (by omega) (by omega) (by omega) (by omega) fg56 (by omega)
          · replace c57 : 0 ≤ x2 := by first | exact c57 | exact Int.not_le.mp c57 | exact Int.not_lt.mp c57 | exact Decidable.not_not.mp c57
            refine And.intro (fun c64 => ?_) (fun c64 => ?_)
            · replace c64 : x2 ≤ x5 := c64
              show jGo E l 166 229 229 _ 191 [.inr (.inr (.inl 176)), .inl x1, .inl x2, .inl x3, .inl x4, .inl x5, .inl x6] [] 229 jr0 g56
              refine jGo_blk qX12_findLeast_191 ?_
              have e65 : jw32 (x3 + 1) = x3 + 1 := j32e (by omega) (by omega)
              show jGo E l 166 229 229 _ 26 [.inr (.inr (.inl 176)), .inl x1, .inl x2, .inl (jw32 (x3 + 1)), .inl x4, .inl x5, .inl x6] [] 229 jr0 g56
              have e66 : g56 176 62 = g 176 62 := ft55 176 62 (by unfold w_X12_aside; omega)
              have e67 : g56 176 62 = g 176 62 := ft55 176 62 (by unfold w_X12_aside; omega)
              have e68 : g56 176 62 = g 176 62 := ft55 176 62 (by unfold w_X12_aside; omega)
              have e69 : g56 176 62 = g 176 62 := ft55 176 62 (by unfold w_X12_aside; omega)
              have e70 : g56 176 62 = g 176 62 := ft55 176 62 (by unfold w_X12_aside; omega)
              have e71 : g56 176 62 = g 176 62 := ft55 176 62 (by unfold w_X12_aside; omega)
              exact ih.2.1 x1 x2 (jw32 (x3 + 1)) (.inl x4) (.inl x5) (.inl x6) g56 (by omega) (by omega) (by omega) (by omega) fg56 (by omega)
            · replace c64 : x5 < x2 := by first | exact c64 | exact Int.not_le.mp c64 | exact Int.not_lt.mp c64 | exact Decidable.not_not.mp c64
              show jGo E l 166 229 229 _ 156 [.inr (.inr (.inl 176)), .inl x1, .inl x2, .inl x3, .inl x4, .inl x5, .inl x6] [] 229 jr0 g56
              refine jGo_blk qX12_findLeast_156 ?_
              show jGo E l 166 229 229 _ 162 [.inr (.inr (.inl 176)), .inl x1, .inl x5, .inl x3, .inl x4, .inl x5, .inl 0] [] 229 jr0 g56
              have e72 : g56 176 62 = g 176 62 := ft55 176 62 (by unfold w_X12_aside; omega)
              have e73 : g56 176 62 = g 176 62 := ft55 176 62 (by unfold w_X12_aside; omega)
              have e74 : g56 176 62 = g 176 62 := ft55 176 62 (by unfold w_X12_aside; omega)
              have e75 : g56 176 62 = g 176 62 := ft55 176 62 (by unfold w_X12_aside; omega)
              have e76 : g56 176 62 = g 176 62 := ft55 176 62 (by unfold w_X12_aside; omega)
              have e77 : g56 176 62 = g 176 62 := ft55 176 62 (by unfold w_X12_aside; omega)
              exact ih.2.2.2.2 x1 x5 x3 x4 x5 0 g56 (by omega) (by omega) (by omega) (by omega) (by omega) fg56 (by omega)
        · replace c54 : x6 < v52 := by first | exact c54 | exact Int.not_le.mp c54 | exact Int.not_lt.mp c54 | exact Decidable.not_not.mp c54
          refine st_gr jo_176 jr_176_24 ?_
          refine st_gr jo_176 jr_176_63 ?_
          refine st_ai jo_227 (show 0 ≤ x6 by omega) (show x6 < ((5 : Nat) : Int) by omega) (fun v78 ev78 b79 => ?_)
          replace ev78 : v78 = g 227 x6 := ev78
          replace b79 := (jba_227 x6 _).1 b79
          refine st_ai jo_198 (show 0 ≤ v78 by omega) (show v78 < ((16 : Nat) : Int) by omega) (fun v80 ev80 b81 => ?_)
          replace ev80 : v80 = g 198 v78 := ev80
          replace b81 := (jba_198 v78 _).1 b81
          refine st_gr jo_176 jr_176_17 ?_
          refine st_gr jo_176 jr_176_63 ?_
          refine st_ai jo_227 (show 0 ≤ x6 by omega) (show x6 < ((5 : Nat) : Int) by omega) (fun v82 ev82 b83 => ?_)
          replace ev82 : v82 = g 227 x6 := ev82
          replace b83 := (jba_227 x6 _).1 b83
          refine st_ai jo_191 (show 0 ≤ v82 by omega) (show v82 < ((16 : Nat) : Int) by omega) (fun v84 ev84 b85 => ?_)
          replace ev84 : v84 = g 191 v82 := ev84
          replace b85 := (jba_191 v82 _).1 b85
          refine st_cs (na := 3) (st := [.inl v84, .inl x4, .inl v80, .inl x5]) rfl rfl rfl (c_X12_lateBy v80 x4 v84 g) rfl ?_
          rintro _ _ _ ⟨rfl, rfl, t86, rfl, ht86, zt86⟩ kt86
          replace kt86 : -2147483648 ≤ t86 ∧ t86 ≤ 2147483647 := kt86
          have e88 : jw32 (x6 + 1) = x6 + 1 := j32e (by omega) (by omega)
          show jGo E l 166 229 229 _ 92 [.inr (.inr (.inl 176)), .inl x1, .inl x2, .inl x3, .inl x4, .inl (jw32 (x5 + t86)), .inl (jw32 (x6 + 1))] [] 229 jr0 g
          exact ih.2.2.2.1 x1 x2 x3 x4 (jw32 (x5 + t86)) (jw32 (x6 + 1)) g (by omega) (by omega) (by omega) (by omega) hf (by omega)
      · intro x1 x2 x3 x4 x5 x6 g hi hx0 hx1 hx2 hx3 hf hN
        refine jGo_ok (fun hls _ => ?_)
        have rx2 : -2147483648 ≤ x2 ∧ x2 ≤ 2147483647 := hls (.inl x2) (by simp)
        have rx5 : -2147483648 ≤ x5 ∧ x5 ≤ 2147483647 := hls (.inl x5) (by simp)
        refine jGo_blk qX12_findLeast_162 ?_
        refine st_gi jo_176 (fun v89 ev89 b90 => ?_)
        replace ev89 : v89 = g 176 62 := ev89
        replace b90 := (jbf_12_62 jo_176 _).1 b90
        refine And.intro (fun c91 => ?_) (fun c91 => ?_)
        · replace c91 : v89 ≤ x6 := c91
          show jGo E l 166 229 229 _ 191 [.inr (.inr (.inl 176)), .inl x1, .inl x2, .inl x3, .inl x4, .inl x5, .inl x6] [] 229 jr0 g
          refine jGo_blk qX12_findLeast_191 ?_
          have e92 : jw32 (x3 + 1) = x3 + 1 := j32e (by omega) (by omega)
          show jGo E l 166 229 229 _ 26 [.inr (.inr (.inl 176)), .inl x1, .inl x2, .inl (jw32 (x3 + 1)), .inl x4, .inl x5, .inl x6] [] 229 jr0 g
          exact ih.2.1 x1 x2 (jw32 (x3 + 1)) (.inl x4) (.inl x5) (.inl x6) g (by omega) (by omega) (by omega) (by omega) hf (by omega)
        · replace c91 : x6 < v89 := by first | exact c91 | exact Int.not_le.mp c91 | exact Int.not_lt.mp c91 | exact Decidable.not_not.mp c91
          refine st_gr jo_176 jr_176_64 ?_
          refine st_gr jo_176 jr_176_63 ?_
          refine st_ai jo_227 (show 0 ≤ x6 by omega) (show x6 < ((5 : Nat) : Int) by omega) (fun v93 ev93 b94 => ?_)
          replace ev93 : v93 = g 227 x6 := ev93
          replace b94 := (jba_227 x6 _).1 b94
          refine st_si jo_228 (show 0 ≤ x6 by omega) (show x6 < ((5 : Nat) : Int) by omega) (fun hx => (jba_228 _ _).2 (show 0 ≤ v93 ∧ v93 ≤ 15 by omega)) (fun g95 eg95 => ?_)
          replace eg95 : g95 = jup g 228 x6 v93 := eg95
          have fg95 : jfr w_X12_findLeast h g95 := jfr_up hf eg95 (by unfold w_X12_findLeast; omega)
          have e96 : g95 228 x6 = v93 := jup_s eg95
          have e97 : jw32 (x6 + 1) = x6 + 1 := j32e (by omega) (by omega)
          show jGo E l 166 229 229 _ 162 [.inr (.inr (.inl 176)), .inl x1, .inl x2, .inl x3, .inl x4, .inl x5, .inl (jw32 (x6 + 1))] [] 229 jr0 g95
          have e98 : g95 176 62 = g 176 62 := jup_o eg95 (by omega)
          have e99 : g95 176 62 = g 176 62 := jup_o eg95 (by omega)
          have e100 : g95 176 62 = g 176 62 := jup_o eg95 (by omega)
          have e101 : g95 176 62 = g 176 62 := jup_o eg95 (by omega)
          have e102 : g95 176 62 = g 176 62 := jup_o eg95 (by omega)
          have e103 : g95 176 62 = g 176 62 := jup_o eg95 (by omega)
          have e104 : g95 176 0 = g 176 0 := jup_o eg95 (by omega)
          exact ih.2.2.2.2 x1 x2 x3 x4 x5 (jw32 (x6 + 1)) g95 (by omega) (by omega) (by omega) (by omega) (by omega) fg95 (by omega)
  refine jGo_blk qX12_findLeast_0 ?_
  show jGo E l 166 229 229 _ 4 [.inr (.inr (.inl 176)), .inl 1, .inl 2, .inr (.inr (.inr ())), .inr (.inr (.inr ())), .inr (.inr (.inr ())), .inr (.inr (.inr ()))] [] 229 jr0 h
  exact (key 1000000000000000000).1 1 2 h (by omega) (by omega) (by omega) (by omega) (by omega) f0 (by omega)

def w_X12_least (i k : Int) : Prop := (i = 181) ∨ (i = 190) ∨ (192 ≤ i ∧ i ≤ 200) ∨ (i = 202) ∨ (i = 219) ∨ (224 ≤ i ∧ i ≤ 228) ∨ (i = 176 ∧ k = 0) ∨ (i = 176 ∧ 30 ≤ k ∧ k ≤ 32) ∨ (i = 176 ∧ k = 62)
def k_X12_least (h : JH) (v : Option JV) (r' g : JH) : Prop := r' = jr0 ∧ jfr w_X12_least h g ∧ ∃ x : Int, v = some (.inl x) ∧ (True) ∧ (g 176 0 = h 176 0)
set_option maxHeartbeats 4000000 in
theorem c_X12_least {E : JE} {l : Launch} (h : JH) (q0 : h 176 0 ≤ 2000) : jMt E l 167 [.inr (.inr (.inl 176))] 229 jr0 h (k_X12_least h) := by
  refine jMt0 (nL := 1) (ls := [.inr (.inr (.inl 176))]) (by decide +kernel) (by decide +kernel) (by decide +kernel) rfl rfl ?_
  have f0 : jfr w_X12_least h h := jfr_rf _ _
  refine jGo_blk qX12_least_0 ?_
  refine st_cv (na := 0) (st := [.inr (.inr (.inl 176))]) jo_176 rfl rfl rfl (c_X12_ask h) rfl ?_
  rintro _ _ g2 ⟨rfl, ft1, t1, rfl, ht1, zt1⟩ kt1
  replace kt1 : -2147483648 ≤ t1 ∧ t1 ≤ 2147483647 := kt1
  replace ht1 : 0 ≤ t1 ∧ t1 ≤ 1 := ht1
  have fg2 : jfr w_X12_least h g2 := jfr_tr f0 ft1 (fun i k q => by unfold w_X12_ask at q; unfold w_X12_least; omega)
  replace zt1 : (t1 = 1 ∧ g2 176 62 ≤ 5) ∨ t1 = 0 := zt1
  refine And.intro (fun c3 => ?_) (fun c3 => ?_)
  · replace c3 : t1 = 0 := c3
    show jGo E l 167 229 229 _ 14 [.inr (.inr (.inl 176))] [] 229 jr0 g2
    refine jGo_blk qX12_least_14 ?_
    refine st_cv (na := 1) (st := [.inl (-3), .inr (.inr (.inl 176))]) jo_176 rfl rfl rfl (c_X12_refuse (-3) g2 (by omega)) rfl ?_
    rintro _ _ g5 ⟨rfl, ft4, t4, rfl, ht4, zt4⟩ kt4
    replace kt4 : -2147483648 ≤ t4 ∧ t4 ≤ 2147483647 := kt4
    replace ht4 : -7 ≤ t4 ∧ t4 ≤ -1 := ht4
    have fg5 : jfr w_X12_least h g5 := jfr_tr fg2 ft4 (fun i k q => by unfold w_X12_refuse at q; unfold w_X12_least; omega)
    replace zt4 : t4 = (-3 : Int) := zt4
    show jGo E l 167 229 229 _ 20 [.inr (.inr (.inl 176))] [.inl t4] 229 jr0 g5
    refine jGo_blk qX12_least_20 ?_
    have e6 : g5 176 0 = g2 176 0 := ft4 176 0 (by unfold w_X12_refuse; omega)
    have e7 : g2 176 0 = h 176 0 := ft1 176 0 (by unfold w_X12_ask; omega)
    exact st_r0 (ls := []) ⟨rfl, rfl, fg5, t4, rfl, trivial, (by omega)⟩
  · replace c3 : ¬ t1 = 0 := by first | exact c3 | exact Int.not_le.mp c3 | exact Int.not_lt.mp c3 | exact Decidable.not_not.mp c3
    have e8 : g2 176 0 = h 176 0 := ft1 176 0 (by unfold w_X12_ask; omega)
    refine st_cv (na := 0) (st := [.inr (.inr (.inl 176))]) jo_176 rfl rfl rfl (c_X12_findLeast g2 (by omega) (by omega)) rfl ?_
    rintro _ _ g10 ⟨rfl, ft9, t9, rfl, ht9, zt9⟩ kt9
    replace kt9 : -2147483648 ≤ t9 ∧ t9 ≤ 2147483647 := kt9
    have fg10 : jfr w_X12_least h g10 := jfr_tr fg2 ft9 (fun i k q => by unfold w_X12_findLeast at q; unfold w_X12_least; omega)
    replace zt9 : g10 176 0 = g2 176 0 := zt9
    show jGo E l 167 229 229 _ 20 [.inr (.inr (.inl 176))] [.inl t9] 229 jr0 g10
    refine jGo_blk qX12_least_20 ?_
    exact st_r0 (ls := []) ⟨rfl, rfl, fg10, t9, rfl, trivial, (by omega)⟩

def w_X11_order (i k : Int) : Prop := (i = 1) ∨ (i = 15) ∨ (i = 112) ∨ (114 ≤ i ∧ i ≤ 118) ∨ (120 ≤ i ∧ i ≤ 121) ∨ (124 ≤ i ∧ i ≤ 173) ∨ (i = 175) ∨ (i = 11 ∧ k = 5) ∨ (i = 111 ∧ k = 0) ∨ (i = 111 ∧ 2 ≤ k ∧ k ≤ 3) ∨ (i = 111 ∧ k = 9) ∨ (i = 111 ∧ k = 11) ∨ (i = 119 ∧ 6 ≤ k ∧ k ≤ 10)
def k_X11_order (a1 : Int) (h : JH) (v : Option JV) (r' g : JH) : Prop := r' = jr0 ∧ jfr w_X11_order h g ∧ ∃ x : Int, v = some (.inl x) ∧ (-9 ≤ x ∧ x ≤ 15) ∧ (True)
set_option maxHeartbeats 4000000 in
theorem c_X11_order {E : JE} {l : Launch} (a1 : Int) (h : JH) : jMt E l 168 [.inr (.inr (.inl 0)), .inl a1] 229 jr0 h (k_X11_order a1 h) := by
  refine jMt0 (nL := 2) (ls := [.inr (.inr (.inl 0)), .inl a1]) (by decide +kernel) (by decide +kernel) (by decide +kernel) rfl rfl ?_
  have f0 : jfr w_X11_order h h := jfr_rf _ _
  refine jGo_blk qX11_order_0 ?_
  refine st_cv (na := 0) (st := [.inr (.inr (.inl 0))]) jo_0 rfl rfl rfl (c_X11_findOrder h) rfl ?_
  rintro _ _ g2 ⟨rfl, ft1, t1, rfl, ht1, zt1⟩ kt1
  replace kt1 : -2147483648 ≤ t1 ∧ t1 ≤ 2147483647 := kt1
  replace ht1 : 0 ≤ t1 ∧ t1 ≤ 1 := ht1
  have fg2 : jfr w_X11_order h g2 := jfr_tr f0 ft1 (fun i k q => by unfold w_X11_findOrder at q; unfold w_X11_order; omega)
  refine And.intro (fun c3 => ?_) (fun c3 => ?_)
  · replace c3 : ¬ t1 = 0 := c3
    show jGo E l 168 229 229 _ 14 [.inr (.inr (.inl 0)), .inl a1] [] 229 jr0 g2
    refine jGo_blk qX11_order_14 ?_
    refine st_gr jo_0 jr_0_11 ?_
    refine st_gi jo_111 (fun v4 ev4 b5 => ?_)
    replace ev4 : v4 = g2 111 2 := ev4
    replace b5 := (jbf_7_2 jo_111 _).1 b5
    refine st_cs (na := 2) (st := [.inl v4, .inl a1]) rfl rfl rfl (c_X11_within a1 v4 g2) rfl ?_
    rintro _ _ _ ⟨rfl, rfl, t6, rfl, ht6, zt6⟩ kt6
    replace kt6 : -2147483648 ≤ t6 ∧ t6 ≤ 2147483647 := kt6
    replace ht6 : 0 ≤ t6 ∧ t6 ≤ 1 := ht6
    replace zt6 : (t6 = 1 ∧ 0 ≤ a1 ∧ a1 < v4) ∨ (t6 = 0 ∧ ¬ (0 ≤ a1 ∧ a1 < v4)) := zt6
    refine And.intro (fun c8 => ?_) (fun c8 => ?_)
    · replace c8 : t6 = 0 := c8
      show jGo E l 168 229 229 _ 40 [.inr (.inr (.inl 0)), .inl a1] [] 229 jr0 g2
      refine jGo_blk qX11_order_40 ?_
      show jGo E l 168 229 229 _ 42 [.inr (.inr (.inl 0)), .inl a1] [.inl (-9)] 229 jr0 g2
      refine jGo_blk qX11_order_42 ?_
      exact st_r0 (ls := []) ⟨rfl, rfl, fg2, (-9), rfl, (by omega), trivial⟩
    · replace c8 : ¬ t6 = 0 := by first | exact c8 | exact Int.not_le.mp c8 | exact Int.not_lt.mp c8 | exact Decidable.not_not.mp c8
      refine st_gr jo_0 jr_0_11 ?_
      refine st_gr jo_111 jr_111_1 ?_
      refine st_ai jo_112 (show 0 ≤ a1 by omega) (show a1 < ((5 : Nat) : Int) by omega) (fun v9 ev9 b10 => ?_)
      replace ev9 : v9 = g2 112 a1 := ev9
      replace b10 := (jba_112 a1 _).1 b10
      show jGo E l 168 229 229 _ 42 [.inr (.inr (.inl 0)), .inl a1] [.inl v9] 229 jr0 g2
      refine jGo_blk qX11_order_42 ?_
      exact st_r0 (ls := []) ⟨rfl, rfl, fg2, v9, rfl, (by omega), trivial⟩
  · replace c3 : t1 = 0 := by first | exact c3 | exact Int.not_le.mp c3 | exact Int.not_lt.mp c3 | exact Decidable.not_not.mp c3
    refine st_cv (na := 1) (st := [.inl (-3), .inr (.inr (.inl 0))]) jo_0 rfl rfl rfl (c_X11_refused (-3) g2 (by omega)) rfl ?_
    rintro _ _ g12 ⟨rfl, ft11, t11, rfl, ht11, zt11⟩ kt11
    replace kt11 : -2147483648 ≤ t11 ∧ t11 ≤ 2147483647 := kt11
    replace ht11 : -7 ≤ t11 ∧ t11 ≤ -1 := ht11
    have fg12 : jfr w_X11_order h g12 := jfr_tr fg2 ft11 (fun i k q => by unfold w_X11_refused at q; unfold w_X11_order; omega)
    replace zt11 : t11 = (-3 : Int) := zt11
    exact st_r0 (ls := []) ⟨rfl, rfl, fg12, t11, rfl, (by omega), trivial⟩

def w_X12_order (i k : Int) : Prop := (i = 181) ∨ (i = 190) ∨ (192 ≤ i ∧ i ≤ 200) ∨ (i = 202) ∨ (i = 219) ∨ (224 ≤ i ∧ i ≤ 228) ∨ (i = 176 ∧ k = 0) ∨ (i = 176 ∧ 30 ≤ k ∧ k ≤ 32) ∨ (i = 176 ∧ k = 62)
def k_X12_order (a1 : Int) (h : JH) (v : Option JV) (r' g : JH) : Prop := r' = jr0 ∧ jfr w_X12_order h g ∧ ∃ x : Int, v = some (.inl x) ∧ (-9 ≤ x ∧ x ≤ 15) ∧ (g 176 0 = h 176 0)
set_option maxHeartbeats 4000000 in
theorem c_X12_order {E : JE} {l : Launch} (a1 : Int) (h : JH) (q0 : h 176 0 ≤ 2000) : jMt E l 169 [.inr (.inr (.inl 176)), .inl a1] 229 jr0 h (k_X12_order a1 h) := by
  refine jMt0 (nL := 3) (ls := [.inr (.inr (.inl 176)), .inl a1, .inr (.inr (.inr ()))]) (by decide +kernel) (by decide +kernel) (by decide +kernel) rfl rfl ?_
  have f0 : jfr w_X12_order h h := jfr_rf _ _
  refine jGo_blk qX12_order_0 ?_
  refine st_cv (na := 0) (st := [.inr (.inr (.inl 176))]) jo_176 rfl rfl rfl (c_X12_ask h) rfl ?_
  rintro _ _ g2 ⟨rfl, ft1, t1, rfl, ht1, zt1⟩ kt1
  replace kt1 : -2147483648 ≤ t1 ∧ t1 ≤ 2147483647 := kt1
  replace ht1 : 0 ≤ t1 ∧ t1 ≤ 1 := ht1
  have fg2 : jfr w_X12_order h g2 := jfr_tr f0 ft1 (fun i k q => by unfold w_X12_ask at q; unfold w_X12_order; omega)
  replace zt1 : (t1 = 1 ∧ g2 176 62 ≤ 5) ∨ t1 = 0 := zt1
  refine And.intro (fun c3 => ?_) (fun c3 => ?_)
  · replace c3 : ¬ t1 = 0 := c3
    show jGo E l 169 229 229 _ 14 [.inr (.inr (.inl 176)), .inl a1, .inr (.inr (.inr ()))] [] 229 jr0 g2
    refine jGo_blk qX12_order_14 ?_
    refine st_gi jo_176 (fun v4 ev4 b5 => ?_)
    replace ev4 : v4 = g2 176 62 := ev4
    replace b5 := (jbf_12_62 jo_176 _).1 b5
    have e6 : jw32 (v4 - 1) = v4 - 1 := j32e (by omega) (by omega)
    refine st_cs (na := 3) (st := [.inl (jw32 (v4 - 1)), .inl 0, .inl a1]) rfl rfl rfl (c_X12_in a1 0 (jw32 (v4 - 1)) g2) rfl ?_
    rintro _ _ _ ⟨rfl, rfl, t7, rfl, ht7, zt7⟩ kt7
    replace kt7 : -2147483648 ≤ t7 ∧ t7 ≤ 2147483647 := kt7
    replace ht7 : 0 ≤ t7 ∧ t7 ≤ 1 := ht7
    replace zt7 : (t7 = 1 ∧ (0 : Int) ≤ a1 ∧ a1 ≤ (jw32 (v4 - 1))) ∨ (t7 = 0 ∧ ¬ ((0 : Int) ≤ a1 ∧ a1 ≤ (jw32 (v4 - 1)))) := zt7
    refine And.intro (fun c9 => ?_) (fun c9 => ?_)
    · replace c9 : ¬ t7 = 0 := c9
      show jGo E l 169 229 229 _ 31 [.inr (.inr (.inl 176)), .inl a1, .inr (.inr (.inr ()))] [] 229 jr0 g2
      refine jGo_blk qX12_order_31 ?_
      have e10 : g2 176 0 = h 176 0 := ft1 176 0 (by unfold w_X12_ask; omega)
      refine st_cv (na := 0) (st := [.inr (.inr (.inl 176))]) jo_176 rfl rfl rfl (c_X12_findLeast g2 (by omega) (by omega)) rfl ?_
      rintro _ _ g12 ⟨rfl, ft11, t11, rfl, ht11, zt11⟩ kt11
      replace kt11 : -2147483648 ≤ t11 ∧ t11 ≤ 2147483647 := kt11
      have fg12 : jfr w_X12_order h g12 := jfr_tr fg2 ft11 (fun i k q => by unfold w_X12_findLeast at q; unfold w_X12_order; omega)
      replace zt11 : g12 176 0 = g2 176 0 := zt11
      refine st_gr jo_176 jr_176_64 ?_
      refine st_ai jo_228 (show 0 ≤ a1 by omega) (show a1 < ((5 : Nat) : Int) by omega) (fun v13 ev13 b14 => ?_)
      replace ev13 : v13 = g12 228 a1 := ev13
      replace b14 := (jba_228 a1 _).1 b14
      exact st_r0 (ls := []) ⟨rfl, rfl, fg12, v13, rfl, (by omega), (by omega)⟩
    · replace c9 : t7 = 0 := by first | exact c9 | exact Int.not_le.mp c9 | exact Int.not_lt.mp c9 | exact Decidable.not_not.mp c9
      have e15 : g2 176 0 = h 176 0 := ft1 176 0 (by unfold w_X12_ask; omega)
      exact st_r0 (ls := []) ⟨rfl, rfl, fg2, (-9), rfl, (by omega), (by omega)⟩
  · replace c3 : t1 = 0 := by first | exact c3 | exact Int.not_le.mp c3 | exact Int.not_lt.mp c3 | exact Decidable.not_not.mp c3
    refine st_cv (na := 1) (st := [.inl (-3), .inr (.inr (.inl 176))]) jo_176 rfl rfl rfl (c_X12_refuse (-3) g2 (by omega)) rfl ?_
    rintro _ _ g17 ⟨rfl, ft16, t16, rfl, ht16, zt16⟩ kt16
    replace kt16 : -2147483648 ≤ t16 ∧ t16 ≤ 2147483647 := kt16
    replace ht16 : -7 ≤ t16 ∧ t16 ≤ -1 := ht16
    have fg17 : jfr w_X12_order h g17 := jfr_tr fg2 ft16 (fun i k q => by unfold w_X12_refuse at q; unfold w_X12_order; omega)
    replace zt16 : t16 = (-3 : Int) := zt16
    have e18 : g17 176 0 = g2 176 0 := ft16 176 0 (by unfold w_X12_refuse; omega)
    have e19 : g2 176 0 = h 176 0 := ft1 176 0 (by unfold w_X12_ask; omega)
    exact st_r0 (ls := []) ⟨rfl, rfl, fg17, t16, rfl, (by omega), (by omega)⟩

def w_X11_hullOf (i k : Int) : Prop := (i = 1)
def k_X11_hullOf (a1 : Int) (a2 : Int) (h : JH) (v : Option JV) (r' g : JH) : Prop := r' = jr0 ∧ jfr w_X11_hullOf h g ∧ ∃ x : Int, v = some (.inl x) ∧ (True) ∧ (True)
set_option maxHeartbeats 4000000 in
theorem c_X11_hullOf {E : JE} {l : Launch} (a1 : Int) (a2 : Int) (h : JH) : jMt E l 170 [.inr (.inr (.inl 0)), .inl a1, .inl a2] 229 jr0 h (k_X11_hullOf a1 a2 h) := by
  refine jMt0 (nL := 4) (ls := [.inr (.inr (.inl 0)), .inl a1, .inl a2, .inr (.inr (.inr ()))]) (by decide +kernel) (by decide +kernel) (by decide +kernel) rfl rfl ?_
  have f0 : jfr w_X11_hullOf h h := jfr_rf _ _
  refine jGo_blk qX11_hullOf_0 ?_
  refine st_cv (na := 1) (st := [.inl a1, .inr (.inr (.inl 0))]) jo_0 rfl rfl rfl (c_X11_isHull a1 h) rfl ?_
  rintro _ _ _ ⟨rfl, rfl, t1, rfl, ht1, zt1⟩ kt1
  replace kt1 : -2147483648 ≤ t1 ∧ t1 ≤ 2147483647 := kt1
  replace ht1 : 0 ≤ t1 ∧ t1 ≤ 1 := ht1
  replace zt1 : (t1 = 1 ∧ 0 ≤ a1 ∧ a1 < h 29 4 ∧ h 29 4 ≤ 16) ∨ (t1 = 0 ∧ ¬ (0 ≤ a1 ∧ a1 < h 29 4)) := zt1
  refine And.intro (fun c3 => ?_) (fun c3 => ?_)
  · replace c3 : ¬ t1 = 0 := c3
    show jGo E l 170 229 229 _ 14 [.inr (.inr (.inl 0)), .inl a1, .inl a2, .inr (.inr (.inr ()))] [] 229 jr0 h
    refine jGo_blk qX11_hullOf_14 ?_
    refine st_gr jo_0 jr_0_5 ?_
    refine st_gr jo_29 jr_29_3 ?_
    refine st_ar jo_33 (by decide) (show 0 ≤ a1 by omega) (show a1 < ((16 : Nat) : Int) by omega) (fun u4 eu4 => ?_)
    replace eu4 : u4 = jr0 33 a1 := eu4
    have qu4 : u4 = 36 + 3 * a1 := eu4.trans (jhul_33 a1 (by omega) (by omega)).1
    have hu4 : jHl u4 := by rw [eu4]; exact (jhul_33 a1 (by omega) (by omega)).2
    refine And.intro (show u4 ≠ -1 by omega) ?_
    refine And.intro (fun c5 => ?_) (And.intro (fun c5 => ?_) (And.intro (fun c5 => ?_) (And.intro (fun c5 => ?_) (And.intro (fun c5 => ?_) (And.intro (fun c5 => ?_) (And.intro (fun c5 => ?_) (And.intro (fun c5 => ?_) (And.intro (fun c5 => ?_) (And.intro (fun c5 => ?_) (trivial))))))))))
    · replace c5 : a2 < 0 ∨ 8 < a2 := c5
      show jGo E l 170 229 229 _ 129 [.inr (.inr (.inl 0)), .inl a1, .inl a2, .inr (.inr (.inl u4))] [] 229 jr0 h
      refine jGo_blk qX11_hullOf_129 ?_
      refine st_cv (na := 1) (st := [.inl (-2), .inr (.inr (.inl 0))]) jo_0 rfl rfl rfl (c_X11_refused (-2) h (by omega)) rfl ?_
      rintro _ _ g7 ⟨rfl, ft6, t6, rfl, ht6, zt6⟩ kt6
      replace kt6 : -2147483648 ≤ t6 ∧ t6 ≤ 2147483647 := kt6
      replace ht6 : -7 ≤ t6 ∧ t6 ≤ -1 := ht6
      have fg7 : jfr w_X11_hullOf h g7 := jfr_tr f0 ft6 (fun i k q => by unfold w_X11_refused at q; unfold w_X11_hullOf; omega)
      replace zt6 : t6 = (-2 : Int) := zt6
      exact st_r0 (ls := []) ⟨rfl, rfl, fg7, t6, rfl, trivial, trivial⟩
    · replace c5 : a2 = 0 := c5
      show jGo E l 170 229 229 _ 76 [.inr (.inr (.inl 0)), .inl a1, .inl a2, .inr (.inr (.inl u4))] [] 229 jr0 h
      refine jGo_blk qX11_hullOf_76 ?_
      refine st_gi hu4.1 (fun v8 ev8 b9 => ?_)
      replace ev8 : v8 = h u4 3 := ev8
      replace b9 := (jbf_4_3 hu4.1 _).1 b9
      exact st_r0 (ls := []) ⟨rfl, rfl, f0, v8, rfl, trivial, trivial⟩
    · replace c5 : a2 = 1 := c5
      show jGo E l 170 229 229 _ 81 [.inr (.inr (.inl 0)), .inl a1, .inl a2, .inr (.inr (.inl u4))] [] 229 jr0 h
      refine jGo_blk qX11_hullOf_81 ?_
      refine st_gi hu4.1 (fun v10 ev10 b11 => ?_)
      replace ev10 : v10 = h u4 4 := ev10
      replace b11 := (jbf_4_4 hu4.1 _).1 b11
      exact st_r0 (ls := []) ⟨rfl, rfl, f0, v10, rfl, trivial, trivial⟩
    · replace c5 : a2 = 2 := c5
      show jGo E l 170 229 229 _ 86 [.inr (.inr (.inl 0)), .inl a1, .inl a2, .inr (.inr (.inl u4))] [] 229 jr0 h
      refine jGo_blk qX11_hullOf_86 ?_
      refine st_gi hu4.1 (fun v12 ev12 b13 => ?_)
      replace ev12 : v12 = h u4 6 := ev12
      replace b13 := (jbf_4_6 hu4.1 _).1 b13
      exact st_r0 (ls := []) ⟨rfl, rfl, f0, v12, rfl, trivial, trivial⟩
    · replace c5 : a2 = 3 := c5
      show jGo E l 170 229 229 _ 91 [.inr (.inr (.inl 0)), .inl a1, .inl a2, .inr (.inr (.inl u4))] [] 229 jr0 h
      refine jGo_blk qX11_hullOf_91 ?_
      refine st_gi hu4.1 (fun v14 ev14 b15 => ?_)
      replace ev14 : v14 = h u4 7 := ev14
      replace b15 := (jbf_4_7 hu4.1 _).1 b15
      refine And.intro (fun c16 => ?_) (fun c16 => ?_)
      · replace c16 : v14 = 0 := c16
        show jGo E l 170 229 229 _ 102 [.inr (.inr (.inl 0)), .inl a1, .inl a2, .inr (.inr (.inl u4))] [] 229 jr0 h
        refine jGo_blk qX11_hullOf_102 ?_
        show jGo E l 170 229 229 _ 103 [.inr (.inr (.inl 0)), .inl a1, .inl a2, .inr (.inr (.inl u4))] [.inl 0] 229 jr0 h
        refine jGo_blk qX11_hullOf_103 ?_
        exact st_r0 (ls := []) ⟨rfl, rfl, f0, 0, rfl, trivial, trivial⟩
      · replace c16 : ¬ v14 = 0 := by first | exact c16 | exact Int.not_le.mp c16 | exact Int.not_lt.mp c16 | exact Decidable.not_not.mp c16
        show jGo E l 170 229 229 _ 103 [.inr (.inr (.inl 0)), .inl a1, .inl a2, .inr (.inr (.inl u4))] [.inl 1] 229 jr0 h
        refine jGo_blk qX11_hullOf_103 ?_
        exact st_r0 (ls := []) ⟨rfl, rfl, f0, 1, rfl, trivial, trivial⟩
    · replace c5 : a2 = 4 := c5
      show jGo E l 170 229 229 _ 104 [.inr (.inr (.inl 0)), .inl a1, .inl a2, .inr (.inr (.inl u4))] [] 229 jr0 h
      refine jGo_blk qX11_hullOf_104 ?_
      refine st_gi hu4.1 (fun v17 ev17 b18 => ?_)
      replace ev17 : v17 = h u4 8 := ev17
      replace b18 := (jbf_4_8 hu4.1 _).1 b18
      exact st_r0 (ls := []) ⟨rfl, rfl, f0, v17, rfl, trivial, trivial⟩
    · replace c5 : a2 = 5 := c5
      show jGo E l 170 229 229 _ 109 [.inr (.inr (.inl 0)), .inl a1, .inl a2, .inr (.inr (.inl u4))] [] 229 jr0 h
      refine jGo_blk qX11_hullOf_109 ?_
      refine st_gi hu4.1 (fun v19 ev19 b20 => ?_)
      replace ev19 : v19 = h u4 1 := ev19
      replace b20 := (jbf_4_1 hu4.1 _).1 b20
      exact st_r0 (ls := []) ⟨rfl, rfl, f0, v19, rfl, trivial, trivial⟩
    · replace c5 : a2 = 6 := c5
      show jGo E l 170 229 229 _ 114 [.inr (.inr (.inl 0)), .inl a1, .inl a2, .inr (.inr (.inl u4))] [] 229 jr0 h
      refine jGo_blk qX11_hullOf_114 ?_
      refine st_gi hu4.1 (fun v21 ev21 b22 => ?_)
      replace ev21 : v21 = h u4 0 := ev21
      replace b22 := (jbf_4_0 hu4.1 _).1 b22
      exact st_r0 (ls := []) ⟨rfl, rfl, f0, v21, rfl, trivial, trivial⟩
    · replace c5 : a2 = 7 := c5
      show jGo E l 170 229 229 _ 119 [.inr (.inr (.inl 0)), .inl a1, .inl a2, .inr (.inr (.inl u4))] [] 229 jr0 h
      refine jGo_blk qX11_hullOf_119 ?_
      refine st_gi hu4.1 (fun v23 ev23 b24 => ?_)
      replace ev23 : v23 = h u4 2 := ev23
      replace b24 := (jbf_4_2 hu4.1 _).1 b24
      exact st_r0 (ls := []) ⟨rfl, rfl, f0, v23, rfl, trivial, trivial⟩
    · replace c5 : a2 = 8 := c5
      show jGo E l 170 229 229 _ 124 [.inr (.inr (.inl 0)), .inl a1, .inl a2, .inr (.inr (.inl u4))] [] 229 jr0 h
      refine jGo_blk qX11_hullOf_124 ?_
      refine st_gi hu4.1 (fun v25 ev25 b26 => ?_)
      replace ev25 : v25 = h u4 9 := ev25
      replace b26 := (jbf_4_9 hu4.1 _).1 b26
      exact st_r0 (ls := []) ⟨rfl, rfl, f0, v25, rfl, trivial, trivial⟩
  · replace c3 : t1 = 0 := by first | exact c3 | exact Int.not_le.mp c3 | exact Int.not_lt.mp c3 | exact Decidable.not_not.mp c3
    refine st_cv (na := 1) (st := [.inl (-1), .inr (.inr (.inl 0))]) jo_0 rfl rfl rfl (c_X11_refused (-1) h (by omega)) rfl ?_
    rintro _ _ g28 ⟨rfl, ft27, t27, rfl, ht27, zt27⟩ kt27
    replace kt27 : -2147483648 ≤ t27 ∧ t27 ≤ 2147483647 := kt27
    replace ht27 : -7 ≤ t27 ∧ t27 ≤ -1 := ht27
    have fg28 : jfr w_X11_hullOf h g28 := jfr_tr f0 ft27 (fun i k q => by unfold w_X11_refused at q; unfold w_X11_hullOf; omega)
    replace zt27 : t27 = (-1 : Int) := zt27
    exact st_r0 (ls := []) ⟨rfl, rfl, fg28, t27, rfl, trivial, trivial⟩

def w_X12_hullOf (i k : Int) : Prop := (i = 219)
def k_X12_hullOf (a1 : Int) (a2 : Int) (h : JH) (v : Option JV) (r' g : JH) : Prop := r' = jr0 ∧ jfr w_X12_hullOf h g ∧ ∃ x : Int, v = some (.inl x) ∧ (True) ∧ (True)
set_option maxHeartbeats 4000000 in
theorem c_X12_hullOf {E : JE} {l : Launch} (a1 : Int) (a2 : Int) (h : JH) : jMt E l 171 [.inr (.inr (.inl 176)), .inl a1, .inl a2] 229 jr0 h (k_X12_hullOf a1 a2 h) := by
  refine jMt0 (nL := 3) (ls := [.inr (.inr (.inl 176)), .inl a1, .inl a2]) (by decide +kernel) (by decide +kernel) (by decide +kernel) rfl rfl ?_
  have f0 : jfr w_X12_hullOf h h := jfr_rf _ _
  refine jGo_blk qX12_hullOf_0 ?_
  refine st_cv (na := 1) (st := [.inl a1, .inr (.inr (.inl 176))]) jo_176 rfl rfl rfl (c_X12_isHull a1 h) rfl ?_
  rintro _ _ _ ⟨rfl, rfl, t1, rfl, ht1, zt1⟩ kt1
  replace kt1 : -2147483648 ≤ t1 ∧ t1 ≤ 2147483647 := kt1
  replace ht1 : 0 ≤ t1 ∧ t1 ≤ 1 := ht1
  replace zt1 : (t1 = 1 ∧ 0 ≤ a1 ∧ a1 < h 176 14 ∧ h 176 14 ≤ 16) ∨ (t1 = 0 ∧ ¬ (0 ≤ a1 ∧ a1 < h 176 14)) := zt1
  refine And.intro (fun c3 => ?_) (fun c3 => ?_)
  · replace c3 : ¬ t1 = 0 := c3
    show jGo E l 171 229 229 _ 14 [.inr (.inr (.inl 176)), .inl a1, .inl a2] [] 229 jr0 h
    refine jGo_blk qX12_hullOf_14 ?_
    refine And.intro (fun c4 => ?_) (And.intro (fun c4 => ?_) (And.intro (fun c4 => ?_) (And.intro (fun c4 => ?_) (And.intro (fun c4 => ?_) (And.intro (fun c4 => ?_) (And.intro (fun c4 => ?_) (And.intro (fun c4 => ?_) (And.intro (fun c4 => ?_) (And.intro (fun c4 => ?_) (trivial))))))))))
    · replace c4 : a2 < 0 ∨ 8 < a2 := c4
      show jGo E l 171 229 229 _ 159 [.inr (.inr (.inl 176)), .inl a1, .inl a2] [] 229 jr0 h
      refine jGo_blk qX12_hullOf_159 ?_
      refine st_cv (na := 1) (st := [.inl (-2), .inr (.inr (.inl 176))]) jo_176 rfl rfl rfl (c_X12_refuse (-2) h (by omega)) rfl ?_
      rintro _ _ g6 ⟨rfl, ft5, t5, rfl, ht5, zt5⟩ kt5
      replace kt5 : -2147483648 ≤ t5 ∧ t5 ≤ 2147483647 := kt5
      replace ht5 : -7 ≤ t5 ∧ t5 ≤ -1 := ht5
      have fg6 : jfr w_X12_hullOf h g6 := jfr_tr f0 ft5 (fun i k q => by unfold w_X12_refuse at q; unfold w_X12_hullOf; omega)
      replace zt5 : t5 = (-2 : Int) := zt5
      exact st_r0 (ls := []) ⟨rfl, rfl, fg6, t5, rfl, trivial, trivial⟩
    · replace c4 : a2 = 0 := c4
      show jGo E l 171 229 229 _ 64 [.inr (.inr (.inl 176)), .inl a1, .inl a2] [] 229 jr0 h
      refine jGo_blk qX12_hullOf_64 ?_
      refine st_gr jo_176 jr_176_18 ?_
      refine st_ai jo_192 (show 0 ≤ a1 by omega) (show a1 < ((16 : Nat) : Int) by omega) (fun v7 ev7 b8 => ?_)
      replace ev7 : v7 = h 192 a1 := ev7
      replace b8 := (jba_192 a1 _).1 b8
      exact st_r0 (ls := []) ⟨rfl, rfl, f0, v7, rfl, trivial, trivial⟩
    · replace c4 : a2 = 1 := c4
      show jGo E l 171 229 229 _ 71 [.inr (.inr (.inl 176)), .inl a1, .inl a2] [] 229 jr0 h
      refine jGo_blk qX12_hullOf_71 ?_
      refine st_gr jo_176 jr_176_19 ?_
      refine st_ai jo_193 (show 0 ≤ a1 by omega) (show a1 < ((16 : Nat) : Int) by omega) (fun v9 ev9 b10 => ?_)
      replace ev9 : v9 = h 193 a1 := ev9
      replace b10 := (jba_193 a1 _).1 b10
      exact st_r0 (ls := []) ⟨rfl, rfl, f0, v9, rfl, trivial, trivial⟩
    · replace c4 : a2 = 2 := c4
      show jGo E l 171 229 229 _ 78 [.inr (.inr (.inl 176)), .inl a1, .inl a2] [] 229 jr0 h
      refine jGo_blk qX12_hullOf_78 ?_
      refine st_gr jo_176 jr_176_18 ?_
      refine st_ai jo_192 (show 0 ≤ a1 by omega) (show a1 < ((16 : Nat) : Int) by omega) (fun v11 ev11 b12 => ?_)
      replace ev11 : v11 = h 192 a1 := ev11
      replace b12 := (jba_192 a1 _).1 b12
      refine And.intro (fun c13 => ?_) (fun c13 => ?_)
      · replace c13 : ¬ v11 = 1 := c13
        show jGo E l 171 229 229 _ 97 [.inr (.inr (.inl 176)), .inl a1, .inl a2] [] 229 jr0 h
        refine jGo_blk qX12_hullOf_97 ?_
        show jGo E l 171 229 229 _ 98 [.inr (.inr (.inl 176)), .inl a1, .inl a2] [.inl 0] 229 jr0 h
        refine jGo_blk qX12_hullOf_98 ?_
        exact st_r0 (ls := []) ⟨rfl, rfl, f0, 0, rfl, trivial, trivial⟩
      · replace c13 : v11 = 1 := by first | exact c13 | exact Int.not_le.mp c13 | exact Int.not_lt.mp c13 | exact Decidable.not_not.mp c13
        refine st_gr jo_176 jr_176_21 ?_
        refine st_ai jo_195 (show 0 ≤ a1 by omega) (show a1 < ((16 : Nat) : Int) by omega) (fun v14 ev14 b15 => ?_)
        replace ev14 : v14 = h 195 a1 := ev14
        replace b15 := (jba_195 a1 _).1 b15
        show jGo E l 171 229 229 _ 98 [.inr (.inr (.inl 176)), .inl a1, .inl a2] [.inl v14] 229 jr0 h
        refine jGo_blk qX12_hullOf_98 ?_
        exact st_r0 (ls := []) ⟨rfl, rfl, f0, v14, rfl, trivial, trivial⟩
    · replace c4 : a2 = 3 := c4
      show jGo E l 171 229 229 _ 99 [.inr (.inr (.inl 176)), .inl a1, .inl a2] [] 229 jr0 h
      refine jGo_blk qX12_hullOf_99 ?_
      refine st_gr jo_176 jr_176_18 ?_
      refine st_ai jo_192 (show 0 ≤ a1 by omega) (show a1 < ((16 : Nat) : Int) by omega) (fun v16 ev16 b17 => ?_)
      replace ev16 : v16 = h 192 a1 := ev16
      replace b17 := (jba_192 a1 _).1 b17
      refine And.intro (fun c18 => ?_) (fun c18 => ?_)
      · replace c18 : ¬ v16 = 1 := c18
        show jGo E l 171 229 229 _ 122 [.inr (.inr (.inl 176)), .inl a1, .inl a2] [] 229 jr0 h
        refine jGo_blk qX12_hullOf_122 ?_
        show jGo E l 171 229 229 _ 123 [.inr (.inr (.inl 176)), .inl a1, .inl a2] [.inl 0] 229 jr0 h
        refine jGo_blk qX12_hullOf_123 ?_
        exact st_r0 (ls := []) ⟨rfl, rfl, f0, 0, rfl, trivial, trivial⟩
      · replace c18 : v16 = 1 := by first | exact c18 | exact Int.not_le.mp c18 | exact Int.not_lt.mp c18 | exact Decidable.not_not.mp c18
        refine st_gr jo_176 jr_176_22 ?_
        refine st_bi jo_196 (show 0 ≤ a1 by omega) (show a1 < ((16 : Nat) : Int) by omega) (fun v19 ev19 b20 => ?_)
        replace ev19 : v19 = h 196 a1 := ev19
        replace b20 := (jba_196 a1 _).1 b20
        refine And.intro (fun c21 => ?_) (fun c21 => ?_)
        · replace c21 : v19 = 0 := c21
          show jGo E l 171 229 229 _ 122 [.inr (.inr (.inl 176)), .inl a1, .inl a2] [] 229 jr0 h
          refine jGo_blk qX12_hullOf_122 ?_
          show jGo E l 171 229 229 _ 123 [.inr (.inr (.inl 176)), .inl a1, .inl a2] [.inl 0] 229 jr0 h
          refine jGo_blk qX12_hullOf_123 ?_
          exact st_r0 (ls := []) ⟨rfl, rfl, f0, 0, rfl, trivial, trivial⟩
        · replace c21 : ¬ v19 = 0 := by first | exact c21 | exact Int.not_le.mp c21 | exact Int.not_lt.mp c21 | exact Decidable.not_not.mp c21
          show jGo E l 171 229 229 _ 123 [.inr (.inr (.inl 176)), .inl a1, .inl a2] [.inl 1] 229 jr0 h
          refine jGo_blk qX12_hullOf_123 ?_
          exact st_r0 (ls := []) ⟨rfl, rfl, f0, 1, rfl, trivial, trivial⟩
    · replace c4 : a2 = 4 := c4
      show jGo E l 171 229 229 _ 124 [.inr (.inr (.inl 176)), .inl a1, .inl a2] [] 229 jr0 h
      refine jGo_blk qX12_hullOf_124 ?_
      refine st_gr jo_176 jr_176_23 ?_
      refine st_ai jo_197 (show 0 ≤ a1 by omega) (show a1 < ((16 : Nat) : Int) by omega) (fun v22 ev22 b23 => ?_)
      replace ev22 : v22 = h 197 a1 := ev22
      replace b23 := (jba_197 a1 _).1 b23
      exact st_r0 (ls := []) ⟨rfl, rfl, f0, v22, rfl, trivial, trivial⟩
    · replace c4 : a2 = 5 := c4
      show jGo E l 171 229 229 _ 131 [.inr (.inr (.inl 176)), .inl a1, .inl a2] [] 229 jr0 h
      refine jGo_blk qX12_hullOf_131 ?_
      refine st_gr jo_176 jr_176_16 ?_
      refine st_ai jo_190 (show 0 ≤ a1 by omega) (show a1 < ((16 : Nat) : Int) by omega) (fun v24 ev24 b25 => ?_)
      replace ev24 : v24 = h 190 a1 := ev24
      replace b25 := (jba_190 a1 _).1 b25
      exact st_r0 (ls := []) ⟨rfl, rfl, f0, v24, rfl, trivial, trivial⟩
    · replace c4 : a2 = 6 := c4
      show jGo E l 171 229 229 _ 138 [.inr (.inr (.inl 176)), .inl a1, .inl a2] [] 229 jr0 h
      refine jGo_blk qX12_hullOf_138 ?_
      refine st_gr jo_176 jr_176_15 ?_
      refine st_ai jo_189 (show 0 ≤ a1 by omega) (show a1 < ((16 : Nat) : Int) by omega) (fun v26 ev26 b27 => ?_)
      replace ev26 : v26 = h 189 a1 := ev26
      replace b27 := (jba_189 a1 _).1 b27
      exact st_r0 (ls := []) ⟨rfl, rfl, f0, v26, rfl, trivial, trivial⟩
    · replace c4 : a2 = 7 := c4
      show jGo E l 171 229 229 _ 145 [.inr (.inr (.inl 176)), .inl a1, .inl a2] [] 229 jr0 h
      refine jGo_blk qX12_hullOf_145 ?_
      refine st_gr jo_176 jr_176_17 ?_
      refine st_ai jo_191 (show 0 ≤ a1 by omega) (show a1 < ((16 : Nat) : Int) by omega) (fun v28 ev28 b29 => ?_)
      replace ev28 : v28 = h 191 a1 := ev28
      replace b29 := (jba_191 a1 _).1 b29
      exact st_r0 (ls := []) ⟨rfl, rfl, f0, v28, rfl, trivial, trivial⟩
    · replace c4 : a2 = 8 := c4
      show jGo E l 171 229 229 _ 152 [.inr (.inr (.inl 176)), .inl a1, .inl a2] [] 229 jr0 h
      refine jGo_blk qX12_hullOf_152 ?_
      refine st_gr jo_176 jr_176_24 ?_
      refine st_ai jo_198 (show 0 ≤ a1 by omega) (show a1 < ((16 : Nat) : Int) by omega) (fun v30 ev30 b31 => ?_)
      replace ev30 : v30 = h 198 a1 := ev30
      replace b31 := (jba_198 a1 _).1 b31
      exact st_r0 (ls := []) ⟨rfl, rfl, f0, v30, rfl, trivial, trivial⟩
  · replace c3 : t1 = 0 := by first | exact c3 | exact Int.not_le.mp c3 | exact Int.not_lt.mp c3 | exact Decidable.not_not.mp c3
    refine st_cv (na := 1) (st := [.inl (-1), .inr (.inr (.inl 176))]) jo_176 rfl rfl rfl (c_X12_refuse (-1) h (by omega)) rfl ?_
    rintro _ _ g33 ⟨rfl, ft32, t32, rfl, ht32, zt32⟩ kt32
    replace kt32 : -2147483648 ≤ t32 ∧ t32 ≤ 2147483647 := kt32
    replace ht32 : -7 ≤ t32 ∧ t32 ≤ -1 := ht32
    have fg33 : jfr w_X12_hullOf h g33 := jfr_tr f0 ft32 (fun i k q => by unfold w_X12_refuse at q; unfold w_X12_hullOf; omega)
    replace zt32 : t32 = (-1 : Int) := zt32
    exact st_r0 (ls := []) ⟨rfl, rfl, fg33, t32, rfl, trivial, trivial⟩
