def w_X12_findLeast (i k : Int) : Prop := (i = 181) ∨ (i = 190) ∨ (192 ≤ i ∧ i ≤ 200) ∨ (i = 202) ∨ (224 ≤ i ∧ i ≤ 225) ∨ (227 ≤ i ∧ i ≤ 228) ∨ (i = 176 ∧ k = 0) ∨ (i = 176 ∧ 30 ≤ k ∧ k ≤ 32)
def k_X12_findLeast (h : JH) (v : Option JV) (r' g : JH) : Prop := r' = jr0 ∧ jfr w_X12_findLeast h g ∧ ∃ x : Int, v = some (.inl x) ∧ (True) ∧ ((g 176 0 = h 176 0) ∧ ∀ L k : Int, jlv L k → g L k = h L k)
set_option maxHeartbeats 4000000 in
theorem c_X12_findLeast {E : JE} {l : Launch} (h : JH) (q0 : h 176 0 ≤ 2000) (q1 : h 176 62 ≤ 5) : jMt E l 166 [.inr (.inr (.inl 176))] 229 jr0 h (k_X12_findLeast h) := by
  refine jMt0 (nL := 7) (ls := [.inr (.inr (.inl 176)), .inr (.inr (.inr ())), .inr (.inr (.inr ())), .inr (.inr (.inr ())), .inr (.inr (.inr ())), .inr (.inr (.inr ())), .inr (.inr (.inr ()))]) (by decide +kernel) (by decide +kernel) (by decide +kernel) rfl rfl ?_
  have f0 : jfr w_X12_findLeast h h := jfr_rf _ _
  refine jGo_bd (fun hbd => ?_)
  have hb0 := (jbf_12_62 jo_176 _).1 (hbd 176 62)
  have hb9 : ∀ k : Int, 0 ≤ k → k < 16 → h 196 k = 0 ∨ h 196 k = 1 := fun k _ _ => by have := (jba_196 k _).1 (hbd 196 k); omega
  have key : ∀ N : Nat, (∀ (x1 : Int) (x2 : Int) (g : JH), (1 ≤ x1 ∧ x1 ≤ 120 ∧ 2 ≤ x2 ∧ x2 ≤ 6) → (jWf x2 x1) → (g 176 62 = h 176 62) → (g 176 0 = h 176 0) → (x2 = 2 ∨ x2 ≤ g 176 62 + 1) → (∀ L k : Int, jlv L k → g L k = h L k) → jfr w_X12_findLeast h g → ((6 - x2) + 20000) * 1000000 + 999999 < (N : Int) → jGo E l 166 229 229 (jRK (k_X12_findLeast h)) 4 [.inr (.inr (.inl 176)), .inl x1, .inl x2, .inr (.inr (.inr ())), .inr (.inr (.inr ())), .inr (.inr (.inr ())), .inr (.inr (.inr ()))] [] 229 jr0 g) ∧
      (∀ (x1 : Int) (x2 : Int) (x3 : Int) (x4 : JV) (x5 : JV) (x6 : JV) (g : JH), (1 ≤ x1 ∧ x1 ≤ 120 ∧ 0 ≤ x3 ∧ x3 ≤ 120) → (jWr (g 176 62) x1) → (g 176 62 = h 176 62) → (g 176 0 = h 176 0) → (∀ L k : Int, jlv L k → g L k = h L k) → jfr w_X12_findLeast h g → (120 - x3) * 1000000 + 999999 < (N : Int) → jGo E l 166 229 229 (jRK (k_X12_findLeast h)) 26 [.inr (.inr (.inl 176)), .inl x1, .inl x2, .inl x3, x4, x5, x6] [] 229 jr0 g) ∧
      (∀ (x1 : Int) (x2 : Int) (x3 : Int) (x4 : Int) (x5 : Int) (x6 : JV) (g : JH), (1 ≤ x1 ∧ x1 ≤ 120 ∧ 0 ≤ x3 ∧ x3 ≤ 119 ∧ 0 ≤ x4 ∧ x4 ≤ 2300 ∧ 0 ≤ x5 ∧ x5 ≤ 5) → (jWr (g 176 62) x1) → (g 176 62 = h 176 62) → (g 176 0 = h 176 0) → (g 224 0 = h 176 0 ∧ x3 < x1) → (jSav h g) → jfr w_X12_findLeast h g → (120 - x3) * 1000000 + (5 - x5) + 40000 < (N : Int) → jGo E l 166 229 229 (jRK (k_X12_findLeast h)) 50 [.inr (.inr (.inl 176)), .inl x1, .inl x2, .inl x3, .inl x4, .inl x5, x6] [] 229 jr0 g) ∧
      (∀ (x1 : Int) (x2 : Int) (x3 : Int) (x4 : Int) (x5 : Int) (x6 : Int) (g : JH), (1 ≤ x1 ∧ x1 ≤ 120 ∧ 0 ≤ x3 ∧ x3 ≤ 119 ∧ 0 ≤ x4 ∧ x4 ≤ 2300 ∧ 0 ≤ x6 ∧ x6 ≤ 5) → (jWr (g 176 62) x1) → (g 176 62 = h 176 62) → (g 224 0 = h 176 0 ∧ x3 < x1) → (jSav h g) → jfr w_X12_findLeast h g → (120 - x3) * 1000000 + (5 - x6) + 20000 < (N : Int) → jGo E l 166 229 229 (jRK (k_X12_findLeast h)) 92 [.inr (.inr (.inl 176)), .inl x1, .inl x2, .inl x3, .inl x4, .inl x5, .inl x6] [] 229 jr0 g) ∧
      (∀ (x1 : Int) (x2 : Int) (x3 : Int) (x4 : Int) (x5 : Int) (x6 : Int) (g : JH), (1 ≤ x1 ∧ x1 ≤ 120 ∧ 0 ≤ x3 ∧ x3 ≤ 119 ∧ 0 ≤ x4 ∧ x4 ≤ 2300 ∧ 0 ≤ x6 ∧ x6 ≤ 5) → (jWr (g 176 62) x1) → (g 176 62 = h 176 62) → (g 176 0 = h 176 0) → (x3 < x1) → (∀ L k : Int, jlv L k → g L k = h L k) → jfr w_X12_findLeast h g → (120 - x3) * 1000000 + (5 - x6) < (N : Int) → jGo E l 166 229 229 (jRK (k_X12_findLeast h)) 162 [.inr (.inr (.inl 176)), .inl x1, .inl x2, .inl x3, .inl x4, .inl x5, .inl x6] [] 229 jr0 g) := by
    intro N
    induction N with
    | zero => exact ⟨fun _ _ _ hi hx0 hx1 hx2 hx3 hx4 _ hN => absurd hN (by omega), fun _ _ _ _ _ _ _ hi hx0 hx1 hx2 hx3 _ hN => absurd hN (by omega), fun _ _ _ _ _ _ _ hi hx0 hx1 hx2 hx3 hx4 _ hN => absurd hN (by omega), fun _ _ _ _ _ _ _ hi hx0 hx1 hx2 hx3 _ hN => absurd hN (by omega), fun _ _ _ _ _ _ _ hi hx0 hx1 hx2 hx3 hx4 _ hN => absurd hN (by omega)⟩
    | succ N ih =>
      refine ⟨?_, ?_, ?_, ?_, ?_⟩
      · intro x1 x2 g hi hx0 hx1 hx2 hx3 hx4 hf hN
        refine jGo_blk qX12_findLeast_4 ?_
        refine st_gi jo_176 (fun v1 ev1 b2 => ?_)
        replace ev1 : v1 = g 176 62 := ev1
        replace b2 := (jbf_12_62 jo_176 _).1 b2
        refine And.intro (fun c3 => ?_) (fun c3 => ?_)
        · replace c3 : v1 < x2 := c3
          show jGo E l 166 229 229 _ 22 [.inr (.inr (.inl 176)), .inl x1, .inl x2, .inr (.inr (.inr ())), .inr (.inr (.inr ())), .inr (.inr (.inr ())), .inr (.inr (.inr ()))] [] 229 jr0 g
          refine jGo_blk qX12_findLeast_22 ?_
          show jGo E l 166 229 229 _ 26 [.inr (.inr (.inl 176)), .inl x1, .inl (-1), .inl 0, .inr (.inr (.inr ())), .inr (.inr (.inr ())), .inr (.inr (.inr ()))] [] 229 jr0 g
          have hc4 : ∀ L k : Int, jlv L k → g L k = h L k := fun L k q => by have q9 := jlv_o q; exact hx4 L k q
          exact ih.2.1 x1 (-1) 0 (.inr (.inr (.inr ()))) (.inr (.inr (.inr ()))) (.inr (.inr (.inr ()))) g (by omega) (by have q9 := hx0; unfold jWf at q9; unfold jWr; omega) (by omega) (by omega) (by exact hc4) hf (by omega)
        · replace c3 : x2 ≤ v1 := by first | exact c3 | exact Int.not_le.mp c3 | exact Int.not_lt.mp c3 | exact Decidable.not_not.mp c3
          have hm9 : (jw32 (x1 * x2) = 2 ∧ x2 = 2) ∨ (jw32 (x1 * x2) = 6 ∧ x2 = 3) ∨ (jw32 (x1 * x2) = 24 ∧ x2 = 4) ∨ (jw32 (x1 * x2) = 120 ∧ x2 = 5) := by rcases hx0 with ⟨q1, q2⟩ | ⟨q1, q2⟩ | ⟨q1, q2⟩ | ⟨q1, q2⟩ | ⟨q1, q2⟩ <;> first | (exfalso; omega) | (rw [q1, q2]; decide)
          have e5 : jw32 (x2 + 1) = x2 + 1 := j32e (by omega) (by omega)
          show jGo E l 166 229 229 _ 4 [.inr (.inr (.inl 176)), .inl (jw32 (x1 * x2)), .inl (jw32 (x2 + 1)), .inr (.inr (.inr ())), .inr (.inr (.inr ())), .inr (.inr (.inr ())), .inr (.inr (.inr ()))] [] 229 jr0 g
          have hc6 : ∀ L k : Int, jlv L k → g L k = h L k := fun L k q => by have q9 := jlv_o q; exact hx4 L k q
          exact ih.1 (jw32 (x1 * x2)) (jw32 (x2 + 1)) g (by omega) (by unfold jWf; omega) (by omega) (by omega) (by omega) (by exact hc6) hf (by omega)
      · intro x1 x2 x3 x4 x5 x6 g hi hx0 hx1 hx2 hx3 hf hN
        refine jGo_ok (fun hls _ => ?_)
        have rx2 : -2147483648 ≤ x2 ∧ x2 ≤ 2147483647 := hls (.inl x2) (by simp)
        refine jGo_blk qX12_findLeast_26 ?_
        refine And.intro (fun c7 => ?_) (fun c7 => ?_)
        · replace c7 : x1 ≤ x3 := c7
          show jGo E l 166 229 229 _ 197 [.inr (.inr (.inl 176)), .inl x1, .inl x2, .inl x3, x4, x5, x6] [] 229 jr0 g
          refine jGo_blk qX12_findLeast_197 ?_
          exact st_r0 (ls := []) ⟨rfl, rfl, hf, x2, rfl, trivial, (by exact ⟨by omega, hx3⟩)⟩
        · replace c7 : x3 < x1 := by first | exact c7 | exact Int.not_le.mp c7 | exact Int.not_lt.mp c7 | exact Decidable.not_not.mp c7
          refine st_cv (na := 1) (st := [.inl x3, .inr (.inr (.inl 176))]) jo_176 rfl rfl rfl (c_X12_findOrder x3 g (by omega) (by omega) (by have q9 := hx0; unfold jWr at q9; unfold jWq; omega)) rfl ?_
          rintro _ _ g9 ⟨rfl, ft8, rfl, zt8⟩ kt8
          have fg9 : jfr w_X12_findLeast h g9 := jfr_tr hf ft8 (fun i k q => by unfold w_X12_findOrder at q; unfold w_X12_findLeast; omega)
          have e10 : g9 176 0 = g 176 0 := ft8 176 0 (by unfold w_X12_findOrder; omega)
          refine st_cv (na := 1) (st := [.inl 0, .inr (.inr (.inl 176))]) jo_176 rfl rfl rfl (c_X12_aside 0 g9 (by omega)) rfl ?_
          rintro _ _ g12 ⟨rfl, ft11, rfl, zt11⟩ kt11
          have fg12 : jfr w_X12_findLeast h g12 := jfr_tr fg9 ft11 (fun i k q => by unfold w_X12_aside at q; unfold w_X12_findLeast; omega)
          replace zt11 : (((0 : Int) = 0 → g12 224 0 = g9 176 0 ∧ g12 176 0 = g9 176 0) ∧ (¬ (0 : Int) = 0 → g12 176 0 = g9 224 0)) ∧ g12 = jAs (0 : Int) g9 := zt11
          have y13 := zt11.2
          refine st_gi jo_176 (fun v14 ev14 b15 => ?_)
          replace ev14 : v14 = g12 176 0 := ev14
          replace b15 := (jbf_12_0 jo_176 _).1 b15
          show jGo E l 166 229 229 _ 50 [.inr (.inr (.inl 176)), .inl x1, .inl x2, .inl x3, .inl v14, .inl 0, x6] [] 229 jr0 g12
          have e16 : g12 176 62 = g9 176 62 := ft11 176 62 (by unfold w_X12_aside; omega)
          have e17 : g9 176 62 = g 176 62 := ft8 176 62 (by unfold w_X12_findOrder; omega)
          have e18 : g12 176 62 = g9 176 62 := ft11 176 62 (by unfold w_X12_aside; omega)
          have e19 : g9 176 62 = g 176 62 := ft8 176 62 (by unfold w_X12_findOrder; omega)
          have hc20 : jSav h g12 := by
            have lv : ∀ L k : Int, jlv L k → g9 L k = h L k := fun L k q => by have q9 := jlv_o q; exact ((ft8 L k (by unfold w_X12_findOrder; omega))).trans (hx3 L k q)
            have s9 := (jAs_save (h := g9) (fun k a b => by rw [lv 196 k (Or.inl ⟨20 + 16 * k + 4, by unfold jLoc; omega⟩)]; exact hb9 k a b)).1
            rw [← show g12 = jAs 0 g9 from zt11.2] at s9
            have s8 := jSav_c lv s9
            exact s8
          exact ih.2.2.1 x1 x2 x3 v14 0 x6 g12 (by omega) (by rw [show g12 176 62 = g 176 62 by omega]; exact hx0) (by omega) (by omega) (by omega) (by exact hc20) fg12 (by omega)
      · intro x1 x2 x3 x4 x5 x6 g hi hx0 hx1 hx2 hx3 hx4 hf hN
        refine jGo_ok (fun hls _ => ?_)
        have rx2 : -2147483648 ≤ x2 ∧ x2 ≤ 2147483647 := hls (.inl x2) (by simp)
        refine jGo_blk qX12_findLeast_50 ?_
        refine st_gi jo_176 (fun v21 ev21 b22 => ?_)
        replace ev21 : v21 = g 176 62 := ev21
        replace b22 := (jbf_12_62 jo_176 _).1 b22
        refine And.intro (fun c23 => ?_) (fun c23 => ?_)
        · replace c23 : v21 ≤ x5 := c23
          show jGo E l 166 229 229 _ 82 [.inr (.inr (.inl 176)), .inl x1, .inl x2, .inl x3, .inl x4, .inl x5, x6] [] 229 jr0 g
          refine jGo_blk qX12_findLeast_82 ?_
          refine st_cv (na := 0) (st := [.inr (.inr (.inl 176))]) jo_176 rfl rfl rfl (c_X12_goAhead g (by omega)) rfl ?_
          rintro _ _ g25 ⟨rfl, ft24, rfl, zt24⟩ kt24
          have fg25 : jfr w_X12_findLeast h g25 := jfr_tr hf ft24 (fun i k q => by unfold w_X12_goAhead at q; unfold w_X12_findLeast; omega)
          replace zt24 : (g25 176 0 = g 176 0 + 300) ∧ g25 = jit jmPi 300 g := zt24
          have e26 : g25 224 0 = g 224 0 := ft24 224 0 (by unfold w_X12_goAhead; omega)
          show jGo E l 166 229 229 _ 92 [.inr (.inr (.inl 176)), .inl x1, .inl x2, .inl x3, .inl x4, .inl 0, .inl 0] [] 229 jr0 g25
          have e27 : g25 176 62 = g 176 62 := ft24 176 62 (by unfold w_X12_goAhead; omega)
          have e28 : g25 176 62 = g 176 62 := ft24 176 62 (by unfold w_X12_goAhead; omega)
          have e29 : g25 224 0 = g 224 0 := ft24 224 0 (by unfold w_X12_goAhead; omega)
          have hc30 : jSav h g25 := by
            exact jSav_fr (fun a c q1 q2 => (ft24 a c (by unfold w_X12_goAhead; omega))) hx4
          exact ih.2.2.2.1 x1 x2 x3 x4 0 0 g25 (by omega) (by rw [show g25 176 62 = g 176 62 by omega]; exact hx0) (by omega) (by omega) (by exact hc30) fg25 (by omega)
        · replace c23 : x5 < v21 := by first | exact c23 | exact Int.not_le.mp c23 | exact Int.not_lt.mp c23 | exact Decidable.not_not.mp c23
          refine st_gr jo_176 jr_176_16 ?_
          refine st_gr jo_176 jr_176_63 ?_
          refine st_ai jo_227 (show 0 ≤ x5 by omega) (show x5 < ((5 : Nat) : Int) by omega) (fun v31 ev31 b32 => ?_)
          replace ev31 : v31 = g 227 x5 := ev31
          replace b32 := (jba_227 x5 _).1 b32
          have e33 : jw32 (99 - x5) = 99 - x5 := j32e (by omega) (by omega)
          refine st_si jo_190 (show 0 ≤ v31 by omega) (show v31 < ((16 : Nat) : Int) by omega) (fun hx => (jba_190 _ _).2 (show 0 ≤ jw32 (99 - x5) ∧ jw32 (99 - x5) ≤ 99 by omega)) (fun g34 eg34 => ?_)
          replace eg34 : g34 = jup g 190 v31 (jw32 (99 - x5)) := eg34
          have fg34 : jfr w_X12_findLeast h g34 := jfr_up hf eg34 (by unfold w_X12_findLeast; omega)
          have e35 : g34 190 v31 = jw32 (99 - x5) := jup_s eg34
          have e36 : jw32 (x5 + 1) = x5 + 1 := j32e (by omega) (by omega)
          show jGo E l 166 229 229 _ 50 [.inr (.inr (.inl 176)), .inl x1, .inl x2, .inl x3, .inl x4, .inl (jw32 (x5 + 1)), x6] [] 229 jr0 g34
          have e37 : g34 176 62 = g 176 62 := jup_o eg34 (by omega)
          have e38 : g34 176 62 = g 176 62 := jup_o eg34 (by omega)
          have e39 : g34 176 0 = g 176 0 := jup_o eg34 (by omega)
          have e40 : g34 224 0 = g 224 0 := jup_o eg34 (by omega)
          have hc41 : jSav h g34 := by
            exact jSav_fr (fun a c q1 q2 => (jup_o eg34 (by omega))) hx4
          exact ih.2.2.1 x1 x2 x3 x4 (jw32 (x5 + 1)) x6 g34 (by omega) (by rw [show g34 176 62 = g 176 62 by omega]; exact hx0) (by omega) (by omega) (by omega) (by exact hc41) fg34 (by omega)
      · intro x1 x2 x3 x4 x5 x6 g hi hx0 hx1 hx2 hx3 hf hN
        refine jGo_ok (fun hls _ => ?_)
        have rx2 : -2147483648 ≤ x2 ∧ x2 ≤ 2147483647 := hls (.inl x2) (by simp)
        have rx5 : -2147483648 ≤ x5 ∧ x5 ≤ 2147483647 := hls (.inl x5) (by simp)
        refine jGo_blk qX12_findLeast_92 ?_
        refine st_gi jo_176 (fun v42 ev42 b43 => ?_)
        replace ev42 : v42 = g 176 62 := ev42
        replace b43 := (jbf_12_62 jo_176 _).1 b43
        refine And.intro (fun c44 => ?_) (fun c44 => ?_)
        · replace c44 : v42 ≤ x6 := c44
          show jGo E l 166 229 229 _ 141 [.inr (.inr (.inl 176)), .inl x1, .inl x2, .inl x3, .inl x4, .inl x5, .inl x6] [] 229 jr0 g
          refine jGo_blk qX12_findLeast_141 ?_
          refine st_cv (na := 1) (st := [.inl 1, .inr (.inr (.inl 176))]) jo_176 rfl rfl rfl (c_X12_aside 1 g (by omega)) rfl ?_
          rintro _ _ g46 ⟨rfl, ft45, rfl, zt45⟩ kt45
          have fg46 : jfr w_X12_findLeast h g46 := jfr_tr hf ft45 (fun i k q => by unfold w_X12_aside at q; unfold w_X12_findLeast; omega)
          replace zt45 : (((1 : Int) = 0 → g46 224 0 = g 176 0 ∧ g46 176 0 = g 176 0) ∧ (¬ (1 : Int) = 0 → g46 176 0 = g 224 0)) ∧ g46 = jAs (1 : Int) g := zt45
          have y47 := zt45.2
          refine And.intro (fun c48 => ?_) (fun c48 => ?_)
          · replace c48 : x2 < 0 := c48
            show jGo E l 166 229 229 _ 156 [.inr (.inr (.inl 176)), .inl x1, .inl x2, .inl x3, .inl x4, .inl x5, .inl x6] [] 229 jr0 g46
            refine jGo_blk qX12_findLeast_156 ?_
            show jGo E l 166 229 229 _ 162 [.inr (.inr (.inl 176)), .inl x1, .inl x5, .inl x3, .inl x4, .inl x5, .inl 0] [] 229 jr0 g46
            have e49 : g46 176 62 = g 176 62 := ft45 176 62 (by unfold w_X12_aside; omega)
            have e50 : g46 176 62 = g 176 62 := ft45 176 62 (by unfold w_X12_aside; omega)
            have hc51 : ∀ L k : Int, jlv L k → g46 L k = h L k := fun L k q => by
              have q9 := jlv_o q
              have s8 := hx3
              have s7 : g46 L k = h L k := by rw [show g46 = jAs 1 g from zt45.2]; exact (jAs_rest (by decide) s8).1 L k q
              exact s7
            exact ih.2.2.2.2 x1 x5 x3 x4 x5 0 g46 (by omega) (by rw [show g46 176 62 = g 176 62 by omega]; exact hx0) (by omega) (by omega) (by omega) (by exact hc51) fg46 (by omega)
          · replace c48 : 0 ≤ x2 := by first | exact c48 | exact Int.not_le.mp c48 | exact Int.not_lt.mp c48 | exact Decidable.not_not.mp c48
            refine And.intro (fun c52 => ?_) (fun c52 => ?_)
            · replace c52 : x2 ≤ x5 := c52
              show jGo E l 166 229 229 _ 191 [.inr (.inr (.inl 176)), .inl x1, .inl x2, .inl x3, .inl x4, .inl x5, .inl x6] [] 229 jr0 g46
              refine jGo_blk qX12_findLeast_191 ?_
              have e53 : jw32 (x3 + 1) = x3 + 1 := j32e (by omega) (by omega)
              show jGo E l 166 229 229 _ 26 [.inr (.inr (.inl 176)), .inl x1, .inl x2, .inl (jw32 (x3 + 1)), .inl x4, .inl x5, .inl x6] [] 229 jr0 g46
              have e54 : g46 176 62 = g 176 62 := ft45 176 62 (by unfold w_X12_aside; omega)
              have e55 : g46 176 62 = g 176 62 := ft45 176 62 (by unfold w_X12_aside; omega)
              have hc56 : ∀ L k : Int, jlv L k → g46 L k = h L k := fun L k q => by
                have q9 := jlv_o q
                have s8 := hx3
                have s7 : g46 L k = h L k := by rw [show g46 = jAs 1 g from zt45.2]; exact (jAs_rest (by decide) s8).1 L k q
                exact s7
              exact ih.2.1 x1 x2 (jw32 (x3 + 1)) (.inl x4) (.inl x5) (.inl x6) g46 (by omega) (by rw [show g46 176 62 = g 176 62 by omega]; exact hx0) (by omega) (by omega) (by exact hc56) fg46 (by omega)
            · replace c52 : x5 < x2 := by first | exact c52 | exact Int.not_le.mp c52 | exact Int.not_lt.mp c52 | exact Decidable.not_not.mp c52
              show jGo E l 166 229 229 _ 156 [.inr (.inr (.inl 176)), .inl x1, .inl x2, .inl x3, .inl x4, .inl x5, .inl x6] [] 229 jr0 g46
              refine jGo_blk qX12_findLeast_156 ?_
              show jGo E l 166 229 229 _ 162 [.inr (.inr (.inl 176)), .inl x1, .inl x5, .inl x3, .inl x4, .inl x5, .inl 0] [] 229 jr0 g46
              have e57 : g46 176 62 = g 176 62 := ft45 176 62 (by unfold w_X12_aside; omega)
              have e58 : g46 176 62 = g 176 62 := ft45 176 62 (by unfold w_X12_aside; omega)
              have hc59 : ∀ L k : Int, jlv L k → g46 L k = h L k := fun L k q => by
                have q9 := jlv_o q
                have s8 := hx3
                have s7 : g46 L k = h L k := by rw [show g46 = jAs 1 g from zt45.2]; exact (jAs_rest (by decide) s8).1 L k q
                exact s7
              exact ih.2.2.2.2 x1 x5 x3 x4 x5 0 g46 (by omega) (by rw [show g46 176 62 = g 176 62 by omega]; exact hx0) (by omega) (by omega) (by omega) (by exact hc59) fg46 (by omega)
        · replace c44 : x6 < v42 := by first | exact c44 | exact Int.not_le.mp c44 | exact Int.not_lt.mp c44 | exact Decidable.not_not.mp c44
          refine st_gr jo_176 jr_176_24 ?_
          refine st_gr jo_176 jr_176_63 ?_
          refine st_ai jo_227 (show 0 ≤ x6 by omega) (show x6 < ((5 : Nat) : Int) by omega) (fun v60 ev60 b61 => ?_)
          replace ev60 : v60 = g 227 x6 := ev60
          replace b61 := (jba_227 x6 _).1 b61
          refine st_ai jo_198 (show 0 ≤ v60 by omega) (show v60 < ((16 : Nat) : Int) by omega) (fun v62 ev62 b63 => ?_)
          replace ev62 : v62 = g 198 v60 := ev62
          replace b63 := (jba_198 v60 _).1 b63
          refine st_gr jo_176 jr_176_17 ?_
          refine st_gr jo_176 jr_176_63 ?_
          refine st_ai jo_227 (show 0 ≤ x6 by omega) (show x6 < ((5 : Nat) : Int) by omega) (fun v64 ev64 b65 => ?_)
          replace ev64 : v64 = g 227 x6 := ev64
          replace b65 := (jba_227 x6 _).1 b65
          refine st_ai jo_191 (show 0 ≤ v64 by omega) (show v64 < ((16 : Nat) : Int) by omega) (fun v66 ev66 b67 => ?_)
          replace ev66 : v66 = g 191 v64 := ev66
          replace b67 := (jba_191 v64 _).1 b67
          refine st_cs (na := 3) (st := [.inl v66, .inl x4, .inl v62, .inl x5]) rfl rfl rfl (c_X12_lateBy v62 x4 v66 g) rfl ?_
          rintro _ _ _ ⟨rfl, rfl, t68, rfl, ht68, zt68⟩ kt68
          replace kt68 : -2147483648 ≤ t68 ∧ t68 ≤ 2147483647 := kt68
          have e70 : jw32 (x6 + 1) = x6 + 1 := j32e (by omega) (by omega)
          show jGo E l 166 229 229 _ 92 [.inr (.inr (.inl 176)), .inl x1, .inl x2, .inl x3, .inl x4, .inl (jw32 (x5 + t68)), .inl (jw32 (x6 + 1))] [] 229 jr0 g
          have hc71 : jSav h g := by
            exact hx3
          exact ih.2.2.2.1 x1 x2 x3 x4 (jw32 (x5 + t68)) (jw32 (x6 + 1)) g (by omega) (by exact hx0) (by omega) (by omega) (by exact hc71) hf (by omega)
      · intro x1 x2 x3 x4 x5 x6 g hi hx0 hx1 hx2 hx3 hx4 hf hN
        refine jGo_ok (fun hls _ => ?_)
        have rx2 : -2147483648 ≤ x2 ∧ x2 ≤ 2147483647 := hls (.inl x2) (by simp)
        have rx5 : -2147483648 ≤ x5 ∧ x5 ≤ 2147483647 := hls (.inl x5) (by simp)
        refine jGo_blk qX12_findLeast_162 ?_
        refine st_gi jo_176 (fun v72 ev72 b73 => ?_)
        replace ev72 : v72 = g 176 62 := ev72
        replace b73 := (jbf_12_62 jo_176 _).1 b73
        refine And.intro (fun c74 => ?_) (fun c74 => ?_)
        · replace c74 : v72 ≤ x6 := c74
          show jGo E l 166 229 229 _ 191 [.inr (.inr (.inl 176)), .inl x1, .inl x2, .inl x3, .inl x4, .inl x5, .inl x6] [] 229 jr0 g
          refine jGo_blk qX12_findLeast_191 ?_
          have e75 : jw32 (x3 + 1) = x3 + 1 := j32e (by omega) (by omega)
          show jGo E l 166 229 229 _ 26 [.inr (.inr (.inl 176)), .inl x1, .inl x2, .inl (jw32 (x3 + 1)), .inl x4, .inl x5, .inl x6] [] 229 jr0 g
          have hc76 : ∀ L k : Int, jlv L k → g L k = h L k := fun L k q => by have q9 := jlv_o q; exact hx4 L k q
          exact ih.2.1 x1 x2 (jw32 (x3 + 1)) (.inl x4) (.inl x5) (.inl x6) g (by omega) (by exact hx0) (by omega) (by omega) (by exact hc76) hf (by omega)
        · replace c74 : x6 < v72 := by first | exact c74 | exact Int.not_le.mp c74 | exact Int.not_lt.mp c74 | exact Decidable.not_not.mp c74
          refine st_gr jo_176 jr_176_64 ?_
          refine st_gr jo_176 jr_176_63 ?_
          refine st_ai jo_227 (show 0 ≤ x6 by omega) (show x6 < ((5 : Nat) : Int) by omega) (fun v77 ev77 b78 => ?_)
          replace ev77 : v77 = g 227 x6 := ev77
          replace b78 := (jba_227 x6 _).1 b78
          refine st_si jo_228 (show 0 ≤ x6 by omega) (show x6 < ((5 : Nat) : Int) by omega) (fun hx => (jba_228 _ _).2 (show 0 ≤ v77 ∧ v77 ≤ 15 by omega)) (fun g79 eg79 => ?_)
          replace eg79 : g79 = jup g 228 x6 v77 := eg79
          have fg79 : jfr w_X12_findLeast h g79 := jfr_up hf eg79 (by unfold w_X12_findLeast; omega)
          have e80 : g79 228 x6 = v77 := jup_s eg79
          have e81 : jw32 (x6 + 1) = x6 + 1 := j32e (by omega) (by omega)
          show jGo E l 166 229 229 _ 162 [.inr (.inr (.inl 176)), .inl x1, .inl x2, .inl x3, .inl x4, .inl x5, .inl (jw32 (x6 + 1))] [] 229 jr0 g79
          have e82 : g79 176 62 = g 176 62 := jup_o eg79 (by omega)
          have e83 : g79 176 62 = g 176 62 := jup_o eg79 (by omega)
          have e84 : g79 176 0 = g 176 0 := jup_o eg79 (by omega)
          have hc85 : ∀ L k : Int, jlv L k → g79 L k = h L k := fun L k q => by have q9 := jlv_o q; exact (jup_o eg79 (by omega)).trans (hx4 L k q)
          exact ih.2.2.2.2 x1 x2 x3 x4 x5 (jw32 (x6 + 1)) g79 (by omega) (by rw [show g79 176 62 = g 176 62 by omega]; exact hx0) (by omega) (by omega) (by omega) (by exact hc85) fg79 (by omega)
  refine jGo_blk qX12_findLeast_0 ?_
  show jGo E l 166 229 229 _ 4 [.inr (.inr (.inl 176)), .inl 1, .inl 2, .inr (.inr (.inr ())), .inr (.inr (.inr ())), .inr (.inr (.inr ())), .inr (.inr (.inr ()))] [] 229 jr0 h
  exact (key 1000000000000000000).1 1 2 h (by omega) (by unfold jWf; omega) (by omega) (by omega) (by omega) (by exact fun L k q => rfl) f0 (by omega)

def w_X12_least (i k : Int) : Prop := (i = 181) ∨ (i = 190) ∨ (192 ≤ i ∧ i ≤ 200) ∨ (i = 202) ∨ (i = 219) ∨ (224 ≤ i ∧ i ≤ 228) ∨ (i = 176 ∧ k = 0) ∨ (i = 176 ∧ 30 ≤ k ∧ k ≤ 32) ∨ (i = 176 ∧ k = 62)
def k_X12_least (h : JH) (v : Option JV) (r' g : JH) : Prop := r' = jr0 ∧ jfr w_X12_least h g ∧ ∃ x : Int, v = some (.inl x) ∧ (True) ∧ ((g 176 0 = h 176 0) ∧ ∀ L k : Int, jlv L k → g L k = h L k)
set_option maxHeartbeats 4000000 in
theorem c_X12_least {E : JE} {l : Launch} (h : JH) (q0 : h 176 0 ≤ 2000) : jMt E l 167 [.inr (.inr (.inl 176))] 229 jr0 h (k_X12_least h) := by
  refine jMt0 (nL := 1) (ls := [.inr (.inr (.inl 176))]) (by decide +kernel) (by decide +kernel) (by decide +kernel) rfl rfl ?_
  have f0 : jfr w_X12_least h h := jfr_rf _ _
  refine jGo_blk qX12_least_0 ?_
  refine st_cv (na := 0) (st := [.inr (.inr (.inl 176))]) jo_176 rfl rfl rfl (c_X12_ask h) rfl ?_
  rintro _ _ g2 ⟨rfl, ft1, t1, rfl, ht1, zt1⟩ kt1
  replace kt1 : -2147483648 ≤ t1 ∧ t1 ≤ 2147483647 := kt1
  replace ht1 : 0 ≤ t1 ∧ t1 ≤ 1 := ht1
  have fg2 : jfr w_X12_least h g2 := jfr_tr f0 ft1 (fun i k q => by unfold w_X12_ask at q; unfold w_X12_least; omega)
  replace zt1 : (t1 = 1 ∧ g2 176 62 ≤ 5) ∨ t1 = 0 := zt1
  refine And.intro (fun c3 => ?_) (fun c3 => ?_)
  · replace c3 : t1 = 0 := c3
    show jGo E l 167 229 229 _ 14 [.inr (.inr (.inl 176))] [] 229 jr0 g2
    refine jGo_blk qX12_least_14 ?_
    refine st_cv (na := 1) (st := [.inl (-3), .inr (.inr (.inl 176))]) jo_176 rfl rfl rfl (c_X12_refuse (-3) g2 (by omega)) rfl ?_
    rintro _ _ g5 ⟨rfl, ft4, t4, rfl, ht4, zt4⟩ kt4
    replace kt4 : -2147483648 ≤ t4 ∧ t4 ≤ 2147483647 := kt4
    replace ht4 : -7 ≤ t4 ∧ t4 ≤ -1 := ht4
    have fg5 : jfr w_X12_least h g5 := jfr_tr fg2 ft4 (fun i k q => by unfold w_X12_refuse at q; unfold w_X12_least; omega)
    replace zt4 : t4 = (-3 : Int) := zt4
    show jGo E l 167 229 229 _ 20 [.inr (.inr (.inl 176))] [.inl t4] 229 jr0 g5
    refine jGo_blk qX12_least_20 ?_
    have e6 : g5 176 0 = g2 176 0 := ft4 176 0 (by unfold w_X12_refuse; omega)
    have e7 : g2 176 0 = h 176 0 := ft1 176 0 (by unfold w_X12_ask; omega)
    have hc8 : ∀ L k : Int, jlv L k → g5 L k = h L k := fun L k q => by
      have q9 := jlv_o q
      exact ((ft4 L k (by unfold w_X12_refuse; omega)).trans (ft1 L k (by unfold w_X12_ask; omega)))
    exact st_r0 (ls := []) ⟨rfl, rfl, fg5, t4, rfl, trivial, (by exact ⟨by omega, hc8⟩)⟩
  · replace c3 : ¬ t1 = 0 := by first | exact c3 | exact Int.not_le.mp c3 | exact Int.not_lt.mp c3 | exact Decidable.not_not.mp c3
    have e9 : g2 176 0 = h 176 0 := ft1 176 0 (by unfold w_X12_ask; omega)
    refine st_cv (na := 0) (st := [.inr (.inr (.inl 176))]) jo_176 rfl rfl rfl (c_X12_findLeast g2 (by omega) (by omega)) rfl ?_
    rintro _ _ g11 ⟨rfl, ft10, t10, rfl, ht10, zt10⟩ kt10
    replace kt10 : -2147483648 ≤ t10 ∧ t10 ≤ 2147483647 := kt10
    have fg11 : jfr w_X12_least h g11 := jfr_tr fg2 ft10 (fun i k q => by unfold w_X12_findLeast at q; unfold w_X12_least; omega)
    replace zt10 : (g11 176 0 = g2 176 0) ∧ ∀ L k : Int, jlv L k → g11 L k = g2 L k := zt10
    show jGo E l 167 229 229 _ 20 [.inr (.inr (.inl 176))] [.inl t10] 229 jr0 g11
    refine jGo_blk qX12_least_20 ?_
    have hc12 : ∀ L k : Int, jlv L k → g11 L k = h L k := fun L k q => by
      have q9 := jlv_o q
      exact (zt10.2 L k q).trans (ft1 L k (by unfold w_X12_ask; omega))
    exact st_r0 (ls := []) ⟨rfl, rfl, fg11, t10, rfl, trivial, (by exact ⟨by omega, hc12⟩)⟩

def w_X11_order (i k : Int) : Prop := (i = 1) ∨ (i = 15) ∨ (i = 112) ∨ (114 ≤ i ∧ i ≤ 118) ∨ (120 ≤ i ∧ i ≤ 121) ∨ (124 ≤ i ∧ i ≤ 173) ∨ (i = 175) ∨ (i = 11 ∧ k = 5) ∨ (i = 111 ∧ k = 0) ∨ (i = 111 ∧ 2 ≤ k ∧ k ≤ 3) ∨ (i = 111 ∧ k = 9) ∨ (i = 111 ∧ k = 11) ∨ (i = 119 ∧ 6 ≤ k ∧ k ≤ 10)
def k_X11_order (a1 : Int) (h : JH) (v : Option JV) (r' g : JH) : Prop := r' = jr0 ∧ jfr w_X11_order h g ∧ ∃ x : Int, v = some (.inl x) ∧ (-9 ≤ x ∧ x ≤ 15) ∧ (True)
set_option maxHeartbeats 4000000 in
theorem c_X11_order {E : JE} {l : Launch} (a1 : Int) (h : JH) : jMt E l 168 [.inr (.inr (.inl 0)), .inl a1] 229 jr0 h (k_X11_order a1 h) := by
  refine jMt0 (nL := 2) (ls := [.inr (.inr (.inl 0)), .inl a1]) (by decide +kernel) (by decide +kernel) (by decide +kernel) rfl rfl ?_
  have f0 : jfr w_X11_order h h := jfr_rf _ _
  refine jGo_blk qX11_order_0 ?_
  refine st_cv (na := 0) (st := [.inr (.inr (.inl 0))]) jo_0 rfl rfl rfl (c_X11_findOrder h) rfl ?_
  rintro _ _ g2 ⟨rfl, ft1, t1, rfl, ht1, zt1⟩ kt1
  replace kt1 : -2147483648 ≤ t1 ∧ t1 ≤ 2147483647 := kt1
  replace ht1 : 0 ≤ t1 ∧ t1 ≤ 1 := ht1
  have fg2 : jfr w_X11_order h g2 := jfr_tr f0 ft1 (fun i k q => by unfold w_X11_findOrder at q; unfold w_X11_order; omega)
  refine And.intro (fun c3 => ?_) (fun c3 => ?_)
  · replace c3 : ¬ t1 = 0 := c3
    show jGo E l 168 229 229 _ 14 [.inr (.inr (.inl 0)), .inl a1] [] 229 jr0 g2
    refine jGo_blk qX11_order_14 ?_
    refine st_gr jo_0 jr_0_11 ?_
    refine st_gi jo_111 (fun v4 ev4 b5 => ?_)
    replace ev4 : v4 = g2 111 2 := ev4
    replace b5 := (jbf_7_2 jo_111 _).1 b5
    refine st_cs (na := 2) (st := [.inl v4, .inl a1]) rfl rfl rfl (c_X11_within a1 v4 g2) rfl ?_
    rintro _ _ _ ⟨rfl, rfl, t6, rfl, ht6, zt6⟩ kt6
    replace kt6 : -2147483648 ≤ t6 ∧ t6 ≤ 2147483647 := kt6
    replace ht6 : 0 ≤ t6 ∧ t6 ≤ 1 := ht6
    replace zt6 : (t6 = 1 ∧ 0 ≤ a1 ∧ a1 < v4) ∨ (t6 = 0 ∧ ¬ (0 ≤ a1 ∧ a1 < v4)) := zt6
    refine And.intro (fun c8 => ?_) (fun c8 => ?_)
    · replace c8 : t6 = 0 := c8
      show jGo E l 168 229 229 _ 40 [.inr (.inr (.inl 0)), .inl a1] [] 229 jr0 g2
      refine jGo_blk qX11_order_40 ?_
      show jGo E l 168 229 229 _ 42 [.inr (.inr (.inl 0)), .inl a1] [.inl (-9)] 229 jr0 g2
      refine jGo_blk qX11_order_42 ?_
      exact st_r0 (ls := []) ⟨rfl, rfl, fg2, (-9), rfl, (by omega), trivial⟩
    · replace c8 : ¬ t6 = 0 := by first | exact c8 | exact Int.not_le.mp c8 | exact Int.not_lt.mp c8 | exact Decidable.not_not.mp c8
      refine st_gr jo_0 jr_0_11 ?_
      refine st_gr jo_111 jr_111_1 ?_
      refine st_ai jo_112 (show 0 ≤ a1 by omega) (show a1 < ((5 : Nat) : Int) by omega) (fun v9 ev9 b10 => ?_)
      replace ev9 : v9 = g2 112 a1 := ev9
      replace b10 := (jba_112 a1 _).1 b10
      show jGo E l 168 229 229 _ 42 [.inr (.inr (.inl 0)), .inl a1] [.inl v9] 229 jr0 g2
      refine jGo_blk qX11_order_42 ?_
      exact st_r0 (ls := []) ⟨rfl, rfl, fg2, v9, rfl, (by omega), trivial⟩
  · replace c3 : t1 = 0 := by first | exact c3 | exact Int.not_le.mp c3 | exact Int.not_lt.mp c3 | exact Decidable.not_not.mp c3
    refine st_cv (na := 1) (st := [.inl (-3), .inr (.inr (.inl 0))]) jo_0 rfl rfl rfl (c_X11_refused (-3) g2 (by omega)) rfl ?_
    rintro _ _ g12 ⟨rfl, ft11, t11, rfl, ht11, zt11⟩ kt11
    replace kt11 : -2147483648 ≤ t11 ∧ t11 ≤ 2147483647 := kt11
    replace ht11 : -7 ≤ t11 ∧ t11 ≤ -1 := ht11
    have fg12 : jfr w_X11_order h g12 := jfr_tr fg2 ft11 (fun i k q => by unfold w_X11_refused at q; unfold w_X11_order; omega)
    replace zt11 : t11 = (-3 : Int) := zt11
    exact st_r0 (ls := []) ⟨rfl, rfl, fg12, t11, rfl, (by omega), trivial⟩

def w_X12_order (i k : Int) : Prop := (i = 181) ∨ (i = 190) ∨ (192 ≤ i ∧ i ≤ 200) ∨ (i = 202) ∨ (i = 219) ∨ (224 ≤ i ∧ i ≤ 228) ∨ (i = 176 ∧ k = 0) ∨ (i = 176 ∧ 30 ≤ k ∧ k ≤ 32) ∨ (i = 176 ∧ k = 62)
def k_X12_order (a1 : Int) (h : JH) (v : Option JV) (r' g : JH) : Prop := r' = jr0 ∧ jfr w_X12_order h g ∧ ∃ x : Int, v = some (.inl x) ∧ (-9 ≤ x ∧ x ≤ 15) ∧ ((g 176 0 = h 176 0) ∧ ∀ L k : Int, jlv L k → g L k = h L k)
set_option maxHeartbeats 4000000 in
theorem c_X12_order {E : JE} {l : Launch} (a1 : Int) (h : JH) (q0 : h 176 0 ≤ 2000) : jMt E l 169 [.inr (.inr (.inl 176)), .inl a1] 229 jr0 h (k_X12_order a1 h) := by
  refine jMt0 (nL := 3) (ls := [.inr (.inr (.inl 176)), .inl a1, .inr (.inr (.inr ()))]) (by decide +kernel) (by decide +kernel) (by decide +kernel) rfl rfl ?_
  have f0 : jfr w_X12_order h h := jfr_rf _ _
  refine jGo_blk qX12_order_0 ?_
  refine st_cv (na := 0) (st := [.inr (.inr (.inl 176))]) jo_176 rfl rfl rfl (c_X12_ask h) rfl ?_
  rintro _ _ g2 ⟨rfl, ft1, t1, rfl, ht1, zt1⟩ kt1
  replace kt1 : -2147483648 ≤ t1 ∧ t1 ≤ 2147483647 := kt1
  replace ht1 : 0 ≤ t1 ∧ t1 ≤ 1 := ht1
  have fg2 : jfr w_X12_order h g2 := jfr_tr f0 ft1 (fun i k q => by unfold w_X12_ask at q; unfold w_X12_order; omega)
  replace zt1 : (t1 = 1 ∧ g2 176 62 ≤ 5) ∨ t1 = 0 := zt1
  refine And.intro (fun c3 => ?_) (fun c3 => ?_)
  · replace c3 : ¬ t1 = 0 := c3
    show jGo E l 169 229 229 _ 14 [.inr (.inr (.inl 176)), .inl a1, .inr (.inr (.inr ()))] [] 229 jr0 g2
    refine jGo_blk qX12_order_14 ?_
    refine st_gi jo_176 (fun v4 ev4 b5 => ?_)
    replace ev4 : v4 = g2 176 62 := ev4
    replace b5 := (jbf_12_62 jo_176 _).1 b5
    have e6 : jw32 (v4 - 1) = v4 - 1 := j32e (by omega) (by omega)
    refine st_cs (na := 3) (st := [.inl (jw32 (v4 - 1)), .inl 0, .inl a1]) rfl rfl rfl (c_X12_in a1 0 (jw32 (v4 - 1)) g2) rfl ?_
    rintro _ _ _ ⟨rfl, rfl, t7, rfl, ht7, zt7⟩ kt7
    replace kt7 : -2147483648 ≤ t7 ∧ t7 ≤ 2147483647 := kt7
    replace ht7 : 0 ≤ t7 ∧ t7 ≤ 1 := ht7
    replace zt7 : (t7 = 1 ∧ (0 : Int) ≤ a1 ∧ a1 ≤ (jw32 (v4 - 1))) ∨ (t7 = 0 ∧ ¬ ((0 : Int) ≤ a1 ∧ a1 ≤ (jw32 (v4 - 1)))) := zt7
    refine And.intro (fun c9 => ?_) (fun c9 => ?_)
    · replace c9 : ¬ t7 = 0 := c9
      show jGo E l 169 229 229 _ 31 [.inr (.inr (.inl 176)), .inl a1, .inr (.inr (.inr ()))] [] 229 jr0 g2
      refine jGo_blk qX12_order_31 ?_
      have e10 : g2 176 0 = h 176 0 := ft1 176 0 (by unfold w_X12_ask; omega)
      refine st_cv (na := 0) (st := [.inr (.inr (.inl 176))]) jo_176 rfl rfl rfl (c_X12_findLeast g2 (by omega) (by omega)) rfl ?_
      rintro _ _ g12 ⟨rfl, ft11, t11, rfl, ht11, zt11⟩ kt11
      replace kt11 : -2147483648 ≤ t11 ∧ t11 ≤ 2147483647 := kt11
      have fg12 : jfr w_X12_order h g12 := jfr_tr fg2 ft11 (fun i k q => by unfold w_X12_findLeast at q; unfold w_X12_order; omega)
      replace zt11 : (g12 176 0 = g2 176 0) ∧ ∀ L k : Int, jlv L k → g12 L k = g2 L k := zt11
      refine st_gr jo_176 jr_176_64 ?_
      refine st_ai jo_228 (show 0 ≤ a1 by omega) (show a1 < ((5 : Nat) : Int) by omega) (fun v13 ev13 b14 => ?_)
      replace ev13 : v13 = g12 228 a1 := ev13
      replace b14 := (jba_228 a1 _).1 b14
      have hc15 : ∀ L k : Int, jlv L k → g12 L k = h L k := fun L k q => by
        have q9 := jlv_o q
        exact (zt11.2 L k q).trans (ft1 L k (by unfold w_X12_ask; omega))
      exact st_r0 (ls := []) ⟨rfl, rfl, fg12, v13, rfl, (by omega), (by exact ⟨by omega, hc15⟩)⟩
    · replace c9 : t7 = 0 := by first | exact c9 | exact Int.not_le.mp c9 | exact Int.not_lt.mp c9 | exact Decidable.not_not.mp c9
      have e16 : g2 176 0 = h 176 0 := ft1 176 0 (by unfold w_X12_ask; omega)
      have hc17 : ∀ L k : Int, jlv L k → g2 L k = h L k := fun L k q => by
        have q9 := jlv_o q
        exact (ft1 L k (by unfold w_X12_ask; omega))
      exact st_r0 (ls := []) ⟨rfl, rfl, fg2, (-9), rfl, (by omega), (by exact ⟨by omega, hc17⟩)⟩
  · replace c3 : t1 = 0 := by first | exact c3 | exact Int.not_le.mp c3 | exact Int.not_lt.mp c3 | exact Decidable.not_not.mp c3
    refine st_cv (na := 1) (st := [.inl (-3), .inr (.inr (.inl 176))]) jo_176 rfl rfl rfl (c_X12_refuse (-3) g2 (by omega)) rfl ?_
    rintro _ _ g19 ⟨rfl, ft18, t18, rfl, ht18, zt18⟩ kt18
    replace kt18 : -2147483648 ≤ t18 ∧ t18 ≤ 2147483647 := kt18
    replace ht18 : -7 ≤ t18 ∧ t18 ≤ -1 := ht18
    have fg19 : jfr w_X12_order h g19 := jfr_tr fg2 ft18 (fun i k q => by unfold w_X12_refuse at q; unfold w_X12_order; omega)
    replace zt18 : t18 = (-3 : Int) := zt18
    have e20 : g19 176 0 = g2 176 0 := ft18 176 0 (by unfold w_X12_refuse; omega)
    have e21 : g2 176 0 = h 176 0 := ft1 176 0 (by unfold w_X12_ask; omega)
    have hc22 : ∀ L k : Int, jlv L k → g19 L k = h L k := fun L k q => by
      have q9 := jlv_o q
      exact ((ft18 L k (by unfold w_X12_refuse; omega)).trans (ft1 L k (by unfold w_X12_ask; omega)))
    exact st_r0 (ls := []) ⟨rfl, rfl, fg19, t18, rfl, (by omega), (by exact ⟨by omega, hc22⟩)⟩

def w_X11_hullOf (i k : Int) : Prop := (i = 1)
def k_X11_hullOf (a1 : Int) (a2 : Int) (h : JH) (v : Option JV) (r' g : JH) : Prop := r' = jr0 ∧ jfr w_X11_hullOf h g ∧ ∃ x : Int, v = some (.inl x) ∧ (True) ∧ (P_X11_hullOf a1 a2 x h)
set_option maxHeartbeats 4000000 in
theorem c_X11_hullOf {E : JE} {l : Launch} (a1 : Int) (a2 : Int) (h : JH) : jMt E l 170 [.inr (.inr (.inl 0)), .inl a1, .inl a2] 229 jr0 h (k_X11_hullOf a1 a2 h) := by
  refine jMt0 (nL := 4) (ls := [.inr (.inr (.inl 0)), .inl a1, .inl a2, .inr (.inr (.inr ()))]) (by decide +kernel) (by decide +kernel) (by decide +kernel) rfl rfl ?_
  have f0 : jfr w_X11_hullOf h h := jfr_rf _ _
  refine jGo_blk qX11_hullOf_0 ?_
  refine st_cv (na := 1) (st := [.inl a1, .inr (.inr (.inl 0))]) jo_0 rfl rfl rfl (c_X11_isHull a1 h) rfl ?_
  rintro _ _ _ ⟨rfl, rfl, t1, rfl, ht1, zt1⟩ kt1
  replace kt1 : -2147483648 ≤ t1 ∧ t1 ≤ 2147483647 := kt1
  replace ht1 : 0 ≤ t1 ∧ t1 ≤ 1 := ht1
  replace zt1 : (t1 = 1 ∧ 0 ≤ a1 ∧ a1 < h 29 4 ∧ h 29 4 ≤ 16) ∨ (t1 = 0 ∧ ¬ (0 ≤ a1 ∧ a1 < h 29 4)) := zt1
  refine And.intro (fun c3 => ?_) (fun c3 => ?_)
  · replace c3 : ¬ t1 = 0 := c3
    show jGo E l 170 229 229 _ 14 [.inr (.inr (.inl 0)), .inl a1, .inl a2, .inr (.inr (.inr ()))] [] 229 jr0 h
    refine jGo_blk qX11_hullOf_14 ?_
    refine st_gr jo_0 jr_0_5 ?_
    refine st_gr jo_29 jr_29_3 ?_
    refine st_ar jo_33 (by decide) (show 0 ≤ a1 by omega) (show a1 < ((16 : Nat) : Int) by omega) (fun u4 eu4 => ?_)
    replace eu4 : u4 = jr0 33 a1 := eu4
    have qu4 : u4 = 36 + 3 * a1 := eu4.trans (jhul_33 a1 (by omega) (by omega)).1
    have hu4 : jHl u4 := by rw [eu4]; exact (jhul_33 a1 (by omega) (by omega)).2
    refine And.intro (show u4 ≠ -1 by omega) ?_
    refine And.intro (fun c5 => ?_) (And.intro (fun c5 => ?_) (And.intro (fun c5 => ?_) (And.intro (fun c5 => ?_) (And.intro (fun c5 => ?_) (And.intro (fun c5 => ?_) (And.intro (fun c5 => ?_) (And.intro (fun c5 => ?_) (And.intro (fun c5 => ?_) (And.intro (fun c5 => ?_) (trivial))))))))))
    · replace c5 : a2 < 0 ∨ 8 < a2 := c5
      show jGo E l 170 229 229 _ 129 [.inr (.inr (.inl 0)), .inl a1, .inl a2, .inr (.inr (.inl u4))] [] 229 jr0 h
      refine jGo_blk qX11_hullOf_129 ?_
      refine st_cv (na := 1) (st := [.inl (-2), .inr (.inr (.inl 0))]) jo_0 rfl rfl rfl (c_X11_refused (-2) h (by omega)) rfl ?_
      rintro _ _ g7 ⟨rfl, ft6, t6, rfl, ht6, zt6⟩ kt6
      replace kt6 : -2147483648 ≤ t6 ∧ t6 ≤ 2147483647 := kt6
      replace ht6 : -7 ≤ t6 ∧ t6 ≤ -1 := ht6
      have fg7 : jfr w_X11_hullOf h g7 := jfr_tr f0 ft6 (fun i k q => by unfold w_X11_refused at q; unfold w_X11_hullOf; omega)
      replace zt6 : t6 = (-2 : Int) := zt6
      exact st_r0 (ls := []) ⟨rfl, rfl, fg7, t6, rfl, trivial, (by unfold P_X11_hullOf; first | exact Or.inl (by omega) | (refine Or.inr ⟨by omega, ?_⟩; first | exact Or.inl (by omega) | exact Or.inr (Or.inl (by omega)) | exact Or.inr (Or.inr (Or.inl (by omega))) | exact Or.inr (Or.inr (Or.inr (Or.inl (by omega)))) | exact Or.inr (Or.inr (Or.inr (Or.inr (Or.inl (by omega))))) | exact Or.inr (Or.inr (Or.inr (Or.inr (Or.inr (Or.inl (by omega)))))) | exact Or.inr (Or.inr (Or.inr (Or.inr (Or.inr (Or.inr (Or.inl (by omega))))))) | exact Or.inr (Or.inr (Or.inr (Or.inr (Or.inr (Or.inr (Or.inr (Or.inl (by omega)))))))) | exact Or.inr (Or.inr (Or.inr (Or.inr (Or.inr (Or.inr (Or.inr (Or.inr (Or.inl (by omega))))))))) | exact Or.inr (Or.inr (Or.inr (Or.inr (Or.inr (Or.inr (Or.inr (Or.inr (Or.inr (Or.inl (by omega)))))))))) | exact Or.inr (Or.inr (Or.inr (Or.inr (Or.inr (Or.inr (Or.inr (Or.inr (Or.inr (Or.inr (by omega))))))))))))⟩
    · replace c5 : a2 = 0 := c5
      show jGo E l 170 229 229 _ 76 [.inr (.inr (.inl 0)), .inl a1, .inl a2, .inr (.inr (.inl u4))] [] 229 jr0 h
      refine jGo_blk qX11_hullOf_76 ?_
      refine st_gi hu4.1 (fun v8 ev8 b9 => ?_)
      replace ev8 : v8 = h u4 3 := ev8
      replace b9 := (jbf_4_3 hu4.1 _).1 b9
      have e10 : h u4 3 = h (36 + 3 * a1) 3 := by rw [qu4]
      exact st_r0 (ls := []) ⟨rfl, rfl, f0, v8, rfl, trivial, (by unfold P_X11_hullOf; first | exact Or.inl (by omega) | (refine Or.inr ⟨by omega, ?_⟩; first | exact Or.inl (by omega) | exact Or.inr (Or.inl (by omega)) | exact Or.inr (Or.inr (Or.inl (by omega))) | exact Or.inr (Or.inr (Or.inr (Or.inl (by omega)))) | exact Or.inr (Or.inr (Or.inr (Or.inr (Or.inl (by omega))))) | exact Or.inr (Or.inr (Or.inr (Or.inr (Or.inr (Or.inl (by omega)))))) | exact Or.inr (Or.inr (Or.inr (Or.inr (Or.inr (Or.inr (Or.inl (by omega))))))) | exact Or.inr (Or.inr (Or.inr (Or.inr (Or.inr (Or.inr (Or.inr (Or.inl (by omega)))))))) | exact Or.inr (Or.inr (Or.inr (Or.inr (Or.inr (Or.inr (Or.inr (Or.inr (Or.inl (by omega))))))))) | exact Or.inr (Or.inr (Or.inr (Or.inr (Or.inr (Or.inr (Or.inr (Or.inr (Or.inr (Or.inl (by omega)))))))))) | exact Or.inr (Or.inr (Or.inr (Or.inr (Or.inr (Or.inr (Or.inr (Or.inr (Or.inr (Or.inr (by omega))))))))))))⟩
    · replace c5 : a2 = 1 := c5
      show jGo E l 170 229 229 _ 81 [.inr (.inr (.inl 0)), .inl a1, .inl a2, .inr (.inr (.inl u4))] [] 229 jr0 h
      refine jGo_blk qX11_hullOf_81 ?_
      refine st_gi hu4.1 (fun v11 ev11 b12 => ?_)
      replace ev11 : v11 = h u4 4 := ev11
      replace b12 := (jbf_4_4 hu4.1 _).1 b12
      have e13 : h u4 4 = h (36 + 3 * a1) 4 := by rw [qu4]
      exact st_r0 (ls := []) ⟨rfl, rfl, f0, v11, rfl, trivial, (by unfold P_X11_hullOf; first | exact Or.inl (by omega) | (refine Or.inr ⟨by omega, ?_⟩; first | exact Or.inl (by omega) | exact Or.inr (Or.inl (by omega)) | exact Or.inr (Or.inr (Or.inl (by omega))) | exact Or.inr (Or.inr (Or.inr (Or.inl (by omega)))) | exact Or.inr (Or.inr (Or.inr (Or.inr (Or.inl (by omega))))) | exact Or.inr (Or.inr (Or.inr (Or.inr (Or.inr (Or.inl (by omega)))))) | exact Or.inr (Or.inr (Or.inr (Or.inr (Or.inr (Or.inr (Or.inl (by omega))))))) | exact Or.inr (Or.inr (Or.inr (Or.inr (Or.inr (Or.inr (Or.inr (Or.inl (by omega)))))))) | exact Or.inr (Or.inr (Or.inr (Or.inr (Or.inr (Or.inr (Or.inr (Or.inr (Or.inl (by omega))))))))) | exact Or.inr (Or.inr (Or.inr (Or.inr (Or.inr (Or.inr (Or.inr (Or.inr (Or.inr (Or.inl (by omega)))))))))) | exact Or.inr (Or.inr (Or.inr (Or.inr (Or.inr (Or.inr (Or.inr (Or.inr (Or.inr (Or.inr (by omega))))))))))))⟩
    · replace c5 : a2 = 2 := c5
      show jGo E l 170 229 229 _ 86 [.inr (.inr (.inl 0)), .inl a1, .inl a2, .inr (.inr (.inl u4))] [] 229 jr0 h
      refine jGo_blk qX11_hullOf_86 ?_
      refine st_gi hu4.1 (fun v14 ev14 b15 => ?_)
      replace ev14 : v14 = h u4 6 := ev14
      replace b15 := (jbf_4_6 hu4.1 _).1 b15
      have e16 : h u4 6 = h (36 + 3 * a1) 6 := by rw [qu4]
      exact st_r0 (ls := []) ⟨rfl, rfl, f0, v14, rfl, trivial, (by unfold P_X11_hullOf; first | exact Or.inl (by omega) | (refine Or.inr ⟨by omega, ?_⟩; first | exact Or.inl (by omega) | exact Or.inr (Or.inl (by omega)) | exact Or.inr (Or.inr (Or.inl (by omega))) | exact Or.inr (Or.inr (Or.inr (Or.inl (by omega)))) | exact Or.inr (Or.inr (Or.inr (Or.inr (Or.inl (by omega))))) | exact Or.inr (Or.inr (Or.inr (Or.inr (Or.inr (Or.inl (by omega)))))) | exact Or.inr (Or.inr (Or.inr (Or.inr (Or.inr (Or.inr (Or.inl (by omega))))))) | exact Or.inr (Or.inr (Or.inr (Or.inr (Or.inr (Or.inr (Or.inr (Or.inl (by omega)))))))) | exact Or.inr (Or.inr (Or.inr (Or.inr (Or.inr (Or.inr (Or.inr (Or.inr (Or.inl (by omega))))))))) | exact Or.inr (Or.inr (Or.inr (Or.inr (Or.inr (Or.inr (Or.inr (Or.inr (Or.inr (Or.inl (by omega)))))))))) | exact Or.inr (Or.inr (Or.inr (Or.inr (Or.inr (Or.inr (Or.inr (Or.inr (Or.inr (Or.inr (by omega))))))))))))⟩
    · replace c5 : a2 = 3 := c5
      show jGo E l 170 229 229 _ 91 [.inr (.inr (.inl 0)), .inl a1, .inl a2, .inr (.inr (.inl u4))] [] 229 jr0 h
      refine jGo_blk qX11_hullOf_91 ?_
      refine st_gi hu4.1 (fun v17 ev17 b18 => ?_)
      replace ev17 : v17 = h u4 7 := ev17
      replace b18 := (jbf_4_7 hu4.1 _).1 b18
      refine And.intro (fun c19 => ?_) (fun c19 => ?_)
      · replace c19 : v17 = 0 := c19
        show jGo E l 170 229 229 _ 102 [.inr (.inr (.inl 0)), .inl a1, .inl a2, .inr (.inr (.inl u4))] [] 229 jr0 h
        refine jGo_blk qX11_hullOf_102 ?_
        show jGo E l 170 229 229 _ 103 [.inr (.inr (.inl 0)), .inl a1, .inl a2, .inr (.inr (.inl u4))] [.inl 0] 229 jr0 h
        refine jGo_blk qX11_hullOf_103 ?_
        have e20 : h u4 7 = h (36 + 3 * a1) 7 := by rw [qu4]
        exact st_r0 (ls := []) ⟨rfl, rfl, f0, 0, rfl, trivial, (by unfold P_X11_hullOf; first | exact Or.inl (by omega) | (refine Or.inr ⟨by omega, ?_⟩; first | exact Or.inl (by omega) | exact Or.inr (Or.inl (by omega)) | exact Or.inr (Or.inr (Or.inl (by omega))) | exact Or.inr (Or.inr (Or.inr (Or.inl (by omega)))) | exact Or.inr (Or.inr (Or.inr (Or.inr (Or.inl (by omega))))) | exact Or.inr (Or.inr (Or.inr (Or.inr (Or.inr (Or.inl (by omega)))))) | exact Or.inr (Or.inr (Or.inr (Or.inr (Or.inr (Or.inr (Or.inl (by omega))))))) | exact Or.inr (Or.inr (Or.inr (Or.inr (Or.inr (Or.inr (Or.inr (Or.inl (by omega)))))))) | exact Or.inr (Or.inr (Or.inr (Or.inr (Or.inr (Or.inr (Or.inr (Or.inr (Or.inl (by omega))))))))) | exact Or.inr (Or.inr (Or.inr (Or.inr (Or.inr (Or.inr (Or.inr (Or.inr (Or.inr (Or.inl (by omega)))))))))) | exact Or.inr (Or.inr (Or.inr (Or.inr (Or.inr (Or.inr (Or.inr (Or.inr (Or.inr (Or.inr (by omega))))))))))))⟩
      · replace c19 : ¬ v17 = 0 := by first | exact c19 | exact Int.not_le.mp c19 | exact Int.not_lt.mp c19 | exact Decidable.not_not.mp c19
        show jGo E l 170 229 229 _ 103 [.inr (.inr (.inl 0)), .inl a1, .inl a2, .inr (.inr (.inl u4))] [.inl 1] 229 jr0 h
        refine jGo_blk qX11_hullOf_103 ?_
        have e21 : h u4 7 = h (36 + 3 * a1) 7 := by rw [qu4]
        exact st_r0 (ls := []) ⟨rfl, rfl, f0, 1, rfl, trivial, (by unfold P_X11_hullOf; first | exact Or.inl (by omega) | (refine Or.inr ⟨by omega, ?_⟩; first | exact Or.inl (by omega) | exact Or.inr (Or.inl (by omega)) | exact Or.inr (Or.inr (Or.inl (by omega))) | exact Or.inr (Or.inr (Or.inr (Or.inl (by omega)))) | exact Or.inr (Or.inr (Or.inr (Or.inr (Or.inl (by omega))))) | exact Or.inr (Or.inr (Or.inr (Or.inr (Or.inr (Or.inl (by omega)))))) | exact Or.inr (Or.inr (Or.inr (Or.inr (Or.inr (Or.inr (Or.inl (by omega))))))) | exact Or.inr (Or.inr (Or.inr (Or.inr (Or.inr (Or.inr (Or.inr (Or.inl (by omega)))))))) | exact Or.inr (Or.inr (Or.inr (Or.inr (Or.inr (Or.inr (Or.inr (Or.inr (Or.inl (by omega))))))))) | exact Or.inr (Or.inr (Or.inr (Or.inr (Or.inr (Or.inr (Or.inr (Or.inr (Or.inr (Or.inl (by omega)))))))))) | exact Or.inr (Or.inr (Or.inr (Or.inr (Or.inr (Or.inr (Or.inr (Or.inr (Or.inr (Or.inr (by omega))))))))))))⟩
    · replace c5 : a2 = 4 := c5
      show jGo E l 170 229 229 _ 104 [.inr (.inr (.inl 0)), .inl a1, .inl a2, .inr (.inr (.inl u4))] [] 229 jr0 h
      refine jGo_blk qX11_hullOf_104 ?_
      refine st_gi hu4.1 (fun v22 ev22 b23 => ?_)
      replace ev22 : v22 = h u4 8 := ev22
      replace b23 := (jbf_4_8 hu4.1 _).1 b23
      have e24 : h u4 8 = h (36 + 3 * a1) 8 := by rw [qu4]
      exact st_r0 (ls := []) ⟨rfl, rfl, f0, v22, rfl, trivial, (by unfold P_X11_hullOf; first | exact Or.inl (by omega) | (refine Or.inr ⟨by omega, ?_⟩; first | exact Or.inl (by omega) | exact Or.inr (Or.inl (by omega)) | exact Or.inr (Or.inr (Or.inl (by omega))) | exact Or.inr (Or.inr (Or.inr (Or.inl (by omega)))) | exact Or.inr (Or.inr (Or.inr (Or.inr (Or.inl (by omega))))) | exact Or.inr (Or.inr (Or.inr (Or.inr (Or.inr (Or.inl (by omega)))))) | exact Or.inr (Or.inr (Or.inr (Or.inr (Or.inr (Or.inr (Or.inl (by omega))))))) | exact Or.inr (Or.inr (Or.inr (Or.inr (Or.inr (Or.inr (Or.inr (Or.inl (by omega)))))))) | exact Or.inr (Or.inr (Or.inr (Or.inr (Or.inr (Or.inr (Or.inr (Or.inr (Or.inl (by omega))))))))) | exact Or.inr (Or.inr (Or.inr (Or.inr (Or.inr (Or.inr (Or.inr (Or.inr (Or.inr (Or.inl (by omega)))))))))) | exact Or.inr (Or.inr (Or.inr (Or.inr (Or.inr (Or.inr (Or.inr (Or.inr (Or.inr (Or.inr (by omega))))))))))))⟩
    · replace c5 : a2 = 5 := c5
      show jGo E l 170 229 229 _ 109 [.inr (.inr (.inl 0)), .inl a1, .inl a2, .inr (.inr (.inl u4))] [] 229 jr0 h
      refine jGo_blk qX11_hullOf_109 ?_
      refine st_gi hu4.1 (fun v25 ev25 b26 => ?_)
      replace ev25 : v25 = h u4 1 := ev25
      replace b26 := (jbf_4_1 hu4.1 _).1 b26
      have e27 : h u4 1 = h (36 + 3 * a1) 1 := by rw [qu4]
      exact st_r0 (ls := []) ⟨rfl, rfl, f0, v25, rfl, trivial, (by unfold P_X11_hullOf; first | exact Or.inl (by omega) | (refine Or.inr ⟨by omega, ?_⟩; first | exact Or.inl (by omega) | exact Or.inr (Or.inl (by omega)) | exact Or.inr (Or.inr (Or.inl (by omega))) | exact Or.inr (Or.inr (Or.inr (Or.inl (by omega)))) | exact Or.inr (Or.inr (Or.inr (Or.inr (Or.inl (by omega))))) | exact Or.inr (Or.inr (Or.inr (Or.inr (Or.inr (Or.inl (by omega)))))) | exact Or.inr (Or.inr (Or.inr (Or.inr (Or.inr (Or.inr (Or.inl (by omega))))))) | exact Or.inr (Or.inr (Or.inr (Or.inr (Or.inr (Or.inr (Or.inr (Or.inl (by omega)))))))) | exact Or.inr (Or.inr (Or.inr (Or.inr (Or.inr (Or.inr (Or.inr (Or.inr (Or.inl (by omega))))))))) | exact Or.inr (Or.inr (Or.inr (Or.inr (Or.inr (Or.inr (Or.inr (Or.inr (Or.inr (Or.inl (by omega)))))))))) | exact Or.inr (Or.inr (Or.inr (Or.inr (Or.inr (Or.inr (Or.inr (Or.inr (Or.inr (Or.inr (by omega))))))))))))⟩
    · replace c5 : a2 = 6 := c5
      show jGo E l 170 229 229 _ 114 [.inr (.inr (.inl 0)), .inl a1, .inl a2, .inr (.inr (.inl u4))] [] 229 jr0 h
      refine jGo_blk qX11_hullOf_114 ?_
      refine st_gi hu4.1 (fun v28 ev28 b29 => ?_)
      replace ev28 : v28 = h u4 0 := ev28
      replace b29 := (jbf_4_0 hu4.1 _).1 b29
      have e30 : h u4 0 = h (36 + 3 * a1) 0 := by rw [qu4]
      exact st_r0 (ls := []) ⟨rfl, rfl, f0, v28, rfl, trivial, (by unfold P_X11_hullOf; first | exact Or.inl (by omega) | (refine Or.inr ⟨by omega, ?_⟩; first | exact Or.inl (by omega) | exact Or.inr (Or.inl (by omega)) | exact Or.inr (Or.inr (Or.inl (by omega))) | exact Or.inr (Or.inr (Or.inr (Or.inl (by omega)))) | exact Or.inr (Or.inr (Or.inr (Or.inr (Or.inl (by omega))))) | exact Or.inr (Or.inr (Or.inr (Or.inr (Or.inr (Or.inl (by omega)))))) | exact Or.inr (Or.inr (Or.inr (Or.inr (Or.inr (Or.inr (Or.inl (by omega))))))) | exact Or.inr (Or.inr (Or.inr (Or.inr (Or.inr (Or.inr (Or.inr (Or.inl (by omega)))))))) | exact Or.inr (Or.inr (Or.inr (Or.inr (Or.inr (Or.inr (Or.inr (Or.inr (Or.inl (by omega))))))))) | exact Or.inr (Or.inr (Or.inr (Or.inr (Or.inr (Or.inr (Or.inr (Or.inr (Or.inr (Or.inl (by omega)))))))))) | exact Or.inr (Or.inr (Or.inr (Or.inr (Or.inr (Or.inr (Or.inr (Or.inr (Or.inr (Or.inr (by omega))))))))))))⟩
    · replace c5 : a2 = 7 := c5
      show jGo E l 170 229 229 _ 119 [.inr (.inr (.inl 0)), .inl a1, .inl a2, .inr (.inr (.inl u4))] [] 229 jr0 h
      refine jGo_blk qX11_hullOf_119 ?_
      refine st_gi hu4.1 (fun v31 ev31 b32 => ?_)
      replace ev31 : v31 = h u4 2 := ev31
      replace b32 := (jbf_4_2 hu4.1 _).1 b32
      have e33 : h u4 2 = h (36 + 3 * a1) 2 := by rw [qu4]
      exact st_r0 (ls := []) ⟨rfl, rfl, f0, v31, rfl, trivial, (by unfold P_X11_hullOf; first | exact Or.inl (by omega) | (refine Or.inr ⟨by omega, ?_⟩; first | exact Or.inl (by omega) | exact Or.inr (Or.inl (by omega)) | exact Or.inr (Or.inr (Or.inl (by omega))) | exact Or.inr (Or.inr (Or.inr (Or.inl (by omega)))) | exact Or.inr (Or.inr (Or.inr (Or.inr (Or.inl (by omega))))) | exact Or.inr (Or.inr (Or.inr (Or.inr (Or.inr (Or.inl (by omega)))))) | exact Or.inr (Or.inr (Or.inr (Or.inr (Or.inr (Or.inr (Or.inl (by omega))))))) | exact Or.inr (Or.inr (Or.inr (Or.inr (Or.inr (Or.inr (Or.inr (Or.inl (by omega)))))))) | exact Or.inr (Or.inr (Or.inr (Or.inr (Or.inr (Or.inr (Or.inr (Or.inr (Or.inl (by omega))))))))) | exact Or.inr (Or.inr (Or.inr (Or.inr (Or.inr (Or.inr (Or.inr (Or.inr (Or.inr (Or.inl (by omega)))))))))) | exact Or.inr (Or.inr (Or.inr (Or.inr (Or.inr (Or.inr (Or.inr (Or.inr (Or.inr (Or.inr (by omega))))))))))))⟩
    · replace c5 : a2 = 8 := c5
      show jGo E l 170 229 229 _ 124 [.inr (.inr (.inl 0)), .inl a1, .inl a2, .inr (.inr (.inl u4))] [] 229 jr0 h
      refine jGo_blk qX11_hullOf_124 ?_
      refine st_gi hu4.1 (fun v34 ev34 b35 => ?_)
      replace ev34 : v34 = h u4 9 := ev34
      replace b35 := (jbf_4_9 hu4.1 _).1 b35
      have e36 : h u4 9 = h (36 + 3 * a1) 9 := by rw [qu4]
      exact st_r0 (ls := []) ⟨rfl, rfl, f0, v34, rfl, trivial, (by unfold P_X11_hullOf; first | exact Or.inl (by omega) | (refine Or.inr ⟨by omega, ?_⟩; first | exact Or.inl (by omega) | exact Or.inr (Or.inl (by omega)) | exact Or.inr (Or.inr (Or.inl (by omega))) | exact Or.inr (Or.inr (Or.inr (Or.inl (by omega)))) | exact Or.inr (Or.inr (Or.inr (Or.inr (Or.inl (by omega))))) | exact Or.inr (Or.inr (Or.inr (Or.inr (Or.inr (Or.inl (by omega)))))) | exact Or.inr (Or.inr (Or.inr (Or.inr (Or.inr (Or.inr (Or.inl (by omega))))))) | exact Or.inr (Or.inr (Or.inr (Or.inr (Or.inr (Or.inr (Or.inr (Or.inl (by omega)))))))) | exact Or.inr (Or.inr (Or.inr (Or.inr (Or.inr (Or.inr (Or.inr (Or.inr (Or.inl (by omega))))))))) | exact Or.inr (Or.inr (Or.inr (Or.inr (Or.inr (Or.inr (Or.inr (Or.inr (Or.inr (Or.inl (by omega)))))))))) | exact Or.inr (Or.inr (Or.inr (Or.inr (Or.inr (Or.inr (Or.inr (Or.inr (Or.inr (Or.inr (by omega))))))))))))⟩
  · replace c3 : t1 = 0 := by first | exact c3 | exact Int.not_le.mp c3 | exact Int.not_lt.mp c3 | exact Decidable.not_not.mp c3
    refine st_cv (na := 1) (st := [.inl (-1), .inr (.inr (.inl 0))]) jo_0 rfl rfl rfl (c_X11_refused (-1) h (by omega)) rfl ?_
    rintro _ _ g38 ⟨rfl, ft37, t37, rfl, ht37, zt37⟩ kt37
    replace kt37 : -2147483648 ≤ t37 ∧ t37 ≤ 2147483647 := kt37
    replace ht37 : -7 ≤ t37 ∧ t37 ≤ -1 := ht37
    have fg38 : jfr w_X11_hullOf h g38 := jfr_tr f0 ft37 (fun i k q => by unfold w_X11_refused at q; unfold w_X11_hullOf; omega)
    replace zt37 : t37 = (-1 : Int) := zt37
    exact st_r0 (ls := []) ⟨rfl, rfl, fg38, t37, rfl, trivial, (by unfold P_X11_hullOf; first | exact Or.inl (by omega) | (refine Or.inr ⟨by omega, ?_⟩; first | exact Or.inl (by omega) | exact Or.inr (Or.inl (by omega)) | exact Or.inr (Or.inr (Or.inl (by omega))) | exact Or.inr (Or.inr (Or.inr (Or.inl (by omega)))) | exact Or.inr (Or.inr (Or.inr (Or.inr (Or.inl (by omega))))) | exact Or.inr (Or.inr (Or.inr (Or.inr (Or.inr (Or.inl (by omega)))))) | exact Or.inr (Or.inr (Or.inr (Or.inr (Or.inr (Or.inr (Or.inl (by omega))))))) | exact Or.inr (Or.inr (Or.inr (Or.inr (Or.inr (Or.inr (Or.inr (Or.inl (by omega)))))))) | exact Or.inr (Or.inr (Or.inr (Or.inr (Or.inr (Or.inr (Or.inr (Or.inr (Or.inl (by omega))))))))) | exact Or.inr (Or.inr (Or.inr (Or.inr (Or.inr (Or.inr (Or.inr (Or.inr (Or.inr (Or.inl (by omega)))))))))) | exact Or.inr (Or.inr (Or.inr (Or.inr (Or.inr (Or.inr (Or.inr (Or.inr (Or.inr (Or.inr (by omega))))))))))))⟩
