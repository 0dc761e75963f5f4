def w_X12_findLeast (i k : Int) : Prop := (i = 181) ∨ (i = 190) ∨ (192 ≤ i ∧ i ≤ 200) ∨ (i = 202) ∨ (224 ≤ i ∧ i ≤ 225) ∨ (227 ≤ i ∧ i ≤ 228) ∨ (i = 176 ∧ k = 0) ∨ (i = 176 ∧ 30 ≤ k ∧ k ≤ 32)
theorem ws_X12_findOrder__X12_findLeast (i k : Int) (q : w_X12_findOrder i k) : w_X12_findLeast i k := by
  unfold w_X12_findOrder at q; unfold w_X12_findLeast
  exact (Or.inr (Or.inr (Or.inr (Or.inr (Or.inr (Or.inl (by omega)))))))
theorem ws_X12_aside__X12_findLeast (i k : Int) (q : w_X12_aside i k) : w_X12_findLeast i k := by
  unfold w_X12_aside at q; unfold w_X12_findLeast
  rcases q with q | q | q | q | q | q | q
  · exact (Or.inl (by omega))
  · exact (Or.inr (Or.inl (by omega)))
  · exact (Or.inr (Or.inr (Or.inl (by omega))))
  · exact (Or.inr (Or.inr (Or.inr (Or.inl (by omega)))))
  · exact (Or.inr (Or.inr (Or.inr (Or.inr (Or.inl (by omega))))))
  · exact (Or.inr (Or.inr (Or.inr (Or.inr (Or.inr (Or.inr (Or.inl (by omega))))))))
  · exact (Or.inr (Or.inr (Or.inr (Or.inr (Or.inr (Or.inr (Or.inr (by omega))))))))
theorem ws_X12_goAhead__X12_findLeast (i k : Int) (q : w_X12_goAhead i k) : w_X12_findLeast i k := by
  unfold w_X12_goAhead at q; unfold w_X12_findLeast
  rcases q with q | q | q | q | q
  · exact (Or.inl (by omega))
  · exact (Or.inr (Or.inr (Or.inl (by omega))))
  · exact (Or.inr (Or.inr (Or.inr (Or.inl (by omega)))))
  · exact (Or.inr (Or.inr (Or.inr (Or.inr (Or.inr (Or.inr (Or.inl (by omega))))))))
  · exact (Or.inr (Or.inr (Or.inr (Or.inr (Or.inr (Or.inr (Or.inr (by omega))))))))
def k_X12_findLeast (h : JH) (v : Option JV) (r' g : JH) : Prop := r' = jr0 ∧ jfr w_X12_findLeast h g ∧ ∃ x : Int, v = some (.inl x) ∧ (True) ∧ (((g 176 0 = h 176 0) ∧ (jAkd h → jRLs h x (fun i => g 228 i))) ∧ ∀ L k : Int, jlv L k → g L k = h L k)
set_option maxHeartbeats 4000000 in
theorem c_X12_findLeast {E : JE} {l : Launch} (h : JH) (q0 : h 176 0 ≤ 2000) (q1 : h 176 62 ≤ 5) : jMt E l 166 [.inr (.inr (.inl 176))] 229 jr0 h (k_X12_findLeast h) := by
  refine jMt0 (nL := 7) (ls := [.inr (.inr (.inl 176)), .inr (.inr (.inr ())), .inr (.inr (.inr ())), .inr (.inr (.inr ())), .inr (.inr (.inr ())), .inr (.inr (.inr ())), .inr (.inr (.inr ()))]) (by decide +kernel) (by decide +kernel) (by decide +kernel) rfl rfl ?_
  have f0 : jfr w_X12_findLeast h h := jfr_rf _ _
  refine jGo_bd (fun hbd => ?_)
  have hb0 := (jbf_12_62 jo_176 _).1 (hbd 176 62)
  have hb9 : ∀ k : Int, 0 ≤ k → k < 16 → h 196 k = 0 ∨ h 196 k = 1 := fun k _ _ => by have := (jba_196 k _).1 (hbd 196 k); omega
  have key : ∀ N : Nat, (∀ (x1 : Int) (x2 : Int) (g : JH), (1 ≤ x1 ∧ x1 ≤ 120 ∧ 2 ≤ x2 ∧ x2 ≤ 6) → (jWf x2 x1) → (g 176 62 = h 176 62) → (g 176 0 = h 176 0) → (x2 = 2 ∨ x2 ≤ g 176 62 + 1) → (∀ L k : Int, jlv L k → g L k = h L k) → jfr w_X12_findLeast h g → ((6 - x2) + 20000) * 1000000 + 999999 < (N : Int) → jGo E l 166 229 229 (jRK (k_X12_findLeast h)) 4 [.inr (.inr (.inl 176)), .inl x1, .inl x2, .inr (.inr (.inr ())), .inr (.inr (.inr ())), .inr (.inr (.inr ())), .inr (.inr (.inr ()))] [] 229 jr0 g) ∧
      (∀ (x1 : Int) (x2 : Int) (x3 : Int) (x4 : JV) (x5 : JV) (x6 : JV) (g : JH), (1 ≤ x1 ∧ x1 ≤ 120 ∧ 0 ≤ x3 ∧ x3 ≤ 120) → (jWr (g 176 62) x1) → (g 176 62 = h 176 62) → (g 176 0 = h 176 0) → (∀ L k : Int, jlv L k → g L k = h L k) → (jRI x3 x2 h g) → (x3 ≤ x1) → jfr w_X12_findLeast h g → (120 - x3) * 1000000 + 999999 < (N : Int) → jGo E l 166 229 229 (jRK (k_X12_findLeast h)) 26 [.inr (.inr (.inl 176)), .inl x1, .inl x2, .inl x3, x4, x5, x6] [] 229 jr0 g) ∧
      (∀ (x1 : Int) (x2 : Int) (x3 : Int) (x4 : Int) (x5 : Int) (x6 : JV) (g : JH), (1 ≤ x1 ∧ x1 ≤ 120 ∧ 0 ≤ x3 ∧ x3 ≤ 119 ∧ 0 ≤ x4 ∧ x4 ≤ 2300 ∧ 0 ≤ x5 ∧ x5 ≤ 5) → (jWr (g 176 62) x1) → (g 176 62 = h 176 62) → (g 176 0 = h 176 0) → (g 224 0 = h 176 0 ∧ x3 < x1) → (jSav h g) → (jRI x3 x2 h g) → (jRoq x3 h g) → (jR5 x3 x5 h g) → (x4 = h 176 0) → jfr w_X12_findLeast h g → (120 - x3) * 1000000 + (5 - x5) + 40000 < (N : Int) → jGo E l 166 229 229 (jRK (k_X12_findLeast h)) 50 [.inr (.inr (.inl 176)), .inl x1, .inl x2, .inl x3, .inl x4, .inl x5, x6] [] 229 jr0 g) ∧
      (∀ (x1 : Int) (x2 : Int) (x3 : Int) (x4 : Int) (x5 : Int) (x6 : Int) (g : JH), (1 ≤ x1 ∧ x1 ≤ 120 ∧ 0 ≤ x3 ∧ x3 ≤ 119 ∧ 0 ≤ x4 ∧ x4 ≤ 2300 ∧ 0 ≤ x6 ∧ x6 ≤ 5) → (jWr (g 176 62) x1) → (g 176 62 = h 176 62) → (g 224 0 = h 176 0 ∧ x3 < x1) → (jSav h g) → (jRI x3 x2 h g) → (jRoq x3 h g) → (jR9 x3 x6 x5 h g) → (x4 = h 176 0) → (x6 = 0 ∨ x6 ≤ h 176 62) → jfr w_X12_findLeast h g → (120 - x3) * 1000000 + (5 - x6) + 20000 < (N : Int) → jGo E l 166 229 229 (jRK (k_X12_findLeast h)) 92 [.inr (.inr (.inl 176)), .inl x1, .inl x2, .inl x3, .inl x4, .inl x5, .inl x6] [] 229 jr0 g) ∧
      (∀ (x1 : Int) (x2 : Int) (x3 : Int) (x4 : Int) (x5 : Int) (x6 : Int) (g : JH), (1 ≤ x1 ∧ x1 ≤ 120 ∧ 0 ≤ x3 ∧ x3 ≤ 119 ∧ 0 ≤ x4 ∧ x4 ≤ 2300 ∧ 0 ≤ x6 ∧ x6 ≤ 5) → (jWr (g 176 62) x1) → (g 176 62 = h 176 62) → (g 176 0 = h 176 0) → (x3 < x1) → (∀ L k : Int, jlv L k → g L k = h L k) → (jRC x3 x6 x2 h g) → (jRoq x3 h g) → jfr w_X12_findLeast h g → (120 - x3) * 1000000 + (5 - x6) < (N : Int) → jGo E l 166 229 229 (jRK (k_X12_findLeast h)) 162 [.inr (.inr (.inl 176)), .inl x1, .inl x2, .inl x3, .inl x4, .inl x5, .inl x6] [] 229 jr0 g) := by
    intro N
    induction N with
    | zero => exact ⟨fun _ _ _ hi hx0 hx1 hx2 hx3 hx4 _ hN => absurd hN (by omega), fun _ _ _ _ _ _ _ hi hx0 hx1 hx2 hx3 hx4 hx5 _ hN => absurd hN (by omega), fun _ _ _ _ _ _ _ hi hx0 hx1 hx2 hx3 hx4 hx5 hx6 hx7 hx8 _ hN => absurd hN (by omega), fun _ _ _ _ _ _ _ hi hx0 hx1 hx2 hx3 hx4 hx5 hx6 hx7 hx8 _ hN => absurd hN (by omega), fun _ _ _ _ _ _ _ hi hx0 hx1 hx2 hx3 hx4 hx5 hx6 _ hN => absurd hN (by omega)⟩
    | succ N ih =>
      refine ⟨?_, ?_, ?_, ?_, ?_⟩
      · intro x1 x2 g hi hx0 hx1 hx2 hx3 hx4 hf hN
        refine jGo_blk qX12_findLeast_4 ?_
        refine st_gi jo_176 (fun v1 ev1 b2 => ?_)
        replace ev1 : v1 = g 176 62 := ev1
        replace b2 := (jbf_12_62 jo_176 _).1 b2
        refine And.intro (fun c3 => ?_) (fun c3 => ?_)
        · replace c3 : v1 < x2 := c3
          show jGo E l 166 229 229 _ 22 [.inr (.inr (.inl 176)), .inl x1, .inl x2, .inr (.inr (.inr ())), .inr (.inr (.inr ())), .inr (.inr (.inr ())), .inr (.inr (.inr ()))] [] 229 jr0 g
          refine jGo_blk qX12_findLeast_22 ?_
          show jGo E l 166 229 229 _ 26 [.inr (.inr (.inl 176)), .inl x1, .inl (-1), .inl 0, .inr (.inr (.inr ())), .inr (.inr (.inr ())), .inr (.inr (.inr ()))] [] 229 jr0 g
          have hc4 : ∀ L k : Int, jlv L k → g L k = h L k := fun L k q => by have q9 := jlv_o q; exact hx4 L k q
          exact ih.2.1 x1 (-1) 0 (.inr (.inr (.inr ()))) (.inr (.inr (.inr ()))) (.inr (.inr (.inr ()))) g (by omega) (by have q9 := hx0; unfold jWf at q9; unfold jWr; omega) (by omega) (by omega) (by exact hc4) (by exact jRI_0) (by omega) hf (by omega)
        · replace c3 : x2 ≤ v1 := by first | exact c3 | exact Int.not_le.mp c3 | exact Int.not_lt.mp c3 | exact Decidable.not_not.mp c3
          have hm9 : (jw32 (x1 * x2) = 2 ∧ x2 = 2) ∨ (jw32 (x1 * x2) = 6 ∧ x2 = 3) ∨ (jw32 (x1 * x2) = 24 ∧ x2 = 4) ∨ (jw32 (x1 * x2) = 120 ∧ x2 = 5) := by rcases hx0 with ⟨q1, q2⟩ | ⟨q1, q2⟩ | ⟨q1, q2⟩ | ⟨q1, q2⟩ | ⟨q1, q2⟩ <;> first | (exfalso; omega) | (rw [q1, q2]; decide)
          have e5 : jw32 (x2 + 1) = x2 + 1 := jzj32 (by omega)
          show jGo E l 166 229 229 _ 4 [.inr (.inr (.inl 176)), .inl (jw32 (x1 * x2)), .inl (jw32 (x2 + 1)), .inr (.inr (.inr ())), .inr (.inr (.inr ())), .inr (.inr (.inr ())), .inr (.inr (.inr ()))] [] 229 jr0 g
          have hc6 : ∀ L k : Int, jlv L k → g L k = h L k := fun L k q => by have q9 := jlv_o q; exact hx4 L k q
          exact ih.1 (jw32 (x1 * x2)) (jw32 (x2 + 1)) g (by omega) (by unfold jWf; omega) (by omega) (by omega) (by omega) (by exact hc6) hf (by omega)
      · intro x1 x2 x3 x4 x5 x6 g hi hx0 hx1 hx2 hx3 hx4 hx5 hf hN
        refine jGo_ok (fun hls _ => ?_)
        have rx2 : -2147483648 ≤ x2 ∧ x2 ≤ 2147483647 := hls (.inl x2) (by simp)
        refine jGo_blk qX12_findLeast_26 ?_
        refine And.intro (fun c7 => ?_) (fun c7 => ?_)
        · replace c7 : x1 ≤ x3 := c7
          show jGo E l 166 229 229 _ 197 [.inr (.inr (.inl 176)), .inl x1, .inl x2, .inl x3, x4, x5, x6] [] 229 jr0 g
          refine jGo_blk qX12_findLeast_197 ?_
          exact st_r0 (ls := []) ⟨rfl, rfl, hf, x2, rfl, trivial, (by exact ⟨⟨by omega, fun A => jRLs_e hx4 A (by rw [← show g 176 62 = h 176 62 by omega]; exact hx0) (by omega) (by omega)⟩, hx3⟩)⟩
        · replace c7 : x3 < x1 := by first | exact c7 | exact Int.not_le.mp c7 | exact Int.not_lt.mp c7 | exact Decidable.not_not.mp c7
          refine st_cv (na := 1) (st := [.inl x3, .inr (.inr (.inl 176))]) jo_176 rfl rfl rfl (c_X12_findOrder x3 g (by omega) (by omega) (by have q9 := hx0; unfold jWr at q9; unfold jWq; omega)) rfl ?_
          rintro _ _ g9 ⟨rfl, ft8, rfl, zt8⟩ kt8
          have fg9 : jfr w_X12_findLeast h g9 := jfr_tr hf ft8 ws_X12_findOrder__X12_findLeast
          replace zt8 : ∀ i : Int, 0 ≤ i → i < g 176 62 → g9 227 i = g 226 (jatt (g 176 62) x3 i.toNat) := zt8
          have e10 : g9 176 0 = g 176 0 := ft8 176 0 (by unfold w_X12_findOrder; omega)
          refine st_cv (na := 1) (st := [.inl 0, .inr (.inr (.inl 176))]) jo_176 rfl rfl rfl (c_X12_aside 0 g9 (by omega)) rfl ?_
          rintro _ _ g12 ⟨rfl, ft11, rfl, zt11⟩ kt11
          have fg12 : jfr w_X12_findLeast h g12 := jfr_tr fg9 ft11 ws_X12_aside__X12_findLeast
          replace zt11 : (((0 : Int) = 0 → g12 224 0 = g9 176 0 ∧ g12 176 0 = g9 176 0) ∧ (¬ (0 : Int) = 0 → g12 176 0 = g9 224 0)) ∧ g12 = jAs (0 : Int) g9 := zt11
          have y13 := zt11.2
          refine st_gi jo_176 (fun v14 ev14 b15 => ?_)
          replace ev14 : v14 = g12 176 0 := ev14
          replace b15 := (jbf_12_0 jo_176 _).1 b15
          show jGo E l 166 229 229 _ 50 [.inr (.inr (.inl 176)), .inl x1, .inl x2, .inl x3, .inl v14, .inl 0, x6] [] 229 jr0 g12
          have e16 : g12 176 62 = g9 176 62 := ft11 176 62 (by unfold w_X12_aside; omega)
          have e17 : g9 176 62 = g 176 62 := ft8 176 62 (by unfold w_X12_findOrder; omega)
          have e18 : g12 176 62 = g9 176 62 := ft11 176 62 (by unfold w_X12_aside; omega)
          have e19 : g9 176 62 = g 176 62 := ft8 176 62 (by unfold w_X12_findOrder; omega)
          have hc20 : jSav h g12 := by
            have lv : ∀ L k : Int, jlv L k → g9 L k = h L k := fun L k q => by have q9 := jlv_o q; exact ((ft8 L k (by unfold w_X12_findOrder; omega))).trans (hx3 L k q)
            have s9 := (jAs_save (h := g9) (fun k a b => by rw [lv 196 k (Or.inl ⟨20 + 16 * k + 4, by unfold jLoc; omega⟩)]; exact hb9 k a b)).1
            rw [← show g12 = jAs 0 g9 from zt11.2] at s9
            have s8 := jSav_c lv s9
            exact s8
          have hc21 : ∀ L k : Int, jlv L k → g9 L k = h L k := fun L k q => by have q9 := jlv_o q; exact (ft8 L k (by unfold w_X12_findOrder; omega)).trans (hx3 L k q)
          have hc22 : ∀ i k : Int, jma i k → ¬ i = 190 → g12 i k = h i k := fun i k a _ => by
            rw [show g12 = jAs 0 g9 from zt11.2, (jAs_save (h := g9) (fun k a b => by rw [hc21 196 k (Or.inl ⟨20 + 16 * k + 4, by unfold jLoc; omega⟩)]; exact hb9 k a b)).2 i k (by unfold jma at a; omega) (by unfold jma at a; omega)]
            exact jma_lv (fun i k q => (ft8 i k (by first | exact q | (unfold w_X12_findOrder; omega))).trans (hf i k (by unfold w_X12_findLeast; omega))) hc21 a
          exact ih.2.2.1 x1 x2 x3 v14 0 x6 g12 (by omega) (by rw [show g12 176 62 = g 176 62 by omega]; exact hx0) (by omega) (by omega) (by omega) (by exact hc20) (by exact jRI_fr (fun k => ((ft11 228 k (by unfold w_X12_aside; omega)).trans (ft8 228 k (by unfold w_X12_findOrder; omega)))) hx4) (by exact jRoq_fr (fun k => (ft11 227 k (by unfold w_X12_aside; omega))) (jRoq_mk (g := g) (by omega) (by omega) (fun k => hf 226 k (by unfold w_X12_findLeast; omega)) (by have q9 := hx0; rw [show g 176 62 = h 176 62 by omega] at q9; unfold jWr at q9; unfold jWq; omega) zt8)) (by exact jR5_0 hc22) (by omega) fg12 (by omega)
      · intro x1 x2 x3 x4 x5 x6 g hi hx0 hx1 hx2 hx3 hx4 hx5 hx6 hx7 hx8 hf hN
        refine jGo_ok (fun hls _ => ?_)
        have rx2 : -2147483648 ≤ x2 ∧ x2 ≤ 2147483647 := hls (.inl x2) (by simp)
        refine jGo_blk qX12_findLeast_50 ?_
        refine st_gi jo_176 (fun v23 ev23 b24 => ?_)
        replace ev23 : v23 = g 176 62 := ev23
        replace b24 := (jbf_12_62 jo_176 _).1 b24
        refine And.intro (fun c25 => ?_) (fun c25 => ?_)
        · replace c25 : v23 ≤ x5 := c25
          show jGo E l 166 229 229 _ 82 [.inr (.inr (.inl 176)), .inl x1, .inl x2, .inl x3, .inl x4, .inl x5, x6] [] 229 jr0 g
          refine jGo_blk qX12_findLeast_82 ?_
          refine st_cv (na := 0) (st := [.inr (.inr (.inl 176))]) jo_176 rfl rfl rfl (c_X12_goAhead g (by omega)) rfl ?_
          rintro _ _ g27 ⟨rfl, ft26, rfl, zt26⟩ kt26
          have fg27 : jfr w_X12_findLeast h g27 := jfr_tr hf ft26 ws_X12_goAhead__X12_findLeast
          replace zt26 : (g27 176 0 = g 176 0 + 300) ∧ g27 = jit jmPi 300 g := zt26
          have e28 : g27 224 0 = g 224 0 := ft26 224 0 (by unfold w_X12_goAhead; omega)
          show jGo E l 166 229 229 _ 92 [.inr (.inr (.inl 176)), .inl x1, .inl x2, .inl x3, .inl x4, .inl 0, .inl 0] [] 229 jr0 g27
          have e29 : g27 176 62 = g 176 62 := ft26 176 62 (by unfold w_X12_goAhead; omega)
          have e30 : g27 176 62 = g 176 62 := ft26 176 62 (by unfold w_X12_goAhead; omega)
          have e31 : g27 224 0 = g 224 0 := ft26 224 0 (by unfold w_X12_goAhead; omega)
          have hc32 : jSav h g27 := by
            exact jSav_fr (fun a c q1 q2 => (ft26 a c (by unfold w_X12_goAhead; omega))) hx4
          exact ih.2.2.2.1 x1 x2 x3 x4 0 0 g27 (by omega) (by rw [show g27 176 62 = g 176 62 by omega]; exact hx0) (by omega) (by omega) (by exact hc32) (by exact jRI_fr (fun k => (ft26 228 k (by unfold w_X12_goAhead; omega))) hx5) (by exact jRoq_fr (fun k => (ft26 227 k (by unfold w_X12_goAhead; omega))) hx6) (by exact jR9_0 hx7 (by omega) zt26.2) (by omega) (by omega) fg27 (by omega)
        · replace c25 : x5 < v23 := by first | exact c25 | exact Int.not_le.mp c25 | exact Int.not_lt.mp c25 | exact Decidable.not_not.mp c25
          refine st_gr jo_176 jr_176_16 ?_
          refine st_gr jo_176 jr_176_63 ?_
          refine st_ai jo_227 (show 0 ≤ x5 by omega) (show x5 < ((5 : Nat) : Int) by omega) (fun v33 ev33 b34 => ?_)
          replace ev33 : v33 = g 227 x5 := ev33
          replace b34 := (jba_227 x5 _).1 b34
          have e35 : jw32 (99 - x5) = 99 - x5 := jzj32 (by omega)
          refine st_si jo_190 (show 0 ≤ v33 by omega) (show v33 < ((16 : Nat) : Int) by omega) (fun hx => (jba_190 _ _).2 (show 0 ≤ jw32 (99 - x5) ∧ jw32 (99 - x5) ≤ 99 by omega)) (fun g36 eg36 => ?_)
          replace eg36 : g36 = jup g 190 v33 (jw32 (99 - x5)) := eg36
          have fg36 : jfr w_X12_findLeast h g36 := jfr_up hf eg36 (by unfold w_X12_findLeast; omega)
          have e37 : g36 190 v33 = jw32 (99 - x5) := jup_s eg36
          have e38 : jw32 (x5 + 1) = x5 + 1 := jzj32 (by omega)
          show jGo E l 166 229 229 _ 50 [.inr (.inr (.inl 176)), .inl x1, .inl x2, .inl x3, .inl x4, .inl (jw32 (x5 + 1)), x6] [] 229 jr0 g36
          have e39 : g36 176 62 = g 176 62 := jup_o eg36 (by first | exact fun q => absurd q.1 (by decide) | exact fun q => absurd q.2 (by decide) | omega)
          have e40 : g36 176 62 = g 176 62 := jup_o eg36 (by first | exact fun q => absurd q.1 (by decide) | exact fun q => absurd q.2 (by decide) | omega)
          have e41 : g36 176 0 = g 176 0 := jup_o eg36 (by first | exact fun q => absurd q.1 (by decide) | exact fun q => absurd q.2 (by decide) | omega)
          have e42 : g36 224 0 = g 224 0 := jup_o eg36 (by first | exact fun q => absurd q.1 (by decide) | exact fun q => absurd q.2 (by decide) | omega)
          have hc43 : jSav h g36 := by
            exact jSav_fr (fun a c q1 q2 => (jup_o eg36 (by first | exact fun q => absurd q.1 (by decide) | exact fun q => absurd q.2 (by decide) | omega))) hx4
          exact ih.2.2.1 x1 x2 x3 x4 (jw32 (x5 + 1)) x6 g36 (by omega) (by rw [show g36 176 62 = g 176 62 by omega]; exact hx0) (by omega) (by omega) (by omega) (by exact hc43) (by exact jRI_fr (fun k => (jup_o eg36 (by first | exact fun q => absurd q.1 (by decide) | exact fun q => absurd q.2 (by decide) | omega))) hx5) (by exact jRoq_fr (fun k => (jup_o eg36 (by first | exact fun q => absurd q.1 (by decide) | exact fun q => absurd q.2 (by decide) | omega))) hx6) (by rw [show jw32 (x5 + 1) = x5 + 1 by omega]; exact jR5_s hx7 hx6 (by omega) (by omega) ev33 (by rw [show 99 - x5 = jw32 (99 - x5) by omega]; exact eg36)) (by omega) fg36 (by omega)
      · intro x1 x2 x3 x4 x5 x6 g hi hx0 hx1 hx2 hx3 hx4 hx5 hx6 hx7 hx8 hf hN
        refine jGo_ok (fun hls _ => ?_)
        have rx2 : -2147483648 ≤ x2 ∧ x2 ≤ 2147483647 := hls (.inl x2) (by simp)
        have rx5 : -2147483648 ≤ x5 ∧ x5 ≤ 2147483647 := hls (.inl x5) (by simp)
        refine jGo_blk qX12_findLeast_92 ?_
        refine st_gi jo_176 (fun v44 ev44 b45 => ?_)
        replace ev44 : v44 = g 176 62 := ev44
        replace b45 := (jbf_12_62 jo_176 _).1 b45
        refine And.intro (fun c46 => ?_) (fun c46 => ?_)
        · replace c46 : v44 ≤ x6 := c46
          show jGo E l 166 229 229 _ 141 [.inr (.inr (.inl 176)), .inl x1, .inl x2, .inl x3, .inl x4, .inl x5, .inl x6] [] 229 jr0 g
          refine jGo_blk qX12_findLeast_141 ?_
          refine st_cv (na := 1) (st := [.inl 1, .inr (.inr (.inl 176))]) jo_176 rfl rfl rfl (c_X12_aside 1 g (by omega)) rfl ?_
          rintro _ _ g48 ⟨rfl, ft47, rfl, zt47⟩ kt47
          have fg48 : jfr w_X12_findLeast h g48 := jfr_tr hf ft47 ws_X12_aside__X12_findLeast
          replace zt47 : (((1 : Int) = 0 → g48 224 0 = g 176 0 ∧ g48 176 0 = g 176 0) ∧ (¬ (1 : Int) = 0 → g48 176 0 = g 224 0)) ∧ g48 = jAs (1 : Int) g := zt47
          have y49 := zt47.2
          refine And.intro (fun c50 => ?_) (fun c50 => ?_)
          · replace c50 : x2 < 0 := c50
            show jGo E l 166 229 229 _ 156 [.inr (.inr (.inl 176)), .inl x1, .inl x2, .inl x3, .inl x4, .inl x5, .inl x6] [] 229 jr0 g48
            refine jGo_blk qX12_findLeast_156 ?_
            show jGo E l 166 229 229 _ 162 [.inr (.inr (.inl 176)), .inl x1, .inl x5, .inl x3, .inl x4, .inl x5, .inl 0] [] 229 jr0 g48
            have e51 : g48 176 62 = g 176 62 := ft47 176 62 (by unfold w_X12_aside; omega)
            have e52 : g48 176 62 = g 176 62 := ft47 176 62 (by unfold w_X12_aside; omega)
            have hc53 : ∀ L k : Int, jlv L k → g48 L k = h L k := fun L k q => by
              have q9 := jlv_o q
              have s8 := hx3
              have s7 : g48 L k = h L k := by rw [show g48 = jAs 1 g from zt47.2]; exact (jAs_rest (by decide) s8).1 L k q
              exact s7
            exact ih.2.2.2.2 x1 x5 x3 x4 x5 0 g48 (by omega) (by rw [show g48 176 62 = g 176 62 by omega]; exact hx0) (by omega) (by omega) (by omega) (by exact hc53) (by exact jRC_0 hx4 hx6 (by omega) (by rw [← show g 176 62 = h 176 62 by omega]; exact hx0) (by omega) (by omega) (by omega)) (by exact jRoq_fr (fun k => (ft47 227 k (by unfold w_X12_aside; omega))) hx5) fg48 (by omega)
          · replace c50 : 0 ≤ x2 := by first | exact c50 | exact Int.not_le.mp c50 | exact Int.not_lt.mp c50 | exact Decidable.not_not.mp c50
            refine And.intro (fun c54 => ?_) (fun c54 => ?_)
            · replace c54 : x2 ≤ x5 := c54
              show jGo E l 166 229 229 _ 191 [.inr (.inr (.inl 176)), .inl x1, .inl x2, .inl x3, .inl x4, .inl x5, .inl x6] [] 229 jr0 g48
              refine jGo_blk qX12_findLeast_191 ?_
              have e55 : jw32 (x3 + 1) = x3 + 1 := jzj32 (by omega)
              show jGo E l 166 229 229 _ 26 [.inr (.inr (.inl 176)), .inl x1, .inl x2, .inl (jw32 (x3 + 1)), .inl x4, .inl x5, .inl x6] [] 229 jr0 g48
              have e56 : g48 176 62 = g 176 62 := ft47 176 62 (by unfold w_X12_aside; omega)
              have e57 : g48 176 62 = g 176 62 := ft47 176 62 (by unfold w_X12_aside; omega)
              have hc58 : ∀ L k : Int, jlv L k → g48 L k = h L k := fun L k q => by
                have q9 := jlv_o q
                have s8 := hx3
                have s7 : g48 L k = h L k := by rw [show g48 = jAs 1 g from zt47.2]; exact (jAs_rest (by decide) s8).1 L k q
                exact s7
              exact ih.2.1 x1 x2 (jw32 (x3 + 1)) (.inl x4) (.inl x5) (.inl x6) g48 (by omega) (by rw [show g48 176 62 = g 176 62 by omega]; exact hx0) (by omega) (by omega) (by exact hc58) (by rw [show jw32 (x3 + 1) = x3 + 1 by omega]; exact jRI_n hx4 hx6 (by omega) (by rw [← show g 176 62 = h 176 62 by omega]; exact hx0) (by omega) (by omega) (by omega) (fun k => (ft47 228 k (by unfold w_X12_aside; omega)))) (by omega) fg48 (by omega)
            · replace c54 : x5 < x2 := by first | exact c54 | exact Int.not_le.mp c54 | exact Int.not_lt.mp c54 | exact Decidable.not_not.mp c54
              show jGo E l 166 229 229 _ 156 [.inr (.inr (.inl 176)), .inl x1, .inl x2, .inl x3, .inl x4, .inl x5, .inl x6] [] 229 jr0 g48
              refine jGo_blk qX12_findLeast_156 ?_
              show jGo E l 166 229 229 _ 162 [.inr (.inr (.inl 176)), .inl x1, .inl x5, .inl x3, .inl x4, .inl x5, .inl 0] [] 229 jr0 g48
              have e59 : g48 176 62 = g 176 62 := ft47 176 62 (by unfold w_X12_aside; omega)
              have e60 : g48 176 62 = g 176 62 := ft47 176 62 (by unfold w_X12_aside; omega)
              have hc61 : ∀ L k : Int, jlv L k → g48 L k = h L k := fun L k q => by
                have q9 := jlv_o q
                have s8 := hx3
                have s7 : g48 L k = h L k := by rw [show g48 = jAs 1 g from zt47.2]; exact (jAs_rest (by decide) s8).1 L k q
                exact s7
              exact ih.2.2.2.2 x1 x5 x3 x4 x5 0 g48 (by omega) (by rw [show g48 176 62 = g 176 62 by omega]; exact hx0) (by omega) (by omega) (by omega) (by exact hc61) (by exact jRC_0 hx4 hx6 (by omega) (by rw [← show g 176 62 = h 176 62 by omega]; exact hx0) (by omega) (by omega) (by omega)) (by exact jRoq_fr (fun k => (ft47 227 k (by unfold w_X12_aside; omega))) hx5) fg48 (by omega)
        · replace c46 : x6 < v44 := by first | exact c46 | exact Int.not_le.mp c46 | exact Int.not_lt.mp c46 | exact Decidable.not_not.mp c46
          refine st_gr jo_176 jr_176_24 ?_
          refine st_gr jo_176 jr_176_63 ?_
          refine st_ai jo_227 (show 0 ≤ x6 by omega) (show x6 < ((5 : Nat) : Int) by omega) (fun v62 ev62 b63 => ?_)
          replace ev62 : v62 = g 227 x6 := ev62
          replace b63 := (jba_227 x6 _).1 b63
          refine st_ai jo_198 (show 0 ≤ v62 by omega) (show v62 < ((16 : Nat) : Int) by omega) (fun v64 ev64 b65 => ?_)
          replace ev64 : v64 = g 198 v62 := ev64
          replace b65 := (jba_198 v62 _).1 b65
          refine st_gr jo_176 jr_176_17 ?_
          refine st_gr jo_176 jr_176_63 ?_
          refine st_ai jo_227 (show 0 ≤ x6 by omega) (show x6 < ((5 : Nat) : Int) by omega) (fun v66 ev66 b67 => ?_)
          replace ev66 : v66 = g 227 x6 := ev66
          replace b67 := (jba_227 x6 _).1 b67
          refine st_ai jo_191 (show 0 ≤ v66 by omega) (show v66 < ((16 : Nat) : Int) by omega) (fun v68 ev68 b69 => ?_)
          replace ev68 : v68 = g 191 v66 := ev68
          replace b69 := (jba_191 v66 _).1 b69
          refine st_cs (na := 3) (st := [.inl v68, .inl x4, .inl v64, .inl x5]) rfl rfl rfl (c_X12_lateBy v64 x4 v68 g) rfl ?_
          rintro _ _ _ ⟨rfl, rfl, t70, rfl, ht70, zt70⟩ kt70
          replace kt70 : -2147483648 ≤ t70 ∧ t70 ≤ 2147483647 := kt70
          replace zt70 : t70 = jlbw v64 x4 v68 := zt70
          have e72 : jw32 (x6 + 1) = x6 + 1 := jzj32 (by omega)
          show jGo E l 166 229 229 _ 92 [.inr (.inr (.inl 176)), .inl x1, .inl x2, .inl x3, .inl x4, .inl (jw32 (x5 + t70)), .inl (jw32 (x6 + 1))] [] 229 jr0 g
          have hc73 : jSav h g := by
            exact hx3
          exact ih.2.2.2.1 x1 x2 x3 x4 (jw32 (x5 + t70)) (jw32 (x6 + 1)) g (by omega) (by exact hx0) (by omega) (by omega) (by exact hc73) (by exact hx4) (by exact hx5) (by rw [show jw32 (x6 + 1) = x6 + 1 by omega]; exact jR9_s hx6 hx5 (by omega) (by omega) ev62 ev64 (by rw [ev68, show v66 = v62 by omega]; exact hf 191 v62 (by unfold w_X12_findLeast; omega)) hx7 (by omega) zt70) (by omega) (by omega) hf (by omega)
      · intro x1 x2 x3 x4 x5 x6 g hi hx0 hx1 hx2 hx3 hx4 hx5 hx6 hf hN
        refine jGo_ok (fun hls _ => ?_)
        have rx2 : -2147483648 ≤ x2 ∧ x2 ≤ 2147483647 := hls (.inl x2) (by simp)
        have rx5 : -2147483648 ≤ x5 ∧ x5 ≤ 2147483647 := hls (.inl x5) (by simp)
        refine jGo_blk qX12_findLeast_162 ?_
        refine st_gi jo_176 (fun v74 ev74 b75 => ?_)
        replace ev74 : v74 = g 176 62 := ev74
        replace b75 := (jbf_12_62 jo_176 _).1 b75
        refine And.intro (fun c76 => ?_) (fun c76 => ?_)
        · replace c76 : v74 ≤ x6 := c76
          show jGo E l 166 229 229 _ 191 [.inr (.inr (.inl 176)), .inl x1, .inl x2, .inl x3, .inl x4, .inl x5, .inl x6] [] 229 jr0 g
          refine jGo_blk qX12_findLeast_191 ?_
          have e77 : jw32 (x3 + 1) = x3 + 1 := jzj32 (by omega)
          show jGo E l 166 229 229 _ 26 [.inr (.inr (.inl 176)), .inl x1, .inl x2, .inl (jw32 (x3 + 1)), .inl x4, .inl x5, .inl x6] [] 229 jr0 g
          have hc78 : ∀ L k : Int, jlv L k → g L k = h L k := fun L k q => by have q9 := jlv_o q; exact hx4 L k q
          exact ih.2.1 x1 x2 (jw32 (x3 + 1)) (.inl x4) (.inl x5) (.inl x6) g (by omega) (by exact hx0) (by omega) (by omega) (by exact hc78) (by rw [show jw32 (x3 + 1) = x3 + 1 by omega]; exact jRC_e hx5 (by omega) (by omega)) (by omega) hf (by omega)
        · replace c76 : x6 < v74 := by first | exact c76 | exact Int.not_le.mp c76 | exact Int.not_lt.mp c76 | exact Decidable.not_not.mp c76
          refine st_gr jo_176 jr_176_64 ?_
          refine st_gr jo_176 jr_176_63 ?_
          refine st_ai jo_227 (show 0 ≤ x6 by omega) (show x6 < ((5 : Nat) : Int) by omega) (fun v79 ev79 b80 => ?_)
          replace ev79 : v79 = g 227 x6 := ev79
          replace b80 := (jba_227 x6 _).1 b80
          refine st_si jo_228 (show 0 ≤ x6 by omega) (show x6 < ((5 : Nat) : Int) by omega) (fun hx => (jba_228 _ _).2 (show 0 ≤ v79 ∧ v79 ≤ 15 by omega)) (fun g81 eg81 => ?_)
          replace eg81 : g81 = jup g 228 x6 v79 := eg81
          have fg81 : jfr w_X12_findLeast h g81 := jfr_up hf eg81 (by unfold w_X12_findLeast; omega)
          have e82 : g81 228 x6 = v79 := jup_s eg81
          have e83 : jw32 (x6 + 1) = x6 + 1 := jzj32 (by omega)
          show jGo E l 166 229 229 _ 162 [.inr (.inr (.inl 176)), .inl x1, .inl x2, .inl x3, .inl x4, .inl x5, .inl (jw32 (x6 + 1))] [] 229 jr0 g81
          have e84 : g81 176 62 = g 176 62 := jup_o eg81 (by first | exact fun q => absurd q.1 (by decide) | exact fun q => absurd q.2 (by decide) | omega)
          have e85 : g81 176 62 = g 176 62 := jup_o eg81 (by first | exact fun q => absurd q.1 (by decide) | exact fun q => absurd q.2 (by decide) | omega)
          have e86 : g81 176 0 = g 176 0 := jup_o eg81 (by first | exact fun q => absurd q.1 (by decide) | exact fun q => absurd q.2 (by decide) | omega)
          have hc87 : ∀ L k : Int, jlv L k → g81 L k = h L k := fun L k q => by have q9 := jlv_o q; exact (jup_o eg81 (by first | exact fun q => absurd q.1 (by decide) | exact fun q => absurd q.2 (by decide) | omega)).trans (hx4 L k q)
          exact ih.2.2.2.2 x1 x2 x3 x4 x5 (jw32 (x6 + 1)) g81 (by omega) (by rw [show g81 176 62 = g 176 62 by omega]; exact hx0) (by omega) (by omega) (by omega) (by exact hc87) (by rw [show jw32 (x6 + 1) = x6 + 1 by omega]; exact jRC_s hx5 hx6 (by omega) (by omega) ev79 eg81) (by exact jRoq_fr (fun k => (jup_o eg81 (by first | exact fun q => absurd q.1 (by decide) | exact fun q => absurd q.2 (by decide) | omega))) hx6) fg81 (by omega)
  refine jGo_blk qX12_findLeast_0 ?_
  show jGo E l 166 229 229 _ 4 [.inr (.inr (.inl 176)), .inl 1, .inl 2, .inr (.inr (.inr ())), .inr (.inr (.inr ())), .inr (.inr (.inr ())), .inr (.inr (.inr ()))] [] 229 jr0 h
  exact (key 1000000000000000000).1 1 2 h (by omega) (by unfold jWf; omega) (by omega) (by omega) (by omega) (by exact fun L k q => rfl) f0 (by omega)
