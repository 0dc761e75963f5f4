def w_X12_ask (i k : Int) : Prop := (i = 226) ∨ (i = 176 ∧ k = 62)
def k_X12_ask (h : JH) (v : Option JV) (r' g : JH) : Prop := r' = jr0 ∧ jfr w_X12_ask h g ∧ ∃ x : Int, v = some (.inl x) ∧ (0 ≤ x ∧ x ≤ 1) ∧ (((x = 1 ∧ g 176 62 ≤ 5) ∨ x = 0) ∧ ((x = 1 ∧ (jUL h).length ≤ 5 ∧ jAkd g) ∨ (x = 0 ∧ 5 < (jUL h).length)) ∧ g 176 62 = (jUL h).length ∧ jUL g = jUL h)
set_option maxHeartbeats 4000000 in
theorem c_X12_ask {E : JE} {l : Launch} (h : JH) : jMt E l 164 [.inr (.inr (.inl 176))] 229 jr0 h (k_X12_ask h) := by
  refine jMt0 (nL := 3) (ls := [.inr (.inr (.inl 176)), .inr (.inr (.inr ())), .inr (.inr (.inr ()))]) (by decide +kernel) (by decide +kernel) (by decide +kernel) rfl rfl ?_
  have f0 : jfr w_X12_ask h h := jfr_rf _ _
  have key : ∀ N : Nat, (∀ (x1 : Int) (x2 : Int) (g : JH), (0 ≤ x1 ∧ x1 ≤ 16 ∧ 0 ≤ x2 ∧ x2 ≤ 16) → (x1 ≤ x2) → (jAk x2 x1 h g) → (x2 = 0 ∨ x2 ≤ h 176 14) → jfr w_X12_ask h g → (16 - x2) < (N : Int) → jGo E l 164 229 229 (jRK (k_X12_ask h)) 9 [.inr (.inr (.inl 176)), .inl x1, .inl x2] [] 229 jr0 g) := by
    intro N
    induction N with
    | zero => exact fun _ _ _ hi hx0 hx1 hx2 _ hN => absurd hN (by omega)
    | succ N ih =>
      intro x1 x2 g hi hx0 hx1 hx2 hf hN
      refine jGo_blk qX12_ask_9 ?_
      refine st_gi jo_176 (fun v1 ev1 b2 => ?_)
      replace ev1 : v1 = g 176 14 := ev1
      replace b2 := (jbf_12_14 jo_176 _).1 b2
      refine And.intro (fun c3 => ?_) (fun c3 => ?_)
      · replace c3 : v1 ≤ x2 := c3
        show jGo E l 164 229 229 _ 48 [.inr (.inr (.inl 176)), .inl x1, .inl x2] [] 229 jr0 g
        refine jGo_blk qX12_ask_48 ?_
        refine st_pi jo_176 (fun hx => (jbf_12_62 jo_176 _).2 (show 0 ≤ x1 ∧ x1 ≤ 16 by omega)) (fun g4 eg4 => ?_)
        replace eg4 : g4 = jup g 176 62 x1 := eg4
        have fg4 : jfr w_X12_ask h g4 := jfr_up hf eg4 (by unfold w_X12_ask; omega)
        have e5 : g4 176 62 = x1 := jup_s eg4
        refine And.intro (fun c6 => ?_) (fun c6 => ?_)
        · replace c6 : 5 < x1 := c6
          show jGo E l 164 229 229 _ 62 [.inr (.inr (.inl 176)), .inl x1, .inl x2] [] 229 jr0 g4
          refine jGo_blk qX12_ask_62 ?_
          show jGo E l 164 229 229 _ 63 [.inr (.inr (.inl 176)), .inl x1, .inl x2] [.inl 0] 229 jr0 g4
          refine jGo_blk qX12_ask_63 ?_
          have hc8 := hf 176 14 (by unfold w_X12_ask; omega)
          have hq7 := jAk_e hx1 (by omega) eg4 (fun i k q => hf i k (by unfold w_X12_ask; omega))
          exact st_r1 (ls := []) (show (0 : Int) = 0 ∨ (0 : Int) = 1 by omega) ⟨rfl, rfl, fg4, 0, rfl, (by omega), (by exact ⟨Or.inr rfl, Or.inr ⟨rfl, by have a := hq7.2.1; omega⟩, hq7.1, hq7.2.2.1⟩)⟩
        · replace c6 : x1 ≤ 5 := by first | exact c6 | exact Int.not_le.mp c6 | exact Int.not_lt.mp c6 | exact Decidable.not_not.mp c6
          show jGo E l 164 229 229 _ 63 [.inr (.inr (.inl 176)), .inl x1, .inl x2] [.inl 1] 229 jr0 g4
          refine jGo_blk qX12_ask_63 ?_
          have hc10 := hf 176 14 (by unfold w_X12_ask; omega)
          have hq9 := jAk_e hx1 (by omega) eg4 (fun i k q => hf i k (by unfold w_X12_ask; omega))
          exact st_r1 (ls := []) (show (1 : Int) = 0 ∨ (1 : Int) = 1 by omega) ⟨rfl, rfl, fg4, 1, rfl, (by omega), (by exact ⟨Or.inl ⟨rfl, by omega⟩, Or.inl ⟨rfl, by have a := hq9.2.1; omega, hq9.2.2.2 (by have a := hq9.2.1; omega)⟩, hq9.1, hq9.2.2.1⟩)⟩
      · replace c3 : x2 < v1 := by first | exact c3 | exact Int.not_le.mp c3 | exact Int.not_lt.mp c3 | exact Decidable.not_not.mp c3
        refine st_gr jo_176 jr_176_18 ?_
        refine st_ai jo_192 (show 0 ≤ x2 by omega) (show x2 < ((16 : Nat) : Int) by omega) (fun v11 ev11 b12 => ?_)
        replace ev11 : v11 = g 192 x2 := ev11
        replace b12 := (jba_192 x2 _).1 b12
        refine And.intro (fun c13 => ?_) (fun c13 => ?_)
        · replace c13 : 1 < v11 := c13
          show jGo E l 164 229 229 _ 42 [.inr (.inr (.inl 176)), .inl x1, .inl x2] [] 229 jr0 g
          refine jGo_blk qX12_ask_42 ?_
          have e14 : jw32 (x2 + 1) = x2 + 1 := jzj32 (by omega)
          show jGo E l 164 229 229 _ 9 [.inr (.inr (.inl 176)), .inl x1, .inl (jw32 (x2 + 1))] [] 229 jr0 g
          have hc15 := hf 192 x2 (by unfold w_X12_ask; omega)
          exact ih x1 (jw32 (x2 + 1)) g (by omega) (by omega) (by rw [show jw32 (x2 + 1) = x2 + 1 by omega]; exact jAk_n (by omega) (by omega) hx1) (by have q9 := hf 176 14 (by unfold w_X12_ask; omega); omega) hf (by omega)
        · replace c13 : v11 ≤ 1 := by first | exact c13 | exact Int.not_le.mp c13 | exact Int.not_lt.mp c13 | exact Decidable.not_not.mp c13
          refine And.intro (fun c16 => ?_) (fun c16 => ?_)
          · replace c16 : 5 ≤ x1 := c16
            show jGo E l 164 229 229 _ 39 [.inr (.inr (.inl 176)), .inl x1, .inl x2] [] 229 jr0 g
            refine jGo_blk qX12_ask_39 ?_
            have e17 : jw32 (x1 + 1) = x1 + 1 := jzj32 (by omega)
            show jGo E l 164 229 229 _ 42 [.inr (.inr (.inl 176)), .inl (jw32 (x1 + 1)), .inl x2] [] 229 jr0 g
            refine jGo_blk qX12_ask_42 ?_
            have e18 : jw32 (x2 + 1) = x2 + 1 := jzj32 (by omega)
            show jGo E l 164 229 229 _ 9 [.inr (.inr (.inl 176)), .inl (jw32 (x1 + 1)), .inl (jw32 (x2 + 1))] [] 229 jr0 g
            have hc19 := hf 192 x2 (by unfold w_X12_ask; omega)
            exact ih (jw32 (x1 + 1)) (jw32 (x2 + 1)) g (by omega) (by omega) (by rw [show jw32 (x1 + 1) = x1 + 1 by omega, show jw32 (x2 + 1) = x2 + 1 by omega]; exact jAk_y (by omega) (by omega) (Or.inl ⟨by omega, rfl⟩) hx1) (by have q9 := hf 176 14 (by unfold w_X12_ask; omega); omega) hf (by omega)
          · replace c16 : x1 < 5 := by first | exact c16 | exact Int.not_le.mp c16 | exact Int.not_lt.mp c16 | exact Decidable.not_not.mp c16
            refine st_gr jo_176 jr_176_61 ?_
            refine st_si jo_226 (show 0 ≤ x1 by omega) (show x1 < ((5 : Nat) : Int) by omega) (fun hx => (jba_226 _ _).2 (show 0 ≤ x2 ∧ x2 ≤ 15 by omega)) (fun g20 eg20 => ?_)
            replace eg20 : g20 = jup g 226 x1 x2 := eg20
            have fg20 : jfr w_X12_ask h g20 := jfr_up hf eg20 (by unfold w_X12_ask; omega)
            have e21 : g20 226 x1 = x2 := jup_s eg20
            show jGo E l 164 229 229 _ 39 [.inr (.inr (.inl 176)), .inl x1, .inl x2] [] 229 jr0 g20
            refine jGo_blk qX12_ask_39 ?_
            have e22 : jw32 (x1 + 1) = x1 + 1 := jzj32 (by omega)
            show jGo E l 164 229 229 _ 42 [.inr (.inr (.inl 176)), .inl (jw32 (x1 + 1)), .inl x2] [] 229 jr0 g20
            refine jGo_blk qX12_ask_42 ?_
            have e23 : jw32 (x2 + 1) = x2 + 1 := jzj32 (by omega)
            show jGo E l 164 229 229 _ 9 [.inr (.inr (.inl 176)), .inl (jw32 (x1 + 1)), .inl (jw32 (x2 + 1))] [] 229 jr0 g20
            have hc24 := hf 192 x2 (by unfold w_X12_ask; omega)
            exact ih (jw32 (x1 + 1)) (jw32 (x2 + 1)) g20 (by omega) (by omega) (by rw [show jw32 (x1 + 1) = x1 + 1 by omega, show jw32 (x2 + 1) = x2 + 1 by omega]; exact jAk_y (by omega) (by omega) (Or.inr ⟨by omega, eg20⟩) hx1) (by have q9 := hf 176 14 (by unfold w_X12_ask; omega); omega) fg20 (by omega)
  refine jGo_blk qX12_ask_0 ?_
  refine st_pi jo_176 (fun hx => (jbf_12_62 jo_176 _).2 (show 0 ≤ 0 ∧ 0 ≤ 16 by omega)) (fun g25 eg25 => ?_)
  replace eg25 : g25 = jup h 176 62 0 := eg25
  have fg25 : jfr w_X12_ask h g25 := jfr_up f0 eg25 (by unfold w_X12_ask; omega)
  have e26 : g25 176 62 = 0 := jup_s eg25
  show jGo E l 164 229 229 _ 9 [.inr (.inr (.inl 176)), .inl 0, .inl 0] [] 229 jr0 g25
  exact (key 1000000000000) 0 0 g25 (by omega) (by omega) (by exact jAk_0) (by omega) fg25 (by omega)

def w_X12_findOrder (i k : Int) : Prop := (i = 227)
def k_X12_findOrder (a1 : Int) (h : JH) (v : Option JV) (r' g : JH) : Prop := r' = jr0 ∧ jfr w_X12_findOrder h g ∧ v = none ∧ (∀ i : Int, 0 ≤ i → i < h 176 62 → g 227 i = h 226 (jatt (h 176 62) a1 i.toNat))
set_option maxHeartbeats 4000000 in
theorem c_X12_findOrder {E : JE} {l : Launch} (a1 : Int) (h : JH) (p1 : 0 ≤ a1 ∧ a1 ≤ 119) (q0 : h 176 62 ≤ 5) (q1 : jWq (h 176 62) a1) : jMt E l 165 [.inr (.inr (.inl 176)), .inl a1] 229 jr0 h (k_X12_findOrder a1 h) := by
  refine jMt0 (nL := 8) (ls := [.inr (.inr (.inl 176)), .inl a1, .inr (.inr (.inr ())), .inr (.inr (.inr ())), .inr (.inr (.inr ())), .inr (.inr (.inr ())), .inr (.inr (.inr ())), .inr (.inr (.inr ()))]) (by decide +kernel) (by decide +kernel) (by decide +kernel) rfl rfl ?_
  have f0 : jfr w_X12_findOrder h h := jfr_rf _ _
  refine jGo_bd (fun hbd => ?_)
  have hb0 := (jbf_12_62 jo_176 _).1 (hbd 176 62)
  have key : ∀ N : Nat, (∀ (x4 : Int) (x5 : Int) (g : JH), (1 ≤ x4 ∧ x4 ≤ 120 ∧ 2 ≤ x5 ∧ x5 ≤ 6) → (jWf x5 x4) → (g 176 62 = h 176 62) → (x5 = 2 ∨ x5 ≤ g 176 62 + 1) → jfr w_X12_findOrder h g → ((6 - x5) + 20000) * 1000000 + 999999 < (N : Int) → jGo E l 165 229 229 (jRK (k_X12_findOrder a1 h)) 10 [.inr (.inr (.inl 176)), .inl a1, .inl a1, .inl 0, .inl x4, .inl x5, .inr (.inr (.inr ())), .inr (.inr (.inr ()))] [] 229 jr0 g) ∧
      (∀ (x2 : Int) (x3 : Int) (x4 : Int) (x5 : Int) (x6 : JV) (x7 : JV) (g : JH), (0 ≤ x2 ∧ x2 ≤ 119 ∧ 0 ≤ x3 ∧ x3 ≤ 31 ∧ 1 ≤ x4 ∧ x4 ≤ 120 ∧ 0 ≤ x5 ∧ x5 ≤ 5) → (jWr (g 176 62 - x5) x4) → (0 ≤ x2 ∧ x2 < x4) → (g 176 62 = h 176 62) → (jzb x3 0 (g 176 62) = g 176 62 - x5) → (x5 ≤ g 176 62) → (jfo (h 176 62) a1 (x5).toNat = (x2, x3, x4)) → (∀ i : Int, 0 ≤ i → i < x5 → g 227 i = h 226 (jatt (h 176 62) a1 i.toNat)) → jfr w_X12_findOrder h g → (5 - x5) * 1000000 + 999999 < (N : Int) → jGo E l 165 229 229 (jRK (k_X12_findOrder a1 h)) 35 [.inr (.inr (.inl 176)), .inl a1, .inl x2, .inl x3, .inl x4, .inl x5, x6, x7] [] 229 jr0 g) ∧
      (∀ (x2 : Int) (x3 : Int) (x4 : Int) (x5 : Int) (x6 : Int) (x7 : Int) (g : JH), (0 ≤ x2 ∧ x2 ≤ 119 ∧ 0 ≤ x3 ∧ x3 ≤ 31 ∧ 1 ≤ x4 ∧ x4 ≤ 120 ∧ 0 ≤ x5 ∧ x5 ≤ 4 ∧ 0 ≤ x6 ∧ x6 ≤ 4 ∧ 0 ≤ x7 ∧ x7 ≤ 5) → (0 ≤ x6 ∧ 0 ≤ x7 ∧ x7 ≤ 5 ∧ x6 + 1 ≤ jzb x3 x7 (g 176 62)) → (jzb x3 0 (g 176 62) = g 176 62 - x5) → (jWs (g 176 62 - x5) x4) → (0 ≤ x2 ∧ x2 < x4 ∧ x5 < g 176 62 ∧ g 176 62 ≤ 5) → (g 176 62 = h 176 62) → (jfo (h 176 62) a1 (x5 + 1).toNat = (x2, jor x3 (jshl 1 (jatt (h 176 62) a1 (x5).toNat)), x4)) → (jzr x3 (6 - x7).toNat x6 x7 = jatt (h 176 62) a1 (x5).toNat) → (∀ i : Int, 0 ≤ i → i < x5 → g 227 i = h 226 (jatt (h 176 62) a1 i.toNat)) → jfr w_X12_findOrder h g → (5 - x5) * 1000000 + (5 - x7) < (N : Int) → jGo E l 165 229 229 (jRK (k_X12_findOrder a1 h)) 70 [.inr (.inr (.inl 176)), .inl a1, .inl x2, .inl x3, .inl x4, .inl x5, .inl x6, .inl x7] [] 229 jr0 g) := by
    intro N
    induction N with
    | zero => exact ⟨fun _ _ _ hi hx0 hx1 hx2 _ hN => absurd hN (by omega), fun _ _ _ _ _ _ _ hi hx0 hx1 hx2 hx3 hx4 hx5 hx6 _ hN => absurd hN (by omega), fun _ _ _ _ _ _ _ hi hx0 hx1 hx2 hx3 hx4 hx5 hx6 hx7 _ hN => absurd hN (by omega)⟩
    | succ N ih =>
      refine ⟨?_, ?_, ?_⟩
      · intro x4 x5 g hi hx0 hx1 hx2 hf hN
        refine jGo_blk qX12_findOrder_10 ?_
        refine st_gi jo_176 (fun v1 ev1 b2 => ?_)
        replace ev1 : v1 = g 176 62 := ev1
        replace b2 := (jbf_12_62 jo_176 _).1 b2
        refine And.intro (fun c3 => ?_) (fun c3 => ?_)
        · replace c3 : v1 < x5 := c3
          show jGo E l 165 229 229 _ 32 [.inr (.inr (.inl 176)), .inl a1, .inl a1, .inl 0, .inl x4, .inl x5, .inr (.inr (.inr ())), .inr (.inr (.inr ()))] [] 229 jr0 g
          refine jGo_blk qX12_findOrder_32 ?_
          show jGo E l 165 229 229 _ 35 [.inr (.inr (.inl 176)), .inl a1, .inl a1, .inl 0, .inl x4, .inl 0, .inr (.inr (.inr ())), .inr (.inr (.inr ()))] [] 229 jr0 g
          exact ih.2.1 a1 0 x4 0 (.inr (.inr (.inr ()))) (.inr (.inr (.inr ()))) g (by omega) (by have q9 := hx0; unfold jWf at q9; unfold jWr; omega) (by have q9 := hx0; have q8 := q1; unfold jWf at q9; unfold jWq at q8; omega) (by omega) (by have := jzb_0 (g 176 62); omega) (by omega) (by show (a1, (0 : Int), jfw (h 176 62)) = (a1, 0, x4); rw [← jfw_e hx0 (by omega) (by omega)]) (by exact fun i p1 p2 => absurd p2 (by omega)) hf (by omega)
        · replace c3 : x5 ≤ v1 := by first | exact c3 | exact Int.not_le.mp c3 | exact Int.not_lt.mp c3 | exact Decidable.not_not.mp c3
          have hm9 : (jw32 (x4 * x5) = 2 ∧ x5 = 2) ∨ (jw32 (x4 * x5) = 6 ∧ x5 = 3) ∨ (jw32 (x4 * x5) = 24 ∧ x5 = 4) ∨ (jw32 (x4 * x5) = 120 ∧ x5 = 5) := by rcases hx0 with ⟨q1, q2⟩ | ⟨q1, q2⟩ | ⟨q1, q2⟩ | ⟨q1, q2⟩ | ⟨q1, q2⟩ <;> first | (exfalso; omega) | (rw [q1, q2]; decide)
          have e4 : jw32 (x5 + 1) = x5 + 1 := jzj32 (by omega)
          show jGo E l 165 229 229 _ 10 [.inr (.inr (.inl 176)), .inl a1, .inl a1, .inl 0, .inl (jw32 (x4 * x5)), .inl (jw32 (x5 + 1)), .inr (.inr (.inr ())), .inr (.inr (.inr ()))] [] 229 jr0 g
          exact ih.1 (jw32 (x4 * x5)) (jw32 (x5 + 1)) g (by omega) (by unfold jWf; omega) (by omega) (by omega) hf (by omega)
      · intro x2 x3 x4 x5 x6 x7 g hi hx0 hx1 hx2 hx3 hx4 hx5 hx6 hf hN
        refine jGo_blk qX12_findOrder_35 ?_
        refine st_gi jo_176 (fun v5 ev5 b6 => ?_)
        replace ev5 : v5 = g 176 62 := ev5
        replace b6 := (jbf_12_62 jo_176 _).1 b6
        refine And.intro (fun c7 => ?_) (fun c7 => ?_)
        · replace c7 : v5 ≤ x5 := c7
          show jGo E l 165 229 229 _ 138 [.inr (.inr (.inl 176)), .inl a1, .inl x2, .inl x3, .inl x4, .inl x5, x6, x7] [] 229 jr0 g
          refine jGo_blk qX12_findOrder_138 ?_
          exact ⟨rfl, rfl, hf, rfl, (by exact fun i p1 p2 => hx6 i p1 (by omega))⟩
        · replace c7 : x5 < v5 := by first | exact c7 | exact Int.not_le.mp c7 | exact Int.not_lt.mp c7 | exact Decidable.not_not.mp c7
          refine st_gi jo_176 (fun v8 ev8 b9 => ?_)
          replace ev8 : v8 = g 176 62 := ev8
          replace b9 := (jbf_12_62 jo_176 _).1 b9
          have e10 : jw32 (v8 - x5) = v8 - x5 := jzj32 (by omega)
          refine And.intro (show jw32 (v8 - x5) ≠ 0 by omega) ?_
          have hd9 : jw32 (v8 - x5) = v8 - x5 := jzj32 (by omega)
          have hw9 : (v8 - x5 = 1 ∧ x4 = 1 ∧ jw32 (x4.tdiv (jw32 (v8 - x5))) = 1) ∨ (v8 - x5 = 2 ∧ x4 = 2 ∧ jw32 (x4.tdiv (jw32 (v8 - x5))) = 1) ∨ (v8 - x5 = 3 ∧ x4 = 6 ∧ jw32 (x4.tdiv (jw32 (v8 - x5))) = 2) ∨ (v8 - x5 = 4 ∧ x4 = 24 ∧ jw32 (x4.tdiv (jw32 (v8 - x5))) = 6) ∨ (v8 - x5 = 5 ∧ x4 = 120 ∧ jw32 (x4.tdiv (jw32 (v8 - x5))) = 24) := by
            have q9 : (v8 - x5 = 1 ∧ x4 = 1) ∨ (v8 - x5 = 2 ∧ x4 = 2) ∨ (v8 - x5 = 3 ∧ x4 = 6) ∨ (v8 - x5 = 4 ∧ x4 = 24) ∨ (v8 - x5 = 5 ∧ x4 = 120) := by have q7 := hx0; unfold jWr at q7; omega
            rcases q9 with ⟨q1, q2⟩ | ⟨q1, q2⟩ | ⟨q1, q2⟩ | ⟨q1, q2⟩ | ⟨q1, q2⟩ <;> rw [hd9, q1, q2] <;> decide
          refine And.intro (show jw32 (x4.tdiv (jw32 (v8 - x5))) ≠ 0 by omega) ?_
          have e11 : jw32 (x2.tdiv (jw32 (x4.tdiv (jw32 (v8 - x5))))) = x2 / (jw32 (x4.tdiv (jw32 (v8 - x5)))) := j32d (by omega) (by omega) (by omega)
          have hs9 : 0 ≤ jw32 (x2.tdiv (jw32 (x4.tdiv (jw32 (v8 - x5))))) ∧ jw32 (x2.tdiv (jw32 (x4.tdiv (jw32 (v8 - x5))))) + 1 ≤ v8 - x5 := by
            have q8 : jw32 (x2.tdiv (jw32 (x4.tdiv (jw32 (v8 - x5))))) = x2 / (jw32 (x4.tdiv (jw32 (v8 - x5)))) := j32d (by omega) (by omega) (by omega)
            rcases hw9 with ⟨q1, q2, q3⟩ | ⟨q1, q2, q3⟩ | ⟨q1, q2, q3⟩ | ⟨q1, q2, q3⟩ | ⟨q1, q2, q3⟩ <;> rw [q3] at q8 <;> rw [q3] <;> omega
          have hT9 : 1 ≤ jw32 (x4.tdiv (jw32 (v8 - x5))) ∧ jw32 (x4.tdiv (jw32 (v8 - x5))) ≤ 24 := by omega
          have hs8 : jWs (v8 - x5) (jw32 (x4.tdiv (jw32 (v8 - x5)))) := by unfold jWs; omega
          clear hw9
          refine And.intro (show jw32 (x4.tdiv (jw32 (v8 - x5))) ≠ 0 by omega) ?_
          have e12 : True ∧ 0 ≤ x2.tmod (jw32 (x4.tdiv (jw32 (v8 - x5)))) ∧ x2.tmod (jw32 (x4.tdiv (jw32 (v8 - x5)))) < jw32 (x4.tdiv (jw32 (v8 - x5))) := ⟨trivial, (jmd (by omega) (by omega)).2⟩
          show jGo E l 165 229 229 _ 70 [.inr (.inr (.inl 176)), .inl a1, .inl (x2.tmod (jw32 (x4.tdiv (jw32 (v8 - x5))))), .inl x3, .inl (jw32 (x4.tdiv (jw32 (v8 - x5)))), .inl x5, .inl (jw32 (x2.tdiv (jw32 (x4.tdiv (jw32 (v8 - x5)))))), .inl 0] [] 229 jr0 g
          have hq13 := jfo_s (by omega) hx5
          have hc14 : jw32 (x4.tdiv (jw32 (v8 - x5))) = x4 / (h 176 62 - x5) := by rw [j32d (by omega) (by omega) (by omega), hd9, show v8 - x5 = h 176 62 - x5 by omega]
          rw [← hc14] at hq13
          exact ih.2.2 (x2.tmod (jw32 (x4.tdiv (jw32 (v8 - x5))))) x3 (jw32 (x4.tdiv (jw32 (v8 - x5)))) x5 (jw32 (x2.tdiv (jw32 (x4.tdiv (jw32 (v8 - x5)))))) 0 g (by omega) (by omega) (by omega) (by rw [show g 176 62 - x5 = v8 - x5 by omega]; exact hs8) (by omega) (by omega) (by rw [hq13.1, (jmd (by omega) (by omega)).1]) (by rw [hq13.2, show jw32 (x2.tdiv (jw32 (x4.tdiv (jw32 (v8 - x5))))) = x2 / (jw32 (x4.tdiv (jw32 (v8 - x5)))) from j32d (by omega) (by omega) (by omega)]; rfl) (by exact hx6) hf (by omega)
      · intro x2 x3 x4 x5 x6 x7 g hi hx0 hx1 hx2 hx3 hx4 hx5 hx6 hx7 hf hN
        refine jGo_blk qX12_findOrder_70 ?_
        have e15 := jand_le2 (jshr x3 x7) 1 (by omega) (by omega)
        have y16 := jzb_s x3 x7 (g 176 62) (by omega) (by omega) (by omega) (by omega) (by omega) (by omega)
        refine And.intro (fun c17 => ?_) (fun c17 => ?_)
        · replace c17 : jand (jshr x3 x7) 1 = 1 := c17
          show jGo E l 165 229 229 _ 85 [.inr (.inr (.inl 176)), .inl a1, .inl x2, .inl x3, .inl x4, .inl x5, .inl x6, .inl x7] [] 229 jr0 g
          refine jGo_blk qX12_findOrder_85 ?_
          have e18 := jand_le2 (jshr x3 x7) 1 (by omega) (by omega)
          have y19 := jzb_s x3 x7 (g 176 62) (by omega) (by omega) (by omega) (by omega) (by omega) (by omega)
          refine And.intro (fun c20 => ?_) (fun c20 => ?_)
          · replace c20 : ¬ jand (jshr x3 x7) 1 = 1 := c20
            show jGo E l 165 229 229 _ 101 [.inr (.inr (.inl 176)), .inl a1, .inl x2, .inl x3, .inl x4, .inl x5, .inl x6, .inl x7] [.inl x6] 229 jr0 g
            refine jGo_blk qX12_findOrder_101 ?_
            show jGo E l 165 229 229 _ 102 [.inr (.inr (.inl 176)), .inl a1, .inl x2, .inl x3, .inl x4, .inl x5, .inl x6, .inl x7] [.inl 1, .inl x6] 229 jr0 g
            refine jGo_blk qX12_findOrder_102 ?_
            have e21 : jw32 (x6 - 1) = x6 - 1 := jzj32 (by omega)
            have e22 : jw32 (x7 + 1) = x7 + 1 := jzj32 (by omega)
            show jGo E l 165 229 229 _ 70 [.inr (.inr (.inl 176)), .inl a1, .inl x2, .inl x3, .inl x4, .inl x5, .inl (jw32 (x6 - 1)), .inl (jw32 (x7 + 1))] [] 229 jr0 g
            exact ih.2.2 x2 x3 x4 x5 (jw32 (x6 - 1)) (jw32 (x7 + 1)) g (by omega) (by rw [show jw32 (x7 + 1) = x7 + 1 from jzj32 (by omega)]; omega) (by omega) (by exact hx2) (by omega) (by omega) (by exact hx5) (by rw [show jw32 (x7 + 1) = x7 + 1 by omega, show jw32 (x6 - 1) = x6 - 1 by omega]; exact (jzr_2 (by omega) (by omega) (by omega)).symm.trans hx6) (by exact hx7) hf (by omega)
          · replace c20 : jand (jshr x3 x7) 1 = 1 := by first | exact c20 | exact Int.not_le.mp c20 | exact Int.not_lt.mp c20 | exact Decidable.not_not.mp c20
            show jGo E l 165 229 229 _ 102 [.inr (.inr (.inl 176)), .inl a1, .inl x2, .inl x3, .inl x4, .inl x5, .inl x6, .inl x7] [.inl 0, .inl x6] 229 jr0 g
            refine jGo_blk qX12_findOrder_102 ?_
            have e23 : jw32 (x6 - 0) = x6 - 0 := jzj32 (by omega)
            have e24 : jw32 (x7 + 1) = x7 + 1 := jzj32 (by omega)
            show jGo E l 165 229 229 _ 70 [.inr (.inr (.inl 176)), .inl a1, .inl x2, .inl x3, .inl x4, .inl x5, .inl (jw32 (x6 - 0)), .inl (jw32 (x7 + 1))] [] 229 jr0 g
            exact ih.2.2 x2 x3 x4 x5 (jw32 (x6 - 0)) (jw32 (x7 + 1)) g (by omega) (by rw [show jw32 (x7 + 1) = x7 + 1 from jzj32 (by omega)]; omega) (by omega) (by exact hx2) (by omega) (by omega) (by exact hx5) (by rw [show jw32 (x7 + 1) = x7 + 1 by omega, show jw32 (x6 - 0) = x6 by omega]; exact (jzr_1 (by omega) (by omega)).symm.trans hx6) (by exact hx7) hf (by omega)
        · replace c17 : ¬ jand (jshr x3 x7) 1 = 1 := by first | exact c17 | exact Int.not_le.mp c17 | exact Int.not_lt.mp c17 | exact Decidable.not_not.mp c17
          refine And.intro (fun c25 => ?_) (fun c25 => ?_)
          · replace c25 : x6 ≤ 0 := c25
            show jGo E l 165 229 229 _ 111 [.inr (.inr (.inl 176)), .inl a1, .inl x2, .inl x3, .inl x4, .inl x5, .inl x6, .inl x7] [] 229 jr0 g
            refine jGo_blk qX12_findOrder_111 ?_
            have e26 := jshl1_5 x7 (by omega) (by omega)
            have e27 := jor63 x3 (jshl 1 x7) (by omega) (by omega) (by omega) (by omega)
            have y28 := jzb_o x3 x7 (g 176 62) (by omega) (by omega) (by omega) (by omega) (by omega) (by omega)
            refine st_gr jo_176 jr_176_63 ?_
            refine st_gr jo_176 jr_176_61 ?_
            refine st_ai jo_226 (show 0 ≤ x7 by omega) (show x7 < ((5 : Nat) : Int) by omega) (fun v29 ev29 b30 => ?_)
            replace ev29 : v29 = g 226 x7 := ev29
            replace b30 := (jba_226 x7 _).1 b30
            refine st_si jo_227 (show 0 ≤ x5 by omega) (show x5 < ((5 : Nat) : Int) by omega) (fun hx => (jba_227 _ _).2 (show 0 ≤ v29 ∧ v29 ≤ 15 by omega)) (fun g31 eg31 => ?_)
            replace eg31 : g31 = jup g 227 x5 v29 := eg31
            have fg31 : jfr w_X12_findOrder h g31 := jfr_up hf eg31 (by unfold w_X12_findOrder; omega)
            have e32 : g31 227 x5 = v29 := jup_s eg31
            have e33 : jw32 (x5 + 1) = x5 + 1 := jzj32 (by omega)
            show jGo E l 165 229 229 _ 35 [.inr (.inr (.inl 176)), .inl a1, .inl x2, .inl (jor x3 (jshl 1 x7)), .inl x4, .inl (jw32 (x5 + 1)), .inl x6, .inl x7] [] 229 jr0 g31
            have e34 : g31 176 62 = g 176 62 := jup_o eg31 (by first | exact fun q => absurd q.1 (by decide) | exact fun q => absurd q.2 (by decide) | omega)
            have e35 : g31 176 62 = g 176 62 := jup_o eg31 (by first | exact fun q => absurd q.1 (by decide) | exact fun q => absurd q.2 (by decide) | omega)
            have e36 : g31 176 62 = g 176 62 := jup_o eg31 (by first | exact fun q => absurd q.1 (by decide) | exact fun q => absurd q.2 (by decide) | omega)
            have e37 : g31 176 62 = g 176 62 := jup_o eg31 (by first | exact fun q => absurd q.1 (by decide) | exact fun q => absurd q.2 (by decide) | omega)
            have e38 : g31 176 62 = g 176 62 := jup_o eg31 (by first | exact fun q => absurd q.1 (by decide) | exact fun q => absurd q.2 (by decide) | omega)
            have hc39 : ∀ i : Int, 0 ≤ i → i < jw32 (x5 + 1) → g31 227 i = h 226 (jatt (h 176 62) a1 i.toNat) := by
              intro i p1 p2
              by_cases y : i = x5
              · rw [y, jup_s eg31, ev29, ← hx6, jzr_3 (by omega) (by omega) _]; exact hf 226 x7 (by unfold w_X12_findOrder; omega)
              · rw [jup_o eg31 (by first | exact fun q => absurd q.1 (by decide) | exact fun q => absurd q.2 (by decide) | omega)]; exact hx7 i p1 (by omega)
            exact ih.2.1 x2 (jor x3 (jshl 1 x7)) x4 (jw32 (x5 + 1)) (.inl x6) (.inl x7) g31 (by omega) (by have q9 := hx2; unfold jWs at q9; unfold jWr; omega) (by omega) (by omega) (by rw [show g31 176 62 = g 176 62 by omega]; omega) (by omega) (by rw [show jw32 (x5 + 1) = x5 + 1 by omega, hx5, ← hx6, jzr_3 (by omega) (by omega) _]) (by exact hc39) fg31 (by omega)
          · replace c25 : 0 < x6 := by first | exact c25 | exact Int.not_le.mp c25 | exact Int.not_lt.mp c25 | exact Decidable.not_not.mp c25
            show jGo E l 165 229 229 _ 85 [.inr (.inr (.inl 176)), .inl a1, .inl x2, .inl x3, .inl x4, .inl x5, .inl x6, .inl x7] [] 229 jr0 g
            refine jGo_blk qX12_findOrder_85 ?_
            have e40 := jand_le2 (jshr x3 x7) 1 (by omega) (by omega)
            have y41 := jzb_s x3 x7 (g 176 62) (by omega) (by omega) (by omega) (by omega) (by omega) (by omega)
            refine And.intro (fun c42 => ?_) (fun c42 => ?_)
            · replace c42 : ¬ jand (jshr x3 x7) 1 = 1 := c42
              show jGo E l 165 229 229 _ 101 [.inr (.inr (.inl 176)), .inl a1, .inl x2, .inl x3, .inl x4, .inl x5, .inl x6, .inl x7] [.inl x6] 229 jr0 g
              refine jGo_blk qX12_findOrder_101 ?_
              show jGo E l 165 229 229 _ 102 [.inr (.inr (.inl 176)), .inl a1, .inl x2, .inl x3, .inl x4, .inl x5, .inl x6, .inl x7] [.inl 1, .inl x6] 229 jr0 g
              refine jGo_blk qX12_findOrder_102 ?_
              have e43 : jw32 (x6 - 1) = x6 - 1 := jzj32 (by omega)
              have e44 : jw32 (x7 + 1) = x7 + 1 := jzj32 (by omega)
              show jGo E l 165 229 229 _ 70 [.inr (.inr (.inl 176)), .inl a1, .inl x2, .inl x3, .inl x4, .inl x5, .inl (jw32 (x6 - 1)), .inl (jw32 (x7 + 1))] [] 229 jr0 g
              exact ih.2.2 x2 x3 x4 x5 (jw32 (x6 - 1)) (jw32 (x7 + 1)) g (by omega) (by rw [show jw32 (x7 + 1) = x7 + 1 from jzj32 (by omega)]; omega) (by omega) (by exact hx2) (by omega) (by omega) (by exact hx5) (by rw [show jw32 (x7 + 1) = x7 + 1 by omega, show jw32 (x6 - 1) = x6 - 1 by omega]; exact (jzr_2 (by omega) (by omega) (by omega)).symm.trans hx6) (by exact hx7) hf (by omega)
            · replace c42 : jand (jshr x3 x7) 1 = 1 := by first | exact c42 | exact Int.not_le.mp c42 | exact Int.not_lt.mp c42 | exact Decidable.not_not.mp c42
              show jGo E l 165 229 229 _ 102 [.inr (.inr (.inl 176)), .inl a1, .inl x2, .inl x3, .inl x4, .inl x5, .inl x6, .inl x7] [.inl 0, .inl x6] 229 jr0 g
              refine jGo_blk qX12_findOrder_102 ?_
              have e45 : jw32 (x6 - 0) = x6 - 0 := jzj32 (by omega)
              have e46 : jw32 (x7 + 1) = x7 + 1 := jzj32 (by omega)
              show jGo E l 165 229 229 _ 70 [.inr (.inr (.inl 176)), .inl a1, .inl x2, .inl x3, .inl x4, .inl x5, .inl (jw32 (x6 - 0)), .inl (jw32 (x7 + 1))] [] 229 jr0 g
              exact ih.2.2 x2 x3 x4 x5 (jw32 (x6 - 0)) (jw32 (x7 + 1)) g (by omega) (by rw [show jw32 (x7 + 1) = x7 + 1 from jzj32 (by omega)]; omega) (by omega) (by exact hx2) (by omega) (by omega) (by exact hx5) (by rw [show jw32 (x7 + 1) = x7 + 1 by omega, show jw32 (x6 - 0) = x6 by omega]; exact (jzr_1 (by omega) (by omega)).symm.trans hx6) (by exact hx7) hf (by omega)
  refine jGo_blk qX12_findOrder_0 ?_
  show jGo E l 165 229 229 _ 10 [.inr (.inr (.inl 176)), .inl a1, .inl a1, .inl 0, .inl 1, .inl 2, .inr (.inr (.inr ())), .inr (.inr (.inr ()))] [] 229 jr0 h
  exact (key 1000000000000000000).1 1 2 h (by omega) (by unfold jWf; omega) (by omega) (by omega) f0 (by omega)
