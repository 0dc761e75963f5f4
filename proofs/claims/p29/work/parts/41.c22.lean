def w_X12_findMatch (i k : Int) : Prop := (221 ≤ i ∧ i ≤ 223) ∨ (i = 176 ∧ 55 ≤ k ∧ k ≤ 58)
theorem ws_X12_solve__X12_findMatch (i k : Int) (q : w_X12_solve i k) : w_X12_findMatch i k := by
  unfold w_X12_solve at q; unfold w_X12_findMatch
  rcases q with q | q
  · exact (Or.inl (by omega))
  · exact (Or.inr (by omega))
def k_X12_findMatch (a1 : Int) (h : JH) (v : Option JV) (r' g : JH) : Prop := r' = jr0 ∧ jfr w_X12_findMatch h g ∧ v = none ∧ (jMmP a1 h g)
set_option maxHeartbeats 4000000 in
theorem c_X12_findMatch {E : JE} {l : Launch} (a1 : Int) (h : JH) (p1 : 0 ≤ a1 ∧ a1 ≤ 2) (q0 : jM7 h) : jMt E l 118 [.inr (.inr (.inl 176)), .inl a1] 229 jr0 h (k_X12_findMatch a1 h) := by
  refine jMt0 (nL := 7) (ls := [.inr (.inr (.inl 176)), .inl a1, .inr (.inr (.inr ())), .inr (.inr (.inr ())), .inr (.inr (.inr ())), .inr (.inr (.inr ())), .inr (.inr (.inr ()))]) (by decide +kernel) (by decide +kernel) (by decide +kernel) rfl rfl ?_
  have f0 : jfr w_X12_findMatch h h := jfr_rf _ _
  refine jGo_bd (fun hbd => ?_)
  have hB : ∀ k : Int, 0 ≤ h 214 k := fun k => ((jba_214 k _).1 (hbd 214 k)).1
  have hT := (jbf_12_34 jo_176 _).1 (hbd 176 34)
  have hn := (jba_210 a1 _).1 (hbd 210 a1)
  have key : ∀ N : Nat, (∀ (x2 : Int) (g : JH), (0 ≤ x2 ∧ x2 ≤ 40) → (∀ t : Int, 0 ≤ t → t < x2 → g 221 t = 0) → jfr w_X12_findMatch h g → ((40 - x2) + 20000) * 1000000 + 999999 < (N : Int) → jGo E l 118 229 229 (jRK (k_X12_findMatch a1 h)) 2 [.inr (.inr (.inl 176)), .inl a1, .inl x2, .inr (.inr (.inr ())), .inr (.inr (.inr ())), .inr (.inr (.inr ())), .inr (.inr (.inr ()))] [] 229 jr0 g) ∧
      (∀ (x2 : Int) (x3 : Int) (x4 : Int) (x5 : JV) (x6 : JV) (g : JH), (0 ≤ x4 ∧ x4 ≤ 6) → (jQ1 h a1 x4 x2 x3 g) → jfr w_X12_findMatch h g → (6 - x4) * 1000000 + 999999 < (N : Int) → jGo E l 118 229 229 (jRK (k_X12_findMatch a1 h)) 50 [.inr (.inr (.inl 176)), .inl a1, .inl x2, .inl x3, .inl x4, x5, x6] [] 229 jr0 g) ∧
      (∀ (x2 : Int) (x3 : Int) (x4 : Int) (x5 : Int) (x6 : JV) (g : JH), (0 ≤ x4 ∧ x4 ≤ 5 ∧ 0 ≤ x5 ∧ x5 ≤ 40) → (jQ2 h a1 x4 x5 x2 x3 g) → jfr w_X12_findMatch h g → (6 - x4) * 1000000 + (40 - x5) < (N : Int) → jGo E l 118 229 229 (jRK (k_X12_findMatch a1 h)) 69 [.inr (.inr (.inl 176)), .inl a1, .inl x2, .inl x3, .inl x4, .inl x5, x6] [] 229 jr0 g) := by
    intro N
    induction N with
    | zero => exact ⟨fun _ _ hi hx0 _ hN => absurd hN (by omega), fun _ _ _ _ _ _ hi hx0 _ hN => absurd hN (by omega), fun _ _ _ _ _ _ hi hx0 _ hN => absurd hN (by omega)⟩
    | succ N ih =>
      refine ⟨?_, ?_, ?_⟩
      · intro x2 g hi hx0 hf hN
        refine jGo_blk qX12_findMatch_2 ?_
        refine And.intro (fun c1 => ?_) (fun c1 => ?_)
        · replace c1 : 40 ≤ x2 := c1
          show jGo E l 118 229 229 _ 21 [.inr (.inr (.inl 176)), .inl a1, .inl x2, .inr (.inr (.inr ())), .inr (.inr (.inr ())), .inr (.inr (.inr ())), .inr (.inr (.inr ()))] [] 229 jr0 g
          refine jGo_blk qX12_findMatch_21 ?_
          refine st_cv (na := 2) (st := [.inl 0, .inl a1, .inr (.inr (.inl 176))]) jo_176 rfl rfl rfl (c_X12_solve a1 0 g (by omega) (by omega) (fun t a b => by rw [show g 207 t = h 207 t from hf 207 t (by unfold w_X12_findMatch; omega)]; exact q0 t a b)) rfl ?_
          rintro _ _ g3 ⟨rfl, ft2, rfl, zt2⟩ kt2
          have fg3 : jfr w_X12_findMatch h g3 := jfr_tr hf ft2 ws_X12_solve__X12_findMatch
          replace zt2 : jMsP a1 (0 : Int) g g3 := zt2
          refine st_gi jo_176 (fun v4 ev4 b5 => ?_)
          replace ev4 : v4 = g3 176 55 := ev4
          replace b5 := (jbf_12_55 jo_176 _).1 b5
          refine st_pi jo_176 (fun hx => (jbf_12_57 jo_176 _).2 hx) (fun g6 eg6 => ?_)
          replace eg6 : g6 = jup g3 176 57 v4 := eg6
          have fg6 : jfr w_X12_findMatch h g6 := jfr_up fg3 eg6 (by unfold w_X12_findMatch; omega)
          have e7 : g6 176 57 = v4 := jup_s eg6
          refine st_gi jo_176 (fun v8 ev8 b9 => ?_)
          replace ev8 : v8 = g6 176 56 := ev8
          replace b9 := (jbf_12_56 jo_176 _).1 b9
          have e10 : g6 176 56 = g3 176 56 := jup_o eg6 (by first | exact fun q => absurd q.1 (by decide) | exact fun q => absurd q.2 (by decide) | omega)
          refine st_pi jo_176 (fun hx => (jbf_12_58 jo_176 _).2 hx) (fun g11 eg11 => ?_)
          replace eg11 : g11 = jup g6 176 58 v8 := eg11
          have fg11 : jfr w_X12_findMatch h g11 := jfr_up fg6 eg11 (by unfold w_X12_findMatch; omega)
          have e12 : g11 176 58 = v8 := jup_s eg11
          show jGo E l 118 229 229 _ 50 [.inr (.inr (.inl 176)), .inl a1, .inl 0, .inl 0, .inl 0, .inr (.inr (.inr ())), .inr (.inr (.inr ()))] [] 229 jr0 g11
          exact ih.2.1 0 0 0 (.inr (.inr (.inr ()))) (.inr (.inr (.inr ()))) g11 (by omega) (by exact jQ_0 q0 hB (by omega) ⟨fun i k p1 p2 => hf i k (by unfold w_X12_findMatch; omega), hf 176 34 (by unfold w_X12_findMatch; omega)⟩ (fun t a b => hx0 t a (by omega)) (fun t a b => ((ft2 221 t (by unfold w_X12_solve; omega))).trans (hx0 t a (by omega))) zt2 ev4.symm (ev8.trans (jup_o eg6 (by first | exact fun q => absurd q.1 (by decide) | exact fun q => absurd q.2 (by decide) | omega))).symm ((jup_o eg11 (by first | exact fun q => absurd q.1 (by decide) | exact fun q => absurd q.2 (by decide) | omega)).trans (jup_s eg6)) (jup_s eg11) (fun k => ((jup_o eg11 (by first | exact fun q => absurd q.1 (by decide) | exact fun q => absurd q.2 (by decide) | omega)).trans (jup_o eg6 (by first | exact fun q => absurd q.1 (by decide) | exact fun q => absurd q.2 (by decide) | omega))))) fg11 (by omega)
        · replace c1 : x2 < 40 := by first | exact c1 | exact Int.not_le.mp c1 | exact Int.not_lt.mp c1 | exact Decidable.not_not.mp c1
          refine st_gr jo_176 jr_176_52 ?_
          refine st_sb jo_221 (show 0 ≤ x2 by omega) (show x2 < ((40 : Nat) : Int) by omega) (fun hx => (jba_221 _ _).2 (show 0 ≤ 0 ∧ 0 ≤ 1 by omega)) (fun g13 eg13 => ?_)
          replace eg13 : g13 = jup g 221 x2 0 := eg13
          have fg13 : jfr w_X12_findMatch h g13 := jfr_up hf eg13 (by unfold w_X12_findMatch; omega)
          have e14 : g13 221 x2 = 0 := jup_s eg13
          have e15 : jw32 (x2 + 1) = x2 + 1 := jzj32 (by omega)
          show jGo E l 118 229 229 _ 2 [.inr (.inr (.inl 176)), .inl a1, .inl (jw32 (x2 + 1)), .inr (.inr (.inr ())), .inr (.inr (.inr ())), .inr (.inr (.inr ())), .inr (.inr (.inr ()))] [] 229 jr0 g13
          have hc16 : ∀ t : Int, 0 ≤ t → t < jw32 (x2 + 1) → g13 221 t = 0 := by
            intro t a b
            by_cases z : t = x2
            · rw [z, jup_s eg13]
            · rw [jup_o eg13 (by first | exact fun q => absurd q.1 (by decide) | exact fun q => absurd q.2 (by decide) | omega)]; exact hx0 t a (by omega)
          exact ih.1 (jw32 (x2 + 1)) g13 (by omega) (by exact hc16) fg13 (by omega)
      · intro x2 x3 x4 x5 x6 g hi hx0 hf hN
        refine jGo_ok (fun hls _ => ?_)
        have rx2 : -2147483648 ≤ x2 ∧ x2 ≤ 2147483647 := hls (.inl x2) (by simp)
        have rx3 : -2147483648 ≤ x3 ∧ x3 ≤ 2147483647 := hls (.inl x3) (by simp)
        refine jGo_blk qX12_findMatch_50 ?_
        refine And.intro (fun c17 => ?_) (fun c17 => ?_)
        · replace c17 : 6 ≤ x4 := c17
          show jGo E l 118 229 229 _ 235 [.inr (.inr (.inl 176)), .inl a1, .inl x2, .inl x3, .inl x4, x5, x6] [] 229 jr0 g
          refine jGo_blk qX12_findMatch_235 ?_
          exact ⟨rfl, rfl, hf, rfl, (by exact fun d op => (by have y9 := (hx0 d op).1; rw [show x4 = 6 by omega] at y9; exact y9))⟩
        · replace c17 : x4 < 6 := by first | exact c17 | exact Int.not_le.mp c17 | exact Int.not_lt.mp c17 | exact Decidable.not_not.mp c17
          refine st_gr jo_176 jr_176_53 ?_
          refine st_si jo_222 (show 0 ≤ x4 by omega) (show x4 < ((6 : Nat) : Int) by omega) (fun hx => (jba_222 _ _).2 (show -9 ≤ (-9) ∧ (-9) ≤ 39 by omega)) (fun g18 eg18 => ?_)
          replace eg18 : g18 = jup g 222 x4 (-9) := eg18
          have fg18 : jfr w_X12_findMatch h g18 := jfr_up hf eg18 (by unfold w_X12_findMatch; omega)
          have e19 : g18 222 x4 = (-9) := jup_s eg18
          show jGo E l 118 229 229 _ 69 [.inr (.inr (.inl 176)), .inl a1, .inl x2, .inl x3, .inl x4, .inl 0, x6] [] 229 jr0 g18
          exact ih.2.2 x2 x3 x4 0 x6 g18 (by omega) (by exact jQ_i hx0 eg18) fg18 (by omega)
      · intro x2 x3 x4 x5 x6 g hi hx0 hf hN
        refine jGo_ok (fun hls _ => ?_)
        have rx2 : -2147483648 ≤ x2 ∧ x2 ≤ 2147483647 := hls (.inl x2) (by simp)
        have rx3 : -2147483648 ≤ x3 ∧ x3 ≤ 2147483647 := hls (.inl x3) (by simp)
        have hz2 : g 176 34 = h 176 34 := hf 176 34 (by unfold w_X12_findMatch; omega)
        have hz3 : ∀ i k : Int, 205 ≤ i → i ≤ 214 → g i k = h i k := fun i k p1 p2 => hf i k (by unfold w_X12_findMatch; omega)
        have hz4 := hz3 210 a1 (by decide) (by decide)
        refine jGo_blk qX12_findMatch_69 ?_
        refine st_gi jo_176 (fun v20 ev20 b21 => ?_)
        replace ev20 : v20 = g 176 34 := ev20
        replace b21 := (jbf_12_34 jo_176 _).1 b21
        refine And.intro (fun c22 => ?_) (fun c22 => ?_)
        · replace c22 : v20 ≤ x5 := c22
          show jGo E l 118 229 229 _ 229 [.inr (.inr (.inl 176)), .inl a1, .inl x2, .inl x3, .inl x4, .inl x5, x6] [] 229 jr0 g
          refine jGo_blk qX12_findMatch_229 ?_
          have e23 : jw32 (x4 + 1) = x4 + 1 := jzj32 (by omega)
          show jGo E l 118 229 229 _ 50 [.inr (.inr (.inl 176)), .inl a1, .inl x2, .inl x3, .inl (jw32 (x4 + 1)), .inl x5, x6] [] 229 jr0 g
          exact ih.2.1 x2 x3 (jw32 (x4 + 1)) (.inl x5) x6 g (by omega) (by rw [show jw32 (x4 + 1) = x4 + 1 by omega]; exact jQ_e hx0 (by omega) (by omega) (by omega) (by omega) (by omega)) hf (by omega)
        · replace c22 : x5 < v20 := by first | exact c22 | exact Int.not_le.mp c22 | exact Int.not_lt.mp c22 | exact Decidable.not_not.mp c22
          refine st_gr jo_176 jr_176_40 ?_
          refine st_ai jo_210 (show 0 ≤ a1 by omega) (show a1 < ((3 : Nat) : Int) by omega) (fun v24 ev24 b25 => ?_)
          replace ev24 : v24 = g 210 a1 := ev24
          replace b25 := (jba_210 a1 _).1 b25
          refine And.intro (fun c26 => ?_) (fun c26 => ?_)
          · replace c26 : v24 ≤ x4 := c26
            show jGo E l 118 229 229 _ 229 [.inr (.inr (.inl 176)), .inl a1, .inl x2, .inl x3, .inl x4, .inl x5, x6] [] 229 jr0 g
            refine jGo_blk qX12_findMatch_229 ?_
            have e27 : jw32 (x4 + 1) = x4 + 1 := jzj32 (by omega)
            show jGo E l 118 229 229 _ 50 [.inr (.inr (.inl 176)), .inl a1, .inl x2, .inl x3, .inl (jw32 (x4 + 1)), .inl x5, x6] [] 229 jr0 g
            exact ih.2.1 x2 x3 (jw32 (x4 + 1)) (.inl x5) x6 g (by omega) (by rw [show jw32 (x4 + 1) = x4 + 1 by omega]; exact jQ_e hx0 (by omega) (by omega) (by omega) (by omega) (by omega)) hf (by omega)
          · replace c26 : x4 < v24 := by first | exact c26 | exact Int.not_le.mp c26 | exact Int.not_lt.mp c26 | exact Decidable.not_not.mp c26
            refine st_gr jo_176 jr_176_53 ?_
            refine st_ai jo_222 (show 0 ≤ x4 by omega) (show x4 < ((6 : Nat) : Int) by omega) (fun v28 ev28 b29 => ?_)
            replace ev28 : v28 = g 222 x4 := ev28
            replace b29 := (jba_222 x4 _).1 b29
            refine And.intro (fun c30 => ?_) (fun c30 => ?_)
            · replace c30 : 0 ≤ v28 := c30
              show jGo E l 118 229 229 _ 229 [.inr (.inr (.inl 176)), .inl a1, .inl x2, .inl x3, .inl x4, .inl x5, x6] [] 229 jr0 g
              refine jGo_blk qX12_findMatch_229 ?_
              have e31 : jw32 (x4 + 1) = x4 + 1 := jzj32 (by omega)
              show jGo E l 118 229 229 _ 50 [.inr (.inr (.inl 176)), .inl a1, .inl x2, .inl x3, .inl (jw32 (x4 + 1)), .inl x5, x6] [] 229 jr0 g
              exact ih.2.1 x2 x3 (jw32 (x4 + 1)) (.inl x5) x6 g (by omega) (by rw [show jw32 (x4 + 1) = x4 + 1 by omega]; exact jQ_e hx0 (by omega) (by omega) (by omega) (by omega) (by omega)) hf (by omega)
            · replace c30 : v28 < 0 := by first | exact c30 | exact Int.not_le.mp c30 | exact Int.not_lt.mp c30 | exact Decidable.not_not.mp c30
              refine st_gr jo_176 jr_176_52 ?_
              refine st_bi jo_221 (show 0 ≤ x5 by omega) (show x5 < ((40 : Nat) : Int) by omega) (fun v32 ev32 b33 => ?_)
              replace ev32 : v32 = g 221 x5 := ev32
              replace b33 := (jba_221 x5 _).1 b33
              refine And.intro (fun c34 => ?_) (fun c34 => ?_)
              · replace c34 : ¬ v32 = 0 := c34
                show jGo E l 118 229 229 _ 223 [.inr (.inr (.inl 176)), .inl a1, .inl x2, .inl x3, .inl x4, .inl x5, x6] [] 229 jr0 g
                refine jGo_blk qX12_findMatch_223 ?_
                have e35 : jw32 (x5 + 1) = x5 + 1 := jzj32 (by omega)
                show jGo E l 118 229 229 _ 69 [.inr (.inr (.inl 176)), .inl a1, .inl x2, .inl x3, .inl x4, .inl (jw32 (x5 + 1)), x6] [] 229 jr0 g
                exact ih.2.2 x2 x3 x4 (jw32 (x5 + 1)) x6 g (by omega) (by rw [show jw32 (x5 + 1) = x5 + 1 by omega]; exact jQ_n hx0 (by omega) (by omega) (by omega) (by omega) (by omega) (Or.inl (by omega))) hf (by omega)
              · replace c34 : v32 = 0 := by first | exact c34 | exact Int.not_le.mp c34 | exact Int.not_lt.mp c34 | exact Decidable.not_not.mp c34
                have e36 : jw32 (6 * a1) = 6 * a1 := jzj32 (by omega)
                have e37 : jw32 ((jw32 (6 * a1)) + x4) = (jw32 (6 * a1)) + x4 := jzj32 (by omega)
                refine st_cv (na := 2) (st := [.inl (jw32 ((jw32 (6 * a1)) + x4)), .inl x5, .inr (.inr (.inl 176))]) jo_176 rfl rfl rfl (c_X12_fits x5 (jw32 ((jw32 (6 * a1)) + x4)) g (by omega) (by omega)) rfl ?_
                rintro _ _ _ ⟨rfl, rfl, t38, rfl, ht38, zt38⟩ kt38
                replace kt38 : -2147483648 ≤ t38 ∧ t38 ≤ 2147483647 := kt38
                replace ht38 : 0 ≤ t38 ∧ t38 ≤ 1 := ht38
                replace zt38 : (t38 = 1 ∧ jmft g x5 (jw32 ((jw32 (6 * a1)) + x4))) ∨ (t38 = 0 ∧ ¬ jmft g x5 (jw32 ((jw32 (6 * a1)) + x4))) := zt38
                refine And.intro (fun c40 => ?_) (fun c40 => ?_)
                · replace c40 : t38 = 0 := c40
                  show jGo E l 118 229 229 _ 223 [.inr (.inr (.inl 176)), .inl a1, .inl x2, .inl x3, .inl x4, .inl x5, x6] [] 229 jr0 g
                  refine jGo_blk qX12_findMatch_223 ?_
                  have e41 : jw32 (x5 + 1) = x5 + 1 := jzj32 (by omega)
                  show jGo E l 118 229 229 _ 69 [.inr (.inr (.inl 176)), .inl a1, .inl x2, .inl x3, .inl x4, .inl (jw32 (x5 + 1)), x6] [] 229 jr0 g
                  have hc42 : (t38 = 1 ∧ jmft h x5 (6 * a1 + x4)) ∨ (t38 = 0 ∧ ¬ jmft h x5 (6 * a1 + x4)) := by
                    have q9 := jmft_c (t := x5) (k' := jw32 ((jw32 (6 * a1)) + x4)) (k := 6 * a1 + x4) hz3 (by omega)
                    rcases zt38 with k | k
                    · exact Or.inl ⟨k.1, q9.1 k.2⟩
                    · exact Or.inr ⟨k.1, fun w => k.2 (q9.2 w)⟩
                  exact ih.2.2 x2 x3 x4 (jw32 (x5 + 1)) x6 g (by omega) (by rw [show jw32 (x5 + 1) = x5 + 1 by omega]; exact jQ_n hx0 (by omega) (by omega) (by omega) (by omega) (by omega) (Or.inr (by rcases hc42 with k | k; omega; exact k.2))) hf (by omega)
                · replace c40 : ¬ t38 = 0 := by first | exact c40 | exact Int.not_le.mp c40 | exact Int.not_lt.mp c40 | exact Decidable.not_not.mp c40
                  refine st_gr jo_176 jr_176_37 ?_
                  refine st_ai jo_207 (show 0 ≤ x5 by omega) (show x5 < ((40 : Nat) : Int) by omega) (fun v43 ev43 b44 => ?_)
                  replace ev43 : v43 = g 207 x5 := ev43
                  replace b44 := (jba_207 x5 _).1 b44
                  refine st_gr jo_176 jr_176_44 ?_
                  have e45 : jw32 (6 * a1) = 6 * a1 := jzj32 (by omega)
                  have e46 : jw32 ((jw32 (6 * a1)) + x4) = (jw32 (6 * a1)) + x4 := jzj32 (by omega)
                  refine st_ai jo_214 (show 0 ≤ jw32 ((jw32 (6 * a1)) + x4) by omega) (show jw32 ((jw32 (6 * a1)) + x4) < ((18 : Nat) : Int) by omega) (fun v47 ev47 b48 => ?_)
                  replace ev47 : v47 = g 214 (jw32 ((jw32 (6 * a1)) + x4)) := ev47
                  replace b48 := (jba_214 (jw32 ((jw32 (6 * a1)) + x4)) _).1 b48
                  have hc49 : (t38 = 1 ∧ jmft h x5 (6 * a1 + x4)) ∨ (t38 = 0 ∧ ¬ jmft h x5 (6 * a1 + x4)) := by
                    have q9 := jmft_c (t := x5) (k' := jw32 ((jw32 (6 * a1)) + x4)) (k := 6 * a1 + x4) hz3 (by omega)
                    rcases zt38 with k | k
                    · exact Or.inl ⟨k.1, q9.1 k.2⟩
                    · exact Or.inr ⟨k.1, fun w => k.2 (q9.2 w)⟩
                  have hc50 : jmft h x5 (6 * a1 + x4) := by rcases hc49 with k | k; exact k.2; omega
                  have eo51 : jw32 (v43 - v47) = h 207 x5 - h 214 (6 * a1 + x4) := by
                    have y7 := q0 x5 (by omega) (by omega); have y8 := hB (6 * a1 + x4); have y5 := hc50.2.2.2.2
                    rw [ev43, ev47, hz3 207 _ (by decide) (by decide), hz3 214 _ (by decide) (by decide), show (jw32 ((jw32 (6 * a1)) + x4)) = 6 * a1 + x4 by omega]; exact jzj32 (by omega)
                  refine st_gr jo_176 jr_176_52 ?_
                  refine st_sb jo_221 (show 0 ≤ x5 by omega) (show x5 < ((40 : Nat) : Int) by omega) (fun hx => (jba_221 _ _).2 (show 0 ≤ 1 ∧ 1 ≤ 1 by omega)) (fun g52 eg52 => ?_)
                  replace eg52 : g52 = jup g 221 x5 1 := eg52
                  have fg52 : jfr w_X12_findMatch h g52 := jfr_up hf eg52 (by unfold w_X12_findMatch; omega)
                  have e53 : g52 221 x5 = 1 := jup_s eg52
                  have e54 : jw32 (x4 + 1) = x4 + 1 := jzj32 (by omega)
                  refine st_cv (na := 2) (st := [.inl (jw32 (x4 + 1)), .inl a1, .inr (.inr (.inl 176))]) jo_176 rfl rfl rfl (c_X12_solve a1 (jw32 (x4 + 1)) g52 (by omega) (by omega) (fun t a b => by rw [show g52 207 t = h 207 t from fg52 207 t (by unfold w_X12_findMatch; omega)]; exact q0 t a b)) rfl ?_
                  rintro _ _ g56 ⟨rfl, ft55, rfl, zt55⟩ kt55
                  have fg56 : jfr w_X12_findMatch h g56 := jfr_tr fg52 ft55 ws_X12_solve__X12_findMatch
                  replace zt55 : jMsP a1 (jw32 (x4 + 1)) g52 g56 := zt55
                  refine st_gi jo_176 (fun v57 ev57 b58 => ?_)
                  replace ev57 : v57 = g56 176 55 := ev57
                  replace b58 := (jbf_12_55 jo_176 _).1 b58
                  refine st_gi jo_176 (fun v59 ev59 b60 => ?_)
                  replace ev59 : v59 = g56 176 57 := ev59
                  replace b60 := (jbf_12_57 jo_176 _).1 b60
                  have e61 : g56 176 57 = g52 176 57 := ft55 176 57 (by unfold w_X12_solve; omega)
                  have e62 : g52 176 57 = g 176 57 := jup_o eg52 (by first | exact fun q => absurd q.1 (by decide) | exact fun q => absurd q.2 (by decide) | omega)
                  refine And.intro (fun c63 => ?_) (fun c63 => ?_)
                  · replace c63 : ¬ jw32 ((jw32 (x2 + 1)) + v57) = v59 := c63
                    show jGo E l 118 229 229 _ 215 [.inr (.inr (.inl 176)), .inl a1, .inl x2, .inl x3, .inl x4, .inl x5, .inl (jw32 (v43 - v47))] [] 229 jr0 g56
                    refine jGo_blk qX12_findMatch_215 ?_
                    refine st_gr jo_176 jr_176_52 ?_
                    refine st_sb jo_221 (show 0 ≤ x5 by omega) (show x5 < ((40 : Nat) : Int) by omega) (fun hx => (jba_221 _ _).2 (show 0 ≤ 0 ∧ 0 ≤ 1 by omega)) (fun g64 eg64 => ?_)
                    replace eg64 : g64 = jup g56 221 x5 0 := eg64
                    have fg64 : jfr w_X12_findMatch h g64 := jfr_up fg56 eg64 (by unfold w_X12_findMatch; omega)
                    have e65 : g64 221 x5 = 0 := jup_s eg64
                    show jGo E l 118 229 229 _ 223 [.inr (.inr (.inl 176)), .inl a1, .inl x2, .inl x3, .inl x4, .inl x5, .inl (jw32 (v43 - v47))] [] 229 jr0 g64
                    refine jGo_blk qX12_findMatch_223 ?_
                    have e66 : jw32 (x5 + 1) = x5 + 1 := jzj32 (by omega)
                    show jGo E l 118 229 229 _ 69 [.inr (.inr (.inl 176)), .inl a1, .inl x2, .inl x3, .inl x4, .inl (jw32 (x5 + 1)), .inl (jw32 (v43 - v47))] [] 229 jr0 g64
                    have k67 := jQ_t (o := jw32 (v43 - v47)) q0 hB (by omega) hx0 (by omega) (by omega) (by omega) (by omega) (by omega) (by omega) (by omega) hc50 eg52 ⟨fun i k p1 p2 => fg52 i k (by unfold w_X12_findMatch; omega), fg52 176 34 (by unfold w_X12_findMatch; omega)⟩ (by have y9 := zt55; rw [show jw32 (x4 + 1) = x4 + 1 by omega] at y9; exact y9) rfl rfl eo51
                    have R68 : ∀ d : Nat → Nat, jOp (jmB h a1) (jmOv h a1) (h 176 34).toNat d → jQ0 h a1 x4 d g ∧ x5 + 1 ≤ (d x4.toNat : Int) ∧ jUs d x4 g ∧ jQs h a1 x4 x2 x3 d ∧ g 222 x4 = -9 := by
                      intro d op
                      obtain ⟨k1, k2, k3, k4, k5, k6, k7, k8⟩ := k67 d op
                      have w1 := ((ft55 176 57 (by unfold w_X12_solve; omega)).trans (jup_o eg52 (by first | exact fun q => absurd q.1 (by decide) | exact fun q => absurd q.2 (by decide) | omega)))
                      have w2 := ((ft55 176 58 (by unfold w_X12_solve; omega)).trans (jup_o eg52 (by first | exact fun q => absurd q.1 (by decide) | exact fun q => absurd q.2 (by decide) | omega)))
                      have j1 : jw32 (x2 + 1) = x2 + 1 := jzj32 (by omega)
                      have j2 : jw32 ((jw32 (x2 + 1)) + v57) = x2 + 1 + v57 := by rw [j1]; exact jzj32 (by omega)
                      have j3 : jw32 (x3 + (jw32 (v43 - v47))) = x3 + (jw32 (v43 - v47)) := jzj32 (by omega)
                      exact ⟨k1, by have y9 := k7 (fun q => by omega); omega, k3, k4, k8⟩
                    have e69 : ∀ q : Int, g64 221 q = g 221 q := by
                      intro q
                      by_cases z : q = x5
                      · rw [z, jup_s eg64]; omega
                      · exact ((jup_o eg64 (by first | exact fun q => absurd q.1 (by decide) | exact fun q => absurd q.2 (by decide) | omega)).trans ((ft55 221 q (by unfold w_X12_solve; omega)).trans (jup_o eg52 (by first | exact fun q => absurd q.1 (by decide) | exact fun q => absurd q.2 (by decide) | omega))))
                    exact ih.2.2 x2 x3 x4 (jw32 (x5 + 1)) (.inl (jw32 (v43 - v47))) g64 (by omega) (by rw [show jw32 (x5 + 1) = x5 + 1 by omega]; exact jQ_f R68 ((jup_o eg64 (by first | exact fun q => absurd q.1 (by decide) | exact fun q => absurd q.2 (by decide) | omega)).trans ((ft55 176 57 (by unfold w_X12_solve; omega)).trans (jup_o eg52 (by first | exact fun q => absurd q.1 (by decide) | exact fun q => absurd q.2 (by decide) | omega)))) ((jup_o eg64 (by first | exact fun q => absurd q.1 (by decide) | exact fun q => absurd q.2 (by decide) | omega)).trans ((ft55 176 58 (by unfold w_X12_solve; omega)).trans (jup_o eg52 (by first | exact fun q => absurd q.1 (by decide) | exact fun q => absurd q.2 (by decide) | omega)))) (fun q => ((jup_o eg64 (by first | exact fun q => absurd q.1 (by decide) | exact fun q => absurd q.2 (by decide) | omega)).trans ((ft55 222 q (by unfold w_X12_solve; omega)).trans (jup_o eg52 (by first | exact fun q => absurd q.1 (by decide) | exact fun q => absurd q.2 (by decide) | omega))))) e69) fg64 (by omega)
                  · replace c63 : jw32 ((jw32 (x2 + 1)) + v57) = v59 := by first | exact c63 | exact Int.not_le.mp c63 | exact Int.not_lt.mp c63 | exact Decidable.not_not.mp c63
                    refine st_gi jo_176 (fun v70 ev70 b71 => ?_)
                    replace ev70 : v70 = g56 176 56 := ev70
                    replace b71 := (jbf_12_56 jo_176 _).1 b71
                    refine st_gi jo_176 (fun v72 ev72 b73 => ?_)
                    replace ev72 : v72 = g56 176 58 := ev72
                    replace b73 := (jbf_12_58 jo_176 _).1 b73
                    have e74 : g56 176 58 = g52 176 58 := ft55 176 58 (by unfold w_X12_solve; omega)
                    have e75 : g52 176 58 = g 176 58 := jup_o eg52 (by first | exact fun q => absurd q.1 (by decide) | exact fun q => absurd q.2 (by decide) | omega)
                    refine And.intro (fun c76 => ?_) (fun c76 => ?_)
                    · replace c76 : ¬ jw32 ((jw32 (x3 + (jw32 (v43 - v47)))) + v70) = v72 := c76
                      show jGo E l 118 229 229 _ 215 [.inr (.inr (.inl 176)), .inl a1, .inl x2, .inl x3, .inl x4, .inl x5, .inl (jw32 (v43 - v47))] [] 229 jr0 g56
                      refine jGo_blk qX12_findMatch_215 ?_
                      refine st_gr jo_176 jr_176_52 ?_
                      refine st_sb jo_221 (show 0 ≤ x5 by omega) (show x5 < ((40 : Nat) : Int) by omega) (fun hx => (jba_221 _ _).2 (show 0 ≤ 0 ∧ 0 ≤ 1 by omega)) (fun g77 eg77 => ?_)
                      replace eg77 : g77 = jup g56 221 x5 0 := eg77
                      have fg77 : jfr w_X12_findMatch h g77 := jfr_up fg56 eg77 (by unfold w_X12_findMatch; omega)
                      have e78 : g77 221 x5 = 0 := jup_s eg77
                      show jGo E l 118 229 229 _ 223 [.inr (.inr (.inl 176)), .inl a1, .inl x2, .inl x3, .inl x4, .inl x5, .inl (jw32 (v43 - v47))] [] 229 jr0 g77
                      refine jGo_blk qX12_findMatch_223 ?_
                      have e79 : jw32 (x5 + 1) = x5 + 1 := jzj32 (by omega)
                      show jGo E l 118 229 229 _ 69 [.inr (.inr (.inl 176)), .inl a1, .inl x2, .inl x3, .inl x4, .inl (jw32 (x5 + 1)), .inl (jw32 (v43 - v47))] [] 229 jr0 g77
                      have k80 := jQ_t (o := jw32 (v43 - v47)) q0 hB (by omega) hx0 (by omega) (by omega) (by omega) (by omega) (by omega) (by omega) (by omega) hc50 eg52 ⟨fun i k p1 p2 => fg52 i k (by unfold w_X12_findMatch; omega), fg52 176 34 (by unfold w_X12_findMatch; omega)⟩ (by have y9 := zt55; rw [show jw32 (x4 + 1) = x4 + 1 by omega] at y9; exact y9) rfl rfl eo51
                      have R81 : ∀ d : Nat → Nat, jOp (jmB h a1) (jmOv h a1) (h 176 34).toNat d → jQ0 h a1 x4 d g ∧ x5 + 1 ≤ (d x4.toNat : Int) ∧ jUs d x4 g ∧ jQs h a1 x4 x2 x3 d ∧ g 222 x4 = -9 := by
                        intro d op
                        obtain ⟨k1, k2, k3, k4, k5, k6, k7, k8⟩ := k80 d op
                        have w1 := ((ft55 176 57 (by unfold w_X12_solve; omega)).trans (jup_o eg52 (by first | exact fun q => absurd q.1 (by decide) | exact fun q => absurd q.2 (by decide) | omega)))
                        have w2 := ((ft55 176 58 (by unfold w_X12_solve; omega)).trans (jup_o eg52 (by first | exact fun q => absurd q.1 (by decide) | exact fun q => absurd q.2 (by decide) | omega)))
                        have j1 : jw32 (x2 + 1) = x2 + 1 := jzj32 (by omega)
                        have j2 : jw32 ((jw32 (x2 + 1)) + v57) = x2 + 1 + v57 := by rw [j1]; exact jzj32 (by omega)
                        have j3 : jw32 (x3 + (jw32 (v43 - v47))) = x3 + (jw32 (v43 - v47)) := jzj32 (by omega)
                        have j4 : jw32 ((jw32 (x3 + (jw32 (v43 - v47)))) + v70) = x3 + (jw32 (v43 - v47)) + v70 := by rw [j3]; exact jzj32 (by omega)
                        exact ⟨k1, by have y9 := k7 (fun q => by omega); omega, k3, k4, k8⟩
                      have e82 : ∀ q : Int, g77 221 q = g 221 q := by
                        intro q
                        by_cases z : q = x5
                        · rw [z, jup_s eg77]; omega
                        · exact ((jup_o eg77 (by first | exact fun q => absurd q.1 (by decide) | exact fun q => absurd q.2 (by decide) | omega)).trans ((ft55 221 q (by unfold w_X12_solve; omega)).trans (jup_o eg52 (by first | exact fun q => absurd q.1 (by decide) | exact fun q => absurd q.2 (by decide) | omega))))
                      exact ih.2.2 x2 x3 x4 (jw32 (x5 + 1)) (.inl (jw32 (v43 - v47))) g77 (by omega) (by rw [show jw32 (x5 + 1) = x5 + 1 by omega]; exact jQ_f R81 ((jup_o eg77 (by first | exact fun q => absurd q.1 (by decide) | exact fun q => absurd q.2 (by decide) | omega)).trans ((ft55 176 57 (by unfold w_X12_solve; omega)).trans (jup_o eg52 (by first | exact fun q => absurd q.1 (by decide) | exact fun q => absurd q.2 (by decide) | omega)))) ((jup_o eg77 (by first | exact fun q => absurd q.1 (by decide) | exact fun q => absurd q.2 (by decide) | omega)).trans ((ft55 176 58 (by unfold w_X12_solve; omega)).trans (jup_o eg52 (by first | exact fun q => absurd q.1 (by decide) | exact fun q => absurd q.2 (by decide) | omega)))) (fun q => ((jup_o eg77 (by first | exact fun q => absurd q.1 (by decide) | exact fun q => absurd q.2 (by decide) | omega)).trans ((ft55 222 q (by unfold w_X12_solve; omega)).trans (jup_o eg52 (by first | exact fun q => absurd q.1 (by decide) | exact fun q => absurd q.2 (by decide) | omega))))) e82) fg77 (by omega)
                    · replace c76 : jw32 ((jw32 (x3 + (jw32 (v43 - v47)))) + v70) = v72 := by first | exact c76 | exact Int.not_le.mp c76 | exact Int.not_lt.mp c76 | exact Decidable.not_not.mp c76
                      refine st_gr jo_176 jr_176_53 ?_
                      refine st_si jo_222 (show 0 ≤ x4 by omega) (show x4 < ((6 : Nat) : Int) by omega) (fun hx => (jba_222 _ _).2 (show -9 ≤ x5 ∧ x5 ≤ 39 by omega)) (fun g83 eg83 => ?_)
                      replace eg83 : g83 = jup g56 222 x4 x5 := eg83
                      have fg83 : jfr w_X12_findMatch h g83 := jfr_up fg56 eg83 (by unfold w_X12_findMatch; omega)
                      have e84 : g83 222 x4 = x5 := jup_s eg83
                      show jGo E l 118 229 229 _ 223 [.inr (.inr (.inl 176)), .inl a1, .inl (jw32 (x2 + 1)), .inl (jw32 (x3 + (jw32 (v43 - v47)))), .inl x4, .inl x5, .inl (jw32 (v43 - v47))] [] 229 jr0 g83
                      refine jGo_blk qX12_findMatch_223 ?_
                      have e85 : jw32 (x5 + 1) = x5 + 1 := jzj32 (by omega)
                      show jGo E l 118 229 229 _ 69 [.inr (.inr (.inl 176)), .inl a1, .inl (jw32 (x2 + 1)), .inl (jw32 (x3 + (jw32 (v43 - v47)))), .inl x4, .inl (jw32 (x5 + 1)), .inl (jw32 (v43 - v47))] [] 229 jr0 g83
                      have k86 := jQ_t (o := jw32 (v43 - v47)) q0 hB (by omega) hx0 (by omega) (by omega) (by omega) (by omega) (by omega) (by omega) (by omega) hc50 eg52 ⟨fun i k p1 p2 => fg52 i k (by unfold w_X12_findMatch; omega), fg52 176 34 (by unfold w_X12_findMatch; omega)⟩ (by have y9 := zt55; rw [show jw32 (x4 + 1) = x4 + 1 by omega] at y9; exact y9) rfl rfl eo51
                      have R87 : ∀ d : Nat → Nat, jOp (jmB h a1) (jmOv h a1) (h 176 34).toNat d → jQ0 h a1 x4 d g ∧ jUs d x4 g ∧ jQs h a1 x4 x2 x3 d ∧ (d x4.toNat : Int) = x5 ∧ jw32 (x2 + 1) = x2 + 1 ∧ jw32 (x3 + (jw32 (v43 - v47))) = x3 + (jw32 (v43 - v47)) := by
                        intro d op
                        obtain ⟨k1, k2, k3, k4, k5, k6, k7, k8⟩ := k86 d op
                        have w1 := ((ft55 176 57 (by unfold w_X12_solve; omega)).trans (jup_o eg52 (by first | exact fun q => absurd q.1 (by decide) | exact fun q => absurd q.2 (by decide) | omega)))
                        have w2 := ((ft55 176 58 (by unfold w_X12_solve; omega)).trans (jup_o eg52 (by first | exact fun q => absurd q.1 (by decide) | exact fun q => absurd q.2 (by decide) | omega)))
                        have j1 : jw32 (x2 + 1) = x2 + 1 := jzj32 (by omega)
                        have j2 : jw32 ((jw32 (x2 + 1)) + v57) = x2 + 1 + v57 := by rw [j1]; exact jzj32 (by omega)
                        have j3 : jw32 (x3 + (jw32 (v43 - v47))) = x3 + (jw32 (v43 - v47)) := jzj32 (by omega)
                        have j4 : jw32 ((jw32 (x3 + (jw32 (v43 - v47)))) + v70) = x3 + (jw32 (v43 - v47)) + v70 := by rw [j3]; exact jzj32 (by omega)
                        exact ⟨k1, k3, k4, k6 ⟨by omega, by omega⟩, j1, j3⟩
                      exact ih.2.2 (jw32 (x2 + 1)) (jw32 (x3 + (jw32 (v43 - v47)))) x4 (jw32 (x5 + 1)) (.inl (jw32 (v43 - v47))) g83 (by omega) (by rw [show jw32 (x5 + 1) = x5 + 1 by omega]; exact jQ_y (o := jw32 (v43 - v47)) (by omega) (by omega) (by omega) (by omega) R87 eo51 ((jup_o eg83 (by first | exact fun q => absurd q.1 (by decide) | exact fun q => absurd q.2 (by decide) | omega)).trans ((ft55 176 57 (by unfold w_X12_solve; omega)).trans (jup_o eg52 (by first | exact fun q => absurd q.1 (by decide) | exact fun q => absurd q.2 (by decide) | omega)))) ((jup_o eg83 (by first | exact fun q => absurd q.1 (by decide) | exact fun q => absurd q.2 (by decide) | omega)).trans ((ft55 176 58 (by unfold w_X12_solve; omega)).trans (jup_o eg52 (by first | exact fun q => absurd q.1 (by decide) | exact fun q => absurd q.2 (by decide) | omega)))) (fun q z => ((jup_o eg83 (by first | exact fun q => absurd q.1 (by decide) | exact fun q => absurd q.2 (by decide) | omega)).trans ((ft55 222 q (by unfold w_X12_solve; omega)).trans (jup_o eg52 (by first | exact fun q => absurd q.1 (by decide) | exact fun q => absurd q.2 (by decide) | omega))))) (jup_s eg83) (fun q z => ((jup_o eg83 (by first | exact fun q => absurd q.1 (by decide) | exact fun q => absurd q.2 (by decide) | omega)).trans ((ft55 221 q (by unfold w_X12_solve; omega)).trans (jup_o eg52 (by first | exact fun q => absurd q.1 (by decide) | exact fun q => absurd q.2 (by decide) | omega))))) ((((jup_o eg83 (by first | exact fun q => absurd q.1 (by decide) | exact fun q => absurd q.2 (by decide) | omega)).trans (ft55 221 x5 (by unfold w_X12_solve; omega)))).trans (jup_s eg52))) fg83 (by omega)
  refine jGo_blk qX12_findMatch_0 ?_
  show jGo E l 118 229 229 _ 2 [.inr (.inr (.inl 176)), .inl a1, .inl 0, .inr (.inr (.inr ())), .inr (.inr (.inr ())), .inr (.inr (.inr ())), .inr (.inr (.inr ()))] [] 229 jr0 h
  exact (key 1000000000000000000).1 0 h (by omega) (by exact fun t a b => absurd b (by omega)) f0 (by omega)
