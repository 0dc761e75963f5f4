def w_X12_findMatch (i k : Int) : Prop := (221 ≤ i ∧ i ≤ 223) ∨ (i = 176 ∧ 55 ≤ k ∧ k ≤ 58)
def k_X12_findMatch (a1 : Int) (h : JH) (v : Option JV) (r' g : JH) : Prop := r' = jr0 ∧ jfr w_X12_findMatch h g ∧ v = none ∧ (True)
set_option maxHeartbeats 4000000 in
theorem c_X12_findMatch {E : JE} {l : Launch} (a1 : Int) (h : JH) (p1 : 0 ≤ a1 ∧ a1 ≤ 2) : jMt E l 118 [.inr (.inr (.inl 176)), .inl a1] 229 jr0 h (k_X12_findMatch a1 h) := by
  refine jMt0 (nL := 7) (ls := [.inr (.inr (.inl 176)), .inl a1, .inr (.inr (.inr ())), .inr (.inr (.inr ())), .inr (.inr (.inr ())), .inr (.inr (.inr ())), .inr (.inr (.inr ()))]) (by decide +kernel) (by decide +kernel) (by decide +kernel) rfl rfl ?_
  have f0 : jfr w_X12_findMatch h h := jfr_rf _ _
  have key : ∀ N : Nat, (∀ (x2 : Int) (g : JH), (0 ≤ x2 ∧ x2 ≤ 40) → jfr w_X12_findMatch h g → ((40 - x2) + 20000) * 1000000 + 999999 < (N : Int) → jGo E l 118 229 229 (jRK (k_X12_findMatch a1 h)) 2 [.inr (.inr (.inl 176)), .inl a1, .inl x2, .inr (.inr (.inr ())), .inr (.inr (.inr ())), .inr (.inr (.inr ())), .inr (.inr (.inr ()))] [] 229 jr0 g) ∧
      (∀ (x2 : Int) (x3 : Int) (x4 : Int) (x5 : JV) (x6 : JV) (g : JH), (0 ≤ x4 ∧ x4 ≤ 6) → jfr w_X12_findMatch h g → (6 - x4) * 1000000 + 999999 < (N : Int) → jGo E l 118 229 229 (jRK (k_X12_findMatch a1 h)) 50 [.inr (.inr (.inl 176)), .inl a1, .inl x2, .inl x3, .inl x4, x5, x6] [] 229 jr0 g) ∧
      (∀ (x2 : Int) (x3 : Int) (x4 : Int) (x5 : Int) (x6 : JV) (g : JH), (0 ≤ x4 ∧ x4 ≤ 5 ∧ 0 ≤ x5 ∧ x5 ≤ 40) → jfr w_X12_findMatch h g → (6 - x4) * 1000000 + (40 - x5) < (N : Int) → jGo E l 118 229 229 (jRK (k_X12_findMatch a1 h)) 69 [.inr (.inr (.inl 176)), .inl a1, .inl x2, .inl x3, .inl x4, .inl x5, x6] [] 229 jr0 g) := by
    intro N
    induction N with
    | zero => exact ⟨fun _ _ hi _ hN => absurd hN (by omega), fun _ _ _ _ _ _ hi _ hN => absurd hN (by omega), fun _ _ _ _ _ _ hi _ hN => absurd hN (by omega)⟩
    | succ N ih =>
      refine ⟨?_, ?_, ?_⟩
      · intro x2 g hi hf hN
        refine jGo_blk qX12_findMatch_2 ?_
        refine And.intro (fun c1 => ?_) (fun c1 => ?_)
        · replace c1 : 40 ≤ x2 := c1
          show jGo E l 118 229 229 _ 21 [.inr (.inr (.inl 176)), .inl a1, .inl x2, .inr (.inr (.inr ())), .inr (.inr (.inr ())), .inr (.inr (.inr ())), .inr (.inr (.inr ()))] [] 229 jr0 g
          refine jGo_blk qX12_findMatch_21 ?_
          refine st_cv (na := 2) (st := [.inl 0, .inl a1, .inr (.inr (.inl 176))]) jo_176 rfl rfl rfl (c_X12_solve a1 0 g (by omega) (by omega)) rfl ?_
          rintro _ _ g3 ⟨rfl, ft2, rfl, zt2⟩ kt2
          have fg3 : jfr w_X12_findMatch h g3 := jfr_tr hf ft2 (fun i k q => by unfold w_X12_solve at q; unfold w_X12_findMatch; omega)
          refine st_gi jo_176 (fun v4 ev4 b5 => ?_)
          replace ev4 : v4 = g3 176 55 := ev4
          replace b5 := (jbf_12_55 jo_176 _).1 b5
          refine st_pi jo_176 (fun hx => (jbf_12_57 jo_176 _).2 hx) (fun g6 eg6 => ?_)
          replace eg6 : g6 = jup g3 176 57 v4 := eg6
          have fg6 : jfr w_X12_findMatch h g6 := jfr_up fg3 eg6 (by unfold w_X12_findMatch; omega)
          have e7 : g6 176 57 = v4 := jup_s eg6
          refine st_gi jo_176 (fun v8 ev8 b9 => ?_)
          replace ev8 : v8 = g6 176 56 := ev8
          replace b9 := (jbf_12_56 jo_176 _).1 b9
          have e10 : g6 176 56 = g3 176 56 := jup_o eg6 (by omega)
          refine st_pi jo_176 (fun hx => (jbf_12_58 jo_176 _).2 hx) (fun g11 eg11 => ?_)
          replace eg11 : g11 = jup g6 176 58 v8 := eg11
          have fg11 : jfr w_X12_findMatch h g11 := jfr_up fg6 eg11 (by unfold w_X12_findMatch; omega)
          have e12 : g11 176 58 = v8 := jup_s eg11
          show jGo E l 118 229 229 _ 50 [.inr (.inr (.inl 176)), .inl a1, .inl 0, .inl 0, .inl 0, .inr (.inr (.inr ())), .inr (.inr (.inr ()))] [] 229 jr0 g11
          exact ih.2.1 0 0 0 (.inr (.inr (.inr ()))) (.inr (.inr (.inr ()))) g11 (by omega) fg11 (by omega)
        · replace c1 : x2 < 40 := by first | exact c1 | exact Int.not_le.mp c1 | exact Int.not_lt.mp c1 | exact Decidable.not_not.mp c1
          refine st_gr jo_176 jr_176_52 ?_
          refine st_sb jo_221 (show 0 ≤ x2 by omega) (show x2 < ((40 : Nat) : Int) by omega) (fun hx => (jba_221 _ _).2 (show 0 ≤ 0 ∧ 0 ≤ 1 by omega)) (fun g13 eg13 => ?_)
          replace eg13 : g13 = jup g 221 x2 0 := eg13
          have fg13 : jfr w_X12_findMatch h g13 := jfr_up hf eg13 (by unfold w_X12_findMatch; omega)
          have e14 : g13 221 x2 = 0 := jup_s eg13
          have e15 : jw32 (x2 + 1) = x2 + 1 := j32e (by omega) (by omega)
          show jGo E l 118 229 229 _ 2 [.inr (.inr (.inl 176)), .inl a1, .inl (jw32 (x2 + 1)), .inr (.inr (.inr ())), .inr (.inr (.inr ())), .inr (.inr (.inr ())), .inr (.inr (.inr ()))] [] 229 jr0 g13
          exact ih.1 (jw32 (x2 + 1)) g13 (by omega) fg13 (by omega)
      · intro x2 x3 x4 x5 x6 g hi hf hN
        refine jGo_ok (fun hls _ => ?_)
        have rx2 : -2147483648 ≤ x2 ∧ x2 ≤ 2147483647 := hls (.inl x2) (by simp)
        have rx3 : -2147483648 ≤ x3 ∧ x3 ≤ 2147483647 := hls (.inl x3) (by simp)
        refine jGo_blk qX12_findMatch_50 ?_
        refine And.intro (fun c16 => ?_) (fun c16 => ?_)
        · replace c16 : 6 ≤ x4 := c16
          show jGo E l 118 229 229 _ 235 [.inr (.inr (.inl 176)), .inl a1, .inl x2, .inl x3, .inl x4, x5, x6] [] 229 jr0 g
          refine jGo_blk qX12_findMatch_235 ?_
          exact ⟨rfl, rfl, hf, rfl, trivial⟩
        · replace c16 : x4 < 6 := by first | exact c16 | exact Int.not_le.mp c16 | exact Int.not_lt.mp c16 | exact Decidable.not_not.mp c16
          refine st_gr jo_176 jr_176_53 ?_
          refine st_si jo_222 (show 0 ≤ x4 by omega) (show x4 < ((6 : Nat) : Int) by omega) (fun hx => (jba_222 _ _).2 (show -9 ≤ (-9) ∧ (-9) ≤ 39 by omega)) (fun g17 eg17 => ?_)
          replace eg17 : g17 = jup g 222 x4 (-9) := eg17
          have fg17 : jfr w_X12_findMatch h g17 := jfr_up hf eg17 (by unfold w_X12_findMatch; omega)
          have e18 : g17 222 x4 = (-9) := jup_s eg17
          show jGo E l 118 229 229 _ 69 [.inr (.inr (.inl 176)), .inl a1, .inl x2, .inl x3, .inl x4, .inl 0, x6] [] 229 jr0 g17
          exact ih.2.2 x2 x3 x4 0 x6 g17 (by omega) fg17 (by omega)
      · intro x2 x3 x4 x5 x6 g hi hf hN
        refine jGo_ok (fun hls _ => ?_)
        have rx2 : -2147483648 ≤ x2 ∧ x2 ≤ 2147483647 := hls (.inl x2) (by simp)
        have rx3 : -2147483648 ≤ x3 ∧ x3 ≤ 2147483647 := hls (.inl x3) (by simp)
        refine jGo_blk qX12_findMatch_69 ?_
        refine st_gi jo_176 (fun v19 ev19 b20 => ?_)
        replace ev19 : v19 = g 176 34 := ev19
        replace b20 := (jbf_12_34 jo_176 _).1 b20
        refine And.intro (fun c21 => ?_) (fun c21 => ?_)
        · replace c21 : v19 ≤ x5 := c21
          show jGo E l 118 229 229 _ 229 [.inr (.inr (.inl 176)), .inl a1, .inl x2, .inl x3, .inl x4, .inl x5, x6] [] 229 jr0 g
          refine jGo_blk qX12_findMatch_229 ?_
          have e22 : jw32 (x4 + 1) = x4 + 1 := j32e (by omega) (by omega)
          show jGo E l 118 229 229 _ 50 [.inr (.inr (.inl 176)), .inl a1, .inl x2, .inl x3, .inl (jw32 (x4 + 1)), .inl x5, x6] [] 229 jr0 g
          exact ih.2.1 x2 x3 (jw32 (x4 + 1)) (.inl x5) x6 g (by omega) hf (by omega)
        · replace c21 : x5 < v19 := by first | exact c21 | exact Int.not_le.mp c21 | exact Int.not_lt.mp c21 | exact Decidable.not_not.mp c21
          refine st_gr jo_176 jr_176_40 ?_
          refine st_ai jo_210 (show 0 ≤ a1 by omega) (show a1 < ((3 : Nat) : Int) by omega) (fun v23 ev23 b24 => ?_)
          replace ev23 : v23 = g 210 a1 := ev23
          replace b24 := (jba_210 a1 _).1 b24
          refine And.intro (fun c25 => ?_) (fun c25 => ?_)
          · replace c25 : v23 ≤ x4 := c25
            show jGo E l 118 229 229 _ 229 [.inr (.inr (.inl 176)), .inl a1, .inl x2, .inl x3, .inl x4, .inl x5, x6] [] 229 jr0 g
            refine jGo_blk qX12_findMatch_229 ?_
            have e26 : jw32 (x4 + 1) = x4 + 1 := j32e (by omega) (by omega)
            show jGo E l 118 229 229 _ 50 [.inr (.inr (.inl 176)), .inl a1, .inl x2, .inl x3, .inl (jw32 (x4 + 1)), .inl x5, x6] [] 229 jr0 g
            exact ih.2.1 x2 x3 (jw32 (x4 + 1)) (.inl x5) x6 g (by omega) hf (by omega)
          · replace c25 : x4 < v23 := by first | exact c25 | exact Int.not_le.mp c25 | exact Int.not_lt.mp c25 | exact Decidable.not_not.mp c25
            refine st_gr jo_176 jr_176_53 ?_
            refine st_ai jo_222 (show 0 ≤ x4 by omega) (show x4 < ((6 : Nat) : Int) by omega) (fun v27 ev27 b28 => ?_)
            replace ev27 : v27 = g 222 x4 := ev27
            replace b28 := (jba_222 x4 _).1 b28
            refine And.intro (fun c29 => ?_) (fun c29 => ?_)
            · replace c29 : 0 ≤ v27 := c29
              show jGo E l 118 229 229 _ 229 [.inr (.inr (.inl 176)), .inl a1, .inl x2, .inl x3, .inl x4, .inl x5, x6] [] 229 jr0 g
              refine jGo_blk qX12_findMatch_229 ?_
              have e30 : jw32 (x4 + 1) = x4 + 1 := j32e (by omega) (by omega)
              show jGo E l 118 229 229 _ 50 [.inr (.inr (.inl 176)), .inl a1, .inl x2, .inl x3, .inl (jw32 (x4 + 1)), .inl x5, x6] [] 229 jr0 g
              exact ih.2.1 x2 x3 (jw32 (x4 + 1)) (.inl x5) x6 g (by omega) hf (by omega)
            · replace c29 : v27 < 0 := by first | exact c29 | exact Int.not_le.mp c29 | exact Int.not_lt.mp c29 | exact Decidable.not_not.mp c29
              refine st_gr jo_176 jr_176_52 ?_
              refine st_bi jo_221 (show 0 ≤ x5 by omega) (show x5 < ((40 : Nat) : Int) by omega) (fun v31 ev31 b32 => ?_)
              replace ev31 : v31 = g 221 x5 := ev31
              replace b32 := (jba_221 x5 _).1 b32
              refine And.intro (fun c33 => ?_) (fun c33 => ?_)
              · replace c33 : ¬ v31 = 0 := c33
                show jGo E l 118 229 229 _ 223 [.inr (.inr (.inl 176)), .inl a1, .inl x2, .inl x3, .inl x4, .inl x5, x6] [] 229 jr0 g
                refine jGo_blk qX12_findMatch_223 ?_
                have e34 : jw32 (x5 + 1) = x5 + 1 := j32e (by omega) (by omega)
                show jGo E l 118 229 229 _ 69 [.inr (.inr (.inl 176)), .inl a1, .inl x2, .inl x3, .inl x4, .inl (jw32 (x5 + 1)), x6] [] 229 jr0 g
                exact ih.2.2 x2 x3 x4 (jw32 (x5 + 1)) x6 g (by omega) hf (by omega)
              · replace c33 : v31 = 0 := by first | exact c33 | exact Int.not_le.mp c33 | exact Int.not_lt.mp c33 | exact Decidable.not_not.mp c33
                have e35 : jw32 (6 * a1) = 6 * a1 := j32e (by omega) (by omega)
                have e36 : jw32 ((jw32 (6 * a1)) + x4) = (jw32 (6 * a1)) + x4 := j32e (by omega) (by omega)
                refine st_cv (na := 2) (st := [.inl (jw32 ((jw32 (6 * a1)) + x4)), .inl x5, .inr (.inr (.inl 176))]) jo_176 rfl rfl rfl (c_X12_fits x5 (jw32 ((jw32 (6 * a1)) + x4)) g (by omega) (by omega)) rfl ?_
                rintro _ _ _ ⟨rfl, rfl, t37, rfl, ht37, zt37⟩ kt37
                replace kt37 : -2147483648 ≤ t37 ∧ t37 ≤ 2147483647 := kt37
                replace ht37 : 0 ≤ t37 ∧ t37 ≤ 1 := ht37
                refine And.intro (fun c39 => ?_) (fun c39 => ?_)
                · replace c39 : t37 = 0 := c39
                  show jGo E l 118 229 229 _ 223 [.inr (.inr (.inl 176)), .inl a1, .inl x2, .inl x3, .inl x4, .inl x5, x6] [] 229 jr0 g
                  refine jGo_blk qX12_findMatch_223 ?_
                  have e40 : jw32 (x5 + 1) = x5 + 1 := j32e (by omega) (by omega)
                  show jGo E l 118 229 229 _ 69 [.inr (.inr (.inl 176)), .inl a1, .inl x2, .inl x3, .inl x4, .inl (jw32 (x5 + 1)), x6] [] 229 jr0 g
                  exact ih.2.2 x2 x3 x4 (jw32 (x5 + 1)) x6 g (by omega) hf (by omega)
                · replace c39 : ¬ t37 = 0 := by first | exact c39 | exact Int.not_le.mp c39 | exact Int.not_lt.mp c39 | exact Decidable.not_not.mp c39
                  refine st_gr jo_176 jr_176_37 ?_
                  refine st_ai jo_207 (show 0 ≤ x5 by omega) (show x5 < ((40 : Nat) : Int) by omega) (fun v41 ev41 b42 => ?_)
                  replace ev41 : v41 = g 207 x5 := ev41
                  replace b42 := (jba_207 x5 _).1 b42
                  refine st_gr jo_176 jr_176_44 ?_
                  have e43 : jw32 (6 * a1) = 6 * a1 := j32e (by omega) (by omega)
                  have e44 : jw32 ((jw32 (6 * a1)) + x4) = (jw32 (6 * a1)) + x4 := j32e (by omega) (by omega)
                  refine st_ai jo_214 (show 0 ≤ jw32 ((jw32 (6 * a1)) + x4) by omega) (show jw32 ((jw32 (6 * a1)) + x4) < ((18 : Nat) : Int) by omega) (fun v45 ev45 b46 => ?_)
                  replace ev45 : v45 = g 214 (jw32 ((jw32 (6 * a1)) + x4)) := ev45
                  replace b46 := (jba_214 (jw32 ((jw32 (6 * a1)) + x4)) _).1 b46
                  refine st_gr jo_176 jr_176_52 ?_
                  refine st_sb jo_221 (show 0 ≤ x5 by omega) (show x5 < ((40 : Nat) : Int) by omega) (fun hx => (jba_221 _ _).2 (show 0 ≤ 1 ∧ 1 ≤ 1 by omega)) (fun g47 eg47 => ?_)
                  replace eg47 : g47 = jup g 221 x5 1 := eg47
                  have fg47 : jfr w_X12_findMatch h g47 := jfr_up hf eg47 (by unfold w_X12_findMatch; omega)
                  have e48 : g47 221 x5 = 1 := jup_s eg47
                  have e49 : jw32 (x4 + 1) = x4 + 1 := j32e (by omega) (by omega)
                  refine st_cv (na := 2) (st := [.inl (jw32 (x4 + 1)), .inl a1, .inr (.inr (.inl 176))]) jo_176 rfl rfl rfl (c_X12_solve a1 (jw32 (x4 + 1)) g47 (by omega) (by omega)) rfl ?_
                  rintro _ _ g51 ⟨rfl, ft50, rfl, zt50⟩ kt50
                  have fg51 : jfr w_X12_findMatch h g51 := jfr_tr fg47 ft50 (fun i k q => by unfold w_X12_solve at q; unfold w_X12_findMatch; omega)
                  refine st_gi jo_176 (fun v52 ev52 b53 => ?_)
                  replace ev52 : v52 = g51 176 55 := ev52
                  replace b53 := (jbf_12_55 jo_176 _).1 b53
                  refine st_gi jo_176 (fun v54 ev54 b55 => ?_)
                  replace ev54 : v54 = g51 176 57 := ev54
                  replace b55 := (jbf_12_57 jo_176 _).1 b55
                  have e56 : g51 176 57 = g47 176 57 := ft50 176 57 (by unfold w_X12_solve; omega)
                  have e57 : g47 176 57 = g 176 57 := jup_o eg47 (by omega)
                  refine And.intro (fun c58 => ?_) (fun c58 => ?_)
                  · replace c58 : ¬ jw32 ((jw32 (x2 + 1)) + v52) = v54 := c58
                    show jGo E l 118 229 229 _ 215 [.inr (.inr (.inl 176)), .inl a1, .inl x2, .inl x3, .inl x4, .inl x5, .inl (jw32 (v41 - v45))] [] 229 jr0 g51
                    refine jGo_blk qX12_findMatch_215 ?_
                    refine st_gr jo_176 jr_176_52 ?_
                    refine st_sb jo_221 (show 0 ≤ x5 by omega) (show x5 < ((40 : Nat) : Int) by omega) (fun hx => (jba_221 _ _).2 (show 0 ≤ 0 ∧ 0 ≤ 1 by omega)) (fun g59 eg59 => ?_)
                    replace eg59 : g59 = jup g51 221 x5 0 := eg59
                    have fg59 : jfr w_X12_findMatch h g59 := jfr_up fg51 eg59 (by unfold w_X12_findMatch; omega)
                    have e60 : g59 221 x5 = 0 := jup_s eg59
                    show jGo E l 118 229 229 _ 223 [.inr (.inr (.inl 176)), .inl a1, .inl x2, .inl x3, .inl x4, .inl x5, .inl (jw32 (v41 - v45))] [] 229 jr0 g59
                    refine jGo_blk qX12_findMatch_223 ?_
                    have e61 : jw32 (x5 + 1) = x5 + 1 := j32e (by omega) (by omega)
                    show jGo E l 118 229 229 _ 69 [.inr (.inr (.inl 176)), .inl a1, .inl x2, .inl x3, .inl x4, .inl (jw32 (x5 + 1)), .inl (jw32 (v41 - v45))] [] 229 jr0 g59
                    exact ih.2.2 x2 x3 x4 (jw32 (x5 + 1)) (.inl (jw32 (v41 - v45))) g59 (by omega) fg59 (by omega)
                  · replace c58 : jw32 ((jw32 (x2 + 1)) + v52) = v54 := by first | exact c58 | exact Int.not_le.mp c58 | exact Int.not_lt.mp c58 | exact Decidable.not_not.mp c58
                    refine st_gi jo_176 (fun v62 ev62 b63 => ?_)
                    replace ev62 : v62 = g51 176 56 := ev62
                    replace b63 := (jbf_12_56 jo_176 _).1 b63
                    refine st_gi jo_176 (fun v64 ev64 b65 => ?_)
                    replace ev64 : v64 = g51 176 58 := ev64
                    replace b65 := (jbf_12_58 jo_176 _).1 b65
                    have e66 : g51 176 58 = g47 176 58 := ft50 176 58 (by unfold w_X12_solve; omega)
                    have e67 : g47 176 58 = g 176 58 := jup_o eg47 (by omega)
                    refine And.intro (fun c68 => ?_) (fun c68 => ?_)
                    · replace c68 : ¬ jw32 ((jw32 (x3 + (jw32 (v41 - v45)))) + v62) = v64 := c68
                      show jGo E l 118 229 229 _ 215 [.inr (.inr (.inl 176)), .inl a1, .inl x2, .inl x3, .inl x4, .inl x5, .inl (jw32 (v41 - v45))] [] 229 jr0 g51
                      refine jGo_blk qX12_findMatch_215 ?_
                      refine st_gr jo_176 jr_176_52 ?_
                      refine st_sb jo_221 (show 0 ≤ x5 by omega) (show x5 < ((40 : Nat) : Int) by omega) (fun hx => (jba_221 _ _).2 (show 0 ≤ 0 ∧ 0 ≤ 1 by omega)) (fun g69 eg69 => ?_)
                      replace eg69 : g69 = jup g51 221 x5 0 := eg69
                      have fg69 : jfr w_X12_findMatch h g69 := jfr_up fg51 eg69 (by unfold w_X12_findMatch; omega)
                      have e70 : g69 221 x5 = 0 := jup_s eg69
                      show jGo E l 118 229 229 _ 223 [.inr (.inr (.inl 176)), .inl a1, .inl x2, .inl x3, .inl x4, .inl x5, .inl (jw32 (v41 - v45))] [] 229 jr0 g69
                      refine jGo_blk qX12_findMatch_223 ?_
                      have e71 : jw32 (x5 + 1) = x5 + 1 := j32e (by omega) (by omega)
                      show jGo E l 118 229 229 _ 69 [.inr (.inr (.inl 176)), .inl a1, .inl x2, .inl x3, .inl x4, .inl (jw32 (x5 + 1)), .inl (jw32 (v41 - v45))] [] 229 jr0 g69
                      exact ih.2.2 x2 x3 x4 (jw32 (x5 + 1)) (.inl (jw32 (v41 - v45))) g69 (by omega) fg69 (by omega)
                    · replace c68 : jw32 ((jw32 (x3 + (jw32 (v41 - v45)))) + v62) = v64 := by first | exact c68 | exact Int.not_le.mp c68 | exact Int.not_lt.mp c68 | exact Decidable.not_not.mp c68
                      refine st_gr jo_176 jr_176_53 ?_
                      refine st_si jo_222 (show 0 ≤ x4 by omega) (show x4 < ((6 : Nat) : Int) by omega) (fun hx => (jba_222 _ _).2 (show -9 ≤ x5 ∧ x5 ≤ 39 by omega)) (fun g72 eg72 => ?_)
                      replace eg72 : g72 = jup g51 222 x4 x5 := eg72
                      have fg72 : jfr w_X12_findMatch h g72 := jfr_up fg51 eg72 (by unfold w_X12_findMatch; omega)
                      have e73 : g72 222 x4 = x5 := jup_s eg72
                      show jGo E l 118 229 229 _ 223 [.inr (.inr (.inl 176)), .inl a1, .inl (jw32 (x2 + 1)), .inl (jw32 (x3 + (jw32 (v41 - v45)))), .inl x4, .inl x5, .inl (jw32 (v41 - v45))] [] 229 jr0 g72
                      refine jGo_blk qX12_findMatch_223 ?_
                      have e74 : jw32 (x5 + 1) = x5 + 1 := j32e (by omega) (by omega)
                      show jGo E l 118 229 229 _ 69 [.inr (.inr (.inl 176)), .inl a1, .inl (jw32 (x2 + 1)), .inl (jw32 (x3 + (jw32 (v41 - v45)))), .inl x4, .inl (jw32 (x5 + 1)), .inl (jw32 (v41 - v45))] [] 229 jr0 g72
                      exact ih.2.2 (jw32 (x2 + 1)) (jw32 (x3 + (jw32 (v41 - v45)))) x4 (jw32 (x5 + 1)) (.inl (jw32 (v41 - v45))) g72 (by omega) fg72 (by omega)
  refine jGo_blk qX12_findMatch_0 ?_
  show jGo E l 118 229 229 _ 2 [.inr (.inr (.inl 176)), .inl a1, .inl 0, .inr (.inr (.inr ())), .inr (.inr (.inr ())), .inr (.inr (.inr ())), .inr (.inr (.inr ()))] [] 229 jr0 h
  exact (key 1000000000000000000).1 0 h (by omega) f0 (by omega)

def w_X12_match (i k : Int) : Prop := (i = 219) ∨ (221 ≤ i ∧ i ≤ 223) ∨ (i = 176 ∧ 55 ≤ k ∧ k ≤ 58)
def k_X12_match (a1 : Int) (a2 : Int) (h : JH) (v : Option JV) (r' g : JH) : Prop := r' = jr0 ∧ jfr w_X12_match h g ∧ ∃ x : Int, v = some (.inl x) ∧ (True) ∧ (True)
set_option maxHeartbeats 4000000 in
theorem c_X12_match {E : JE} {l : Launch} (a1 : Int) (a2 : Int) (h : JH) : jMt E l 119 [.inr (.inr (.inl 176)), .inl a1, .inl a2] 229 jr0 h (k_X12_match a1 a2 h) := by
  refine jMt0 (nL := 3) (ls := [.inr (.inr (.inl 176)), .inl a1, .inl a2]) (by decide +kernel) (by decide +kernel) (by decide +kernel) rfl rfl ?_
  have f0 : jfr w_X12_match h h := jfr_rf _ _
  refine jGo_blk qX12_match_0 ?_
  refine st_cs (na := 3) (st := [.inl 2, .inl 0, .inl a1]) rfl rfl rfl (c_X12_in a1 0 2 h) rfl ?_
  rintro _ _ _ ⟨rfl, rfl, t1, rfl, ht1, zt1⟩ kt1
  replace kt1 : -2147483648 ≤ t1 ∧ t1 ≤ 2147483647 := kt1
  replace ht1 : 0 ≤ t1 ∧ t1 ≤ 1 := ht1
  replace zt1 : (t1 = 1 ∧ (0 : Int) ≤ a1 ∧ a1 ≤ (2 : Int)) ∨ (t1 = 0 ∧ ¬ ((0 : Int) ≤ a1 ∧ a1 ≤ (2 : Int))) := zt1
  refine And.intro (fun c3 => ?_) (fun c3 => ?_)
  · replace c3 : ¬ t1 = 0 := c3
    show jGo E l 119 229 229 _ 15 [.inr (.inr (.inl 176)), .inl a1, .inl a2] [] 229 jr0 h
    refine jGo_blk qX12_match_15 ?_
    refine st_gr jo_176 jr_176_40 ?_
    refine st_ai jo_210 (show 0 ≤ a1 by omega) (show a1 < ((3 : Nat) : Int) by omega) (fun v4 ev4 b5 => ?_)
    replace ev4 : v4 = h 210 a1 := ev4
    replace b5 := (jba_210 a1 _).1 b5
    have e6 : jw32 (1 + v4) = 1 + v4 := j32e (by omega) (by omega)
    refine st_cs (na := 3) (st := [.inl (jw32 (1 + v4)), .inl 0, .inl a2]) rfl rfl rfl (c_X12_in a2 0 (jw32 (1 + v4)) h) rfl ?_
    rintro _ _ _ ⟨rfl, rfl, t7, rfl, ht7, zt7⟩ kt7
    replace kt7 : -2147483648 ≤ t7 ∧ t7 ≤ 2147483647 := kt7
    replace ht7 : 0 ≤ t7 ∧ t7 ≤ 1 := ht7
    replace zt7 : (t7 = 1 ∧ (0 : Int) ≤ a2 ∧ a2 ≤ (jw32 (1 + v4))) ∨ (t7 = 0 ∧ ¬ ((0 : Int) ≤ a2 ∧ a2 ≤ (jw32 (1 + v4)))) := zt7
    refine And.intro (fun c9 => ?_) (fun c9 => ?_)
    · replace c9 : ¬ t7 = 0 := c9
      show jGo E l 119 229 229 _ 38 [.inr (.inr (.inl 176)), .inl a1, .inl a2] [] 229 jr0 h
      refine jGo_blk qX12_match_38 ?_
      refine st_cv (na := 1) (st := [.inl a1, .inr (.inr (.inl 176))]) jo_176 rfl rfl rfl (c_X12_findMatch a1 h (by omega)) rfl ?_
      rintro _ _ g11 ⟨rfl, ft10, rfl, zt10⟩ kt10
      have fg11 : jfr w_X12_match h g11 := jfr_tr f0 ft10 (fun i k q => by unfold w_X12_findMatch at q; unfold w_X12_match; omega)
      refine And.intro (fun c12 => ?_) (fun c12 => ?_)
      · replace c12 : ¬ a2 = 0 := c12
        show jGo E l 119 229 229 _ 54 [.inr (.inr (.inl 176)), .inl a1, .inl a2] [] 229 jr0 g11
        refine jGo_blk qX12_match_54 ?_
        refine And.intro (fun c13 => ?_) (fun c13 => ?_)
        · replace c13 : ¬ a2 = 1 := c13
          show jGo E l 119 229 229 _ 66 [.inr (.inr (.inl 176)), .inl a1, .inl a2] [] 229 jr0 g11
          refine jGo_blk qX12_match_66 ?_
          refine st_gr jo_176 jr_176_53 ?_
          have e14 : jw32 (a2 - 2) = a2 - 2 := j32e (by omega) (by omega)
          refine st_ai jo_222 (show 0 ≤ jw32 (a2 - 2) by omega) (show jw32 (a2 - 2) < ((6 : Nat) : Int) by omega) (fun v15 ev15 b16 => ?_)
          replace ev15 : v15 = g11 222 (jw32 (a2 - 2)) := ev15
          replace b16 := (jba_222 (jw32 (a2 - 2)) _).1 b16
          show jGo E l 119 229 229 _ 74 [.inr (.inr (.inl 176)), .inl a1, .inl a2] [.inl v15] 229 jr0 g11
          refine jGo_blk qX12_match_74 ?_
          exact st_r0 (ls := []) ⟨rfl, rfl, fg11, v15, rfl, trivial, trivial⟩
        · replace c13 : a2 = 1 := by first | exact c13 | exact Int.not_le.mp c13 | exact Int.not_lt.mp c13 | exact Decidable.not_not.mp c13
          refine st_gi jo_176 (fun v17 ev17 b18 => ?_)
          replace ev17 : v17 = g11 176 58 := ev17
          replace b18 := (jbf_12_58 jo_176 _).1 b18
          show jGo E l 119 229 229 _ 74 [.inr (.inr (.inl 176)), .inl a1, .inl a2] [.inl v17] 229 jr0 g11
          refine jGo_blk qX12_match_74 ?_
          exact st_r0 (ls := []) ⟨rfl, rfl, fg11, v17, rfl, trivial, trivial⟩
      · replace c12 : a2 = 0 := by first | exact c12 | exact Int.not_le.mp c12 | exact Int.not_lt.mp c12 | exact Decidable.not_not.mp c12
        refine st_gi jo_176 (fun v19 ev19 b20 => ?_)
        replace ev19 : v19 = g11 176 57 := ev19
        replace b20 := (jbf_12_57 jo_176 _).1 b20
        show jGo E l 119 229 229 _ 74 [.inr (.inr (.inl 176)), .inl a1, .inl a2] [.inl v19] 229 jr0 g11
        refine jGo_blk qX12_match_74 ?_
        exact st_r0 (ls := []) ⟨rfl, rfl, fg11, v19, rfl, trivial, trivial⟩
    · replace c9 : t7 = 0 := by first | exact c9 | exact Int.not_le.mp c9 | exact Int.not_lt.mp c9 | exact Decidable.not_not.mp c9
      refine st_cv (na := 1) (st := [.inl (-2), .inr (.inr (.inl 176))]) jo_176 rfl rfl rfl (c_X12_refuse (-2) h (by omega)) rfl ?_
      rintro _ _ g22 ⟨rfl, ft21, t21, rfl, ht21, zt21⟩ kt21
      replace kt21 : -2147483648 ≤ t21 ∧ t21 ≤ 2147483647 := kt21
      replace ht21 : -7 ≤ t21 ∧ t21 ≤ -1 := ht21
      have fg22 : jfr w_X12_match h g22 := jfr_tr f0 ft21 (fun i k q => by unfold w_X12_refuse at q; unfold w_X12_match; omega)
      replace zt21 : t21 = (-2 : Int) := zt21
      exact st_r0 (ls := []) ⟨rfl, rfl, fg22, t21, rfl, trivial, trivial⟩
  · replace c3 : t1 = 0 := by first | exact c3 | exact Int.not_le.mp c3 | exact Int.not_lt.mp c3 | exact Decidable.not_not.mp c3
    refine st_cv (na := 1) (st := [.inl (-1), .inr (.inr (.inl 176))]) jo_176 rfl rfl rfl (c_X12_refuse (-1) h (by omega)) rfl ?_
    rintro _ _ g24 ⟨rfl, ft23, t23, rfl, ht23, zt23⟩ kt23
    replace kt23 : -2147483648 ≤ t23 ∧ t23 ≤ 2147483647 := kt23
    replace ht23 : -7 ≤ t23 ∧ t23 ≤ -1 := ht23
    have fg24 : jfr w_X12_match h g24 := jfr_tr f0 ft23 (fun i k q => by unfold w_X12_refuse at q; unfold w_X12_match; omega)
    replace zt23 : t23 = (-1 : Int) := zt23
    exact st_r0 (ls := []) ⟨rfl, rfl, fg24, t23, rfl, trivial, trivial⟩

def w_X3_fellFor (i k : Int) : Prop := (88 ≤ i ∧ i ≤ 89)
def k_X3_fellFor (a1 : Int) (a2 : Int) (a3 : Int) (h : JH) (v : Option JV) (r' g : JH) : Prop := r' = jr0 ∧ jfr w_X3_fellFor h g ∧ v = none ∧ (True)
set_option maxHeartbeats 4000000 in
theorem c_X3_fellFor {E : JE} {l : Launch} (a1 : Int) (a2 : Int) (a3 : Int) (h : JH) (p1 : 0 ≤ a1 ∧ a1 ≤ 39) (p2 : 0 ≤ a2 ∧ a2 ≤ 15) (p3 : 0 ≤ a3 ∧ a3 ≤ 5) : jMt E l 120 [.inr (.inr (.inl 84)), .inl a1, .inl a2, .inl a3] 229 jr0 h (k_X3_fellFor a1 a2 a3 h) := by
  refine jMt0 (nL := 4) (ls := [.inr (.inr (.inl 84)), .inl a1, .inl a2, .inl a3]) (by decide +kernel) (by decide +kernel) (by decide +kernel) rfl rfl ?_
  have f0 : jfr w_X3_fellFor h h := jfr_rf _ _
  refine jGo_blk qX3_fellFor_0 ?_
  refine st_gr jo_84 jr_84_4 ?_
  refine st_si jo_88 (show 0 ≤ a1 by omega) (show a1 < ((40 : Nat) : Int) by omega) (fun hx => (jba_88 _ _).2 (show -9 ≤ a2 ∧ a2 ≤ 15 by omega)) (fun g1 eg1 => ?_)
  replace eg1 : g1 = jup h 88 a1 a2 := eg1
  have fg1 : jfr w_X3_fellFor h g1 := jfr_up f0 eg1 (by unfold w_X3_fellFor; omega)
  have e2 : g1 88 a1 = a2 := jup_s eg1
  refine st_gr jo_84 jr_84_5 ?_
  refine st_si jo_89 (show 0 ≤ a1 by omega) (show a1 < ((40 : Nat) : Int) by omega) (fun hx => (jba_89 _ _).2 (show -9 ≤ a3 ∧ a3 ≤ 5 by omega)) (fun g3 eg3 => ?_)
  replace eg3 : g3 = jup g1 89 a1 a3 := eg3
  have fg3 : jfr w_X3_fellFor h g3 := jfr_up fg1 eg3 (by unfold w_X3_fellFor; omega)
  have e4 : g3 89 a1 = a3 := jup_s eg3
  exact ⟨rfl, rfl, fg3, rfl, trivial⟩

def w_X11_fell (i k : Int) : Prop := (i = 1) ∨ (36 ≤ i ∧ i ≤ 83) ∨ (88 ≤ i ∧ i ≤ 89) ∨ (98 ≤ i ∧ i ≤ 100) ∨ (i = 97 ∧ 0 ≤ k ∧ k ≤ 1)
def k_X11_fell (a1 : Int) (h : JH) (v : Option JV) (r' g : JH) : Prop := r' = jr0 ∧ jfr w_X11_fell h g ∧ ∃ x : Int, v = some (.inl x) ∧ (True) ∧ (∀ i k : Int, 36 ≤ i → i ≤ 83 → ¬ k = 10 → g i k = h i k)
set_option maxHeartbeats 4000000 in
theorem c_X11_fell {E : JE} {l : Launch} (a1 : Int) (h : JH) (q0 : jGok h) : jMt E l 121 [.inr (.inr (.inl 0)), .inl a1] 229 jr0 h (k_X11_fell a1 h) := by
  refine jMt0 (nL := 5) (ls := [.inr (.inr (.inl 0)), .inl a1, .inr (.inr (.inr ())), .inr (.inr (.inr ())), .inr (.inr (.inr ()))]) (by decide +kernel) (by decide +kernel) (by decide +kernel) rfl rfl ?_
  have f0 : jfr w_X11_fell h h := jfr_rf _ _
  have key : ∀ N : Nat, (∀ (x3 : Int) (x4 : Int) (g : JH), (0 ≤ a1 ∧ a1 ≤ 15 ∧ 0 ≤ x3 ∧ x3 ≤ 2 ∧ 0 ≤ x4 ∧ x4 ≤ 6) → (∀ i k : Int, 36 ≤ i → i ≤ 83 → ¬ k = 10 → g i k = h i k) → jfr w_X11_fell h g → (6 - x4) < (N : Int) → jGo E l 121 229 229 (jRK (k_X11_fell a1 h)) 104 [.inr (.inr (.inl 0)), .inl a1, .inl 0, .inl x3, .inl x4] [] 229 jr0 g) := by
    intro N
    induction N with
    | zero => exact fun _ _ _ hi hx0 _ hN => absurd hN (by omega)
    | succ N ih =>
      intro x3 x4 g hi hx0 hf hN
      refine jGo_blk qX11_fell_104 ?_
      refine st_gr jo_0 jr_0_7 ?_
      refine st_gr jo_91 jr_91_0 ?_
      refine st_ai jo_92 (show 0 ≤ x3 by omega) (show x3 < ((3 : Nat) : Int) by omega) (fun v1 ev1 b2 => ?_)
      replace ev1 : v1 = g 92 x3 := ev1
      replace b2 := (jba_92 x3 _).1 b2
      refine And.intro (fun c3 => ?_) (fun c3 => ?_)
      · replace c3 : v1 ≤ x4 := c3
        show jGo E l 121 229 229 _ 159 [.inr (.inr (.inl 0)), .inl a1, .inl 0, .inl x3, .inl x4] [] 229 jr0 g
        refine jGo_blk qX11_fell_159 ?_
        refine st_gr jo_0 jr_0_8 ?_
        refine st_gi jo_97 (fun v4 ev4 b5 => ?_)
        replace ev4 : v4 = g 97 0 := ev4
        replace b5 := (jbf_6_0 jo_97 _).1 b5
        have hq6 : ∀ i k : Int, 36 ≤ i → i ≤ 83 → ¬ k = 10 → g i k = h i k := fun i k p1 p2 p3 => hx0 i k p1 p2 p3
        exact st_r0 (ls := []) ⟨rfl, rfl, hf, v4, rfl, trivial, (by exact hq6)⟩
      · replace c3 : x4 < v1 := by first | exact c3 | exact Int.not_le.mp c3 | exact Int.not_lt.mp c3 | exact Decidable.not_not.mp c3
        refine st_gr jo_0 jr_0_8 ?_
        refine st_gr jo_97 jr_97_2 ?_
        refine st_ai jo_98 (show 0 ≤ x4 by omega) (show x4 < ((6 : Nat) : Int) by omega) (fun v7 ev7 b8 => ?_)
        replace ev7 : v7 = g 98 x4 := ev7
        replace b8 := (jba_98 x4 _).1 b8
        refine And.intro (fun c9 => ?_) (fun c9 => ?_)
        · replace c9 : v7 = (-9) := c9
          show jGo E l 121 229 229 _ 153 [.inr (.inr (.inl 0)), .inl a1, .inl 0, .inl x3, .inl x4] [] 229 jr0 g
          refine jGo_blk qX11_fell_153 ?_
          have e10 : jw32 (x4 + 1) = x4 + 1 := j32e (by omega) (by omega)
          show jGo E l 121 229 229 _ 104 [.inr (.inr (.inl 0)), .inl a1, .inl 0, .inl x3, .inl (jw32 (x4 + 1))] [] 229 jr0 g
          have hq11 : ∀ i k : Int, 36 ≤ i → i ≤ 83 → ¬ k = 10 → g i k = h i k := fun i k p1 p2 p3 => hx0 i k p1 p2 p3
          exact ih x3 (jw32 (x4 + 1)) g (by omega) (by exact hq11) hf (by omega)
        · replace c9 : ¬ v7 = (-9) := by first | exact c9 | exact Int.not_le.mp c9 | exact Int.not_lt.mp c9 | exact Decidable.not_not.mp c9
          refine st_gr jo_0 jr_0_6 ?_
          refine st_gr jo_0 jr_0_8 ?_
          refine st_gr jo_97 jr_97_2 ?_
          refine st_ai jo_98 (show 0 ≤ x4 by omega) (show x4 < ((6 : Nat) : Int) by omega) (fun v12 ev12 b13 => ?_)
          replace ev12 : v12 = g 98 x4 := ev12
          replace b13 := (jba_98 x4 _).1 b13
          refine st_cv (na := 3) (st := [.inl x4, .inl a1, .inl v12, .inr (.inr (.inl 84))]) jo_84 rfl rfl rfl (c_X3_fellFor v12 a1 x4 g (by omega) (by omega) (by omega)) rfl ?_
          rintro _ _ g15 ⟨rfl, ft14, rfl, zt14⟩ kt14
          have fg15 : jfr w_X11_fell h g15 := jfr_tr hf ft14 (fun i k q => by unfold w_X3_fellFor at q; unfold w_X11_fell; omega)
          show jGo E l 121 229 229 _ 153 [.inr (.inr (.inl 0)), .inl a1, .inl 0, .inl x3, .inl x4] [] 229 jr0 g15
          refine jGo_blk qX11_fell_153 ?_
          have e16 : jw32 (x4 + 1) = x4 + 1 := j32e (by omega) (by omega)
          show jGo E l 121 229 229 _ 104 [.inr (.inr (.inl 0)), .inl a1, .inl 0, .inl x3, .inl (jw32 (x4 + 1))] [] 229 jr0 g15
          have hq17 : ∀ i k : Int, 36 ≤ i → i ≤ 83 → ¬ k = 10 → g15 i k = h i k := fun i k p1 p2 p3 => ((ft14 i k (by unfold w_X3_fellFor; omega))).trans (hx0 i k p1 p2 p3)
          exact ih x3 (jw32 (x4 + 1)) g15 (by omega) (by exact hq17) fg15 (by omega)
  refine jGo_blk qX11_fell_0 ?_
  refine st_cv (na := 1) (st := [.inl a1, .inr (.inr (.inl 0))]) jo_0 rfl rfl rfl (c_X11_isHull a1 h) rfl ?_
  rintro _ _ _ ⟨rfl, rfl, t18, rfl, ht18, zt18⟩ kt18
  replace kt18 : -2147483648 ≤ t18 ∧ t18 ≤ 2147483647 := kt18
  replace ht18 : 0 ≤ t18 ∧ t18 ≤ 1 := ht18
  replace zt18 : (t18 = 1 ∧ 0 ≤ a1 ∧ a1 < h 29 4 ∧ h 29 4 ≤ 16) ∨ (t18 = 0 ∧ ¬ (0 ≤ a1 ∧ a1 < h 29 4)) := zt18
  refine And.intro (fun c20 => ?_) (fun c20 => ?_)
  · replace c20 : ¬ t18 = 0 := c20
    show jGo E l 121 229 229 _ 12 [.inr (.inr (.inl 0)), .inl a1, .inr (.inr (.inr ())), .inr (.inr (.inr ())), .inr (.inr (.inr ()))] [] 229 jr0 h
    refine jGo_blk qX11_fell_12 ?_
    refine st_gr jo_0 jr_0_5 ?_
    refine st_gr jo_29 jr_29_3 ?_
    refine st_ar jo_33 (by decide) (show 0 ≤ a1 by omega) (show a1 < ((16 : Nat) : Int) by omega) (fun u21 eu21 => ?_)
    replace eu21 : u21 = jr0 33 a1 := eu21
    have qu21 : u21 = 36 + 3 * a1 := eu21.trans (jhul_33 a1 (by omega) (by omega)).1
    have hu21 : jHl u21 := by rw [eu21]; exact (jhul_33 a1 (by omega) (by omega)).2
    refine st_cv (na := 0) (st := [.inr (.inr (.inl u21))]) hu21.1 rfl rfl rfl (c_X4_isUnderWay u21 h hu21) rfl ?_
    rintro _ _ _ ⟨rfl, rfl, t22, rfl, ht22, zt22⟩ kt22
    replace kt22 : -2147483648 ≤ t22 ∧ t22 ≤ 2147483647 := kt22
    replace ht22 : 0 ≤ t22 ∧ t22 ≤ 1 := ht22
    replace zt22 : (t22 = 1 ∧ (h u21 3 = 0 ∨ h u21 3 = 1)) ∨ (t22 = 0 ∧ ¬ (h u21 3 = 0 ∨ h u21 3 = 1)) := zt22
    refine And.intro (fun c24 => ?_) (fun c24 => ?_)
    · replace c24 : t22 = 0 := c24
      show jGo E l 121 229 229 _ 42 [.inr (.inr (.inl 0)), .inl a1, .inr (.inr (.inr ())), .inr (.inr (.inr ())), .inr (.inr (.inr ()))] [] 229 jr0 h
      refine jGo_blk qX11_fell_42 ?_
      show jGo E l 121 229 229 _ 48 [.inr (.inr (.inl 0)), .inl a1, .inr (.inr (.inr ())), .inr (.inr (.inr ())), .inr (.inr (.inr ()))] [.inl (-3)] 229 jr0 h
      refine jGo_blk qX11_fell_48 ?_
      refine And.intro (fun c25 => ?_) (fun c25 => ?_)
      · replace c25 : (-3 : Int) = 0 := c25
        exfalso; omega
      · replace c25 : ¬ (-3 : Int) = 0 := by first | exact c25 | exact Int.not_le.mp c25 | exact Int.not_lt.mp c25 | exact Decidable.not_not.mp c25
        refine st_cv (na := 1) (st := [.inl (-3), .inr (.inr (.inl 0))]) jo_0 rfl rfl rfl (c_X11_refused (-3) h (by omega)) rfl ?_
        rintro _ _ g27 ⟨rfl, ft26, t26, rfl, ht26, zt26⟩ kt26
        replace kt26 : -2147483648 ≤ t26 ∧ t26 ≤ 2147483647 := kt26
        replace ht26 : -7 ≤ t26 ∧ t26 ≤ -1 := ht26
        have fg27 : jfr w_X11_fell h g27 := jfr_tr f0 ft26 (fun i k q => by unfold w_X11_refused at q; unfold w_X11_fell; omega)
        replace zt26 : t26 = (-3 : Int) := zt26
        have hq28 : ∀ i k : Int, 36 ≤ i → i ≤ 83 → ¬ k = 10 → g27 i k = h i k := fun i k p1 p2 p3 => (ft26 i k (by unfold w_X11_refused; omega))
        exact st_r0 (ls := []) ⟨rfl, rfl, fg27, t26, rfl, trivial, (by exact hq28)⟩
    · replace c24 : ¬ t22 = 0 := by first | exact c24 | exact Int.not_le.mp c24 | exact Int.not_lt.mp c24 | exact Decidable.not_not.mp c24
      refine st_gr jo_0 jr_0_5 ?_
      refine st_gr jo_29 jr_29_3 ?_
      refine st_ar jo_33 (by decide) (show 0 ≤ a1 by omega) (show a1 < ((16 : Nat) : Int) by omega) (fun u29 eu29 => ?_)
      replace eu29 : u29 = jr0 33 a1 := eu29
      have qu29 : u29 = 36 + 3 * a1 := eu29.trans (jhul_33 a1 (by omega) (by omega)).1
      have hu29 : jHl u29 := by rw [eu29]; exact (jhul_33 a1 (by omega) (by omega)).2
      refine st_gi hu29.1 (fun v30 ev30 b31 => ?_)
      replace ev30 : v30 = h u29 10 := ev30
      replace b31 := (jbf_4_10 hu29.1 _).1 b31
      refine And.intro (fun c32 => ?_) (fun c32 => ?_)
      · replace c32 : v30 = 0 := c32
        show jGo E l 121 229 229 _ 47 [.inr (.inr (.inl 0)), .inl a1, .inr (.inr (.inr ())), .inr (.inr (.inr ())), .inr (.inr (.inr ()))] [] 229 jr0 h
        refine jGo_blk qX11_fell_47 ?_
        show jGo E l 121 229 229 _ 48 [.inr (.inr (.inl 0)), .inl a1, .inr (.inr (.inr ())), .inr (.inr (.inr ())), .inr (.inr (.inr ()))] [.inl 0] 229 jr0 h
        refine jGo_blk qX11_fell_48 ?_
        refine And.intro (fun c33 => ?_) (fun c33 => ?_)
        · replace c33 : (0 : Int) = 0 := c33
          show jGo E l 121 229 229 _ 59 [.inr (.inr (.inl 0)), .inl a1, .inl 0, .inr (.inr (.inr ())), .inr (.inr (.inr ()))] [] 229 jr0 h
          refine jGo_blk qX11_fell_59 ?_
          refine st_gr jo_0 jr_0_5 ?_
          refine st_gr jo_29 jr_29_3 ?_
          refine st_ar jo_33 (by decide) (show 0 ≤ a1 by omega) (show a1 < ((16 : Nat) : Int) by omega) (fun u34 eu34 => ?_)
          replace eu34 : u34 = jr0 33 a1 := eu34
          have qu34 : u34 = 36 + 3 * a1 := eu34.trans (jhul_33 a1 (by omega) (by omega)).1
          have hu34 : jHl u34 := by rw [eu34]; exact (jhul_33 a1 (by omega) (by omega)).2
          refine st_pi hu34.1 (fun hx => (jbf_4_10 hu34.1 _).2 (show 0 ≤ 1 ∧ 1 ≤ 1 by omega)) (fun g35 eg35 => ?_)
          replace eg35 : g35 = jup h u34 10 1 := eg35
          have fg35 : jfr w_X11_fell h g35 := jfr_up f0 eg35 (by unfold w_X11_fell; omega)
          have e36 : g35 u34 10 = 1 := jup_s eg35
          refine st_gr jo_0 jr_0_5 ?_
          refine st_gr jo_29 jr_29_3 ?_
          refine st_ar jo_33 (by decide) (show 0 ≤ a1 by omega) (show a1 < ((16 : Nat) : Int) by omega) (fun u37 eu37 => ?_)
          replace eu37 : u37 = jr0 33 a1 := eu37
          have qu37 : u37 = 36 + 3 * a1 := eu37.trans (jhul_33 a1 (by omega) (by omega)).1
          have hu37 : jHl u37 := by rw [eu37]; exact (jhul_33 a1 (by omega) (by omega)).2
          refine st_gi hu37.1 (fun v38 ev38 b39 => ?_)
          replace ev38 : v38 = g35 u37 0 := ev38
          replace b39 := (jbf_4_0 hu37.1 _).1 b39
          refine st_gr jo_0 jr_0_8 ?_
          refine st_gr jo_0 jr_0_6 ?_
          refine st_gr jo_0 jr_0_7 ?_
          refine st_cv (na := 3) (st := [.inl v38, .inr (.inr (.inl 91)), .inr (.inr (.inl 84)), .inr (.inr (.inl 97))]) jo_97 rfl rfl rfl (c_X6_solve v38 g35 (by omega) (jGok_fr q0 (fun s => fg35 87 s (by unfold w_X11_fell; omega)))) rfl ?_
          rintro _ _ g41 ⟨rfl, ft40, rfl, zt40⟩ kt40
          have fg41 : jfr w_X11_fell h g41 := jfr_tr fg35 ft40 (fun i k q => by unfold w_X6_solve at q; unfold w_X11_fell; omega)
          show jGo E l 121 229 229 _ 104 [.inr (.inr (.inl 0)), .inl a1, .inl 0, .inl v38, .inl 0] [] 229 jr0 g41
          have hq42 : ∀ i k : Int, 36 ≤ i → i ≤ 83 → ¬ k = 10 → g41 i k = h i k := fun i k p1 p2 p3 => ((ft40 i k (by unfold w_X6_solve; omega)).trans (jup_o eg35 (by omega)))
          exact (key 1000000000000) v38 0 g41 (by omega) (by exact hq42) fg41 (by omega)
        · replace c33 : ¬ (0 : Int) = 0 := by first | exact c33 | exact Int.not_le.mp c33 | exact Int.not_lt.mp c33 | exact Decidable.not_not.mp c33
          exfalso; omega
      · replace c32 : ¬ v30 = 0 := by first | exact c32 | exact Int.not_le.mp c32 | exact Int.not_lt.mp c32 | exact Decidable.not_not.mp c32
        show jGo E l 121 229 229 _ 42 [.inr (.inr (.inl 0)), .inl a1, .inr (.inr (.inr ())), .inr (.inr (.inr ())), .inr (.inr (.inr ()))] [] 229 jr0 h
        refine jGo_blk qX11_fell_42 ?_
        show jGo E l 121 229 229 _ 48 [.inr (.inr (.inl 0)), .inl a1, .inr (.inr (.inr ())), .inr (.inr (.inr ())), .inr (.inr (.inr ()))] [.inl (-3)] 229 jr0 h
        refine jGo_blk qX11_fell_48 ?_
        refine And.intro (fun c43 => ?_) (fun c43 => ?_)
        · replace c43 : (-3 : Int) = 0 := c43
          exfalso; omega
        · replace c43 : ¬ (-3 : Int) = 0 := by first | exact c43 | exact Int.not_le.mp c43 | exact Int.not_lt.mp c43 | exact Decidable.not_not.mp c43
          refine st_cv (na := 1) (st := [.inl (-3), .inr (.inr (.inl 0))]) jo_0 rfl rfl rfl (c_X11_refused (-3) h (by omega)) rfl ?_
          rintro _ _ g45 ⟨rfl, ft44, t44, rfl, ht44, zt44⟩ kt44
          replace kt44 : -2147483648 ≤ t44 ∧ t44 ≤ 2147483647 := kt44
          replace ht44 : -7 ≤ t44 ∧ t44 ≤ -1 := ht44
          have fg45 : jfr w_X11_fell h g45 := jfr_tr f0 ft44 (fun i k q => by unfold w_X11_refused at q; unfold w_X11_fell; omega)
          replace zt44 : t44 = (-3 : Int) := zt44
          have hq46 : ∀ i k : Int, 36 ≤ i → i ≤ 83 → ¬ k = 10 → g45 i k = h i k := fun i k p1 p2 p3 => (ft44 i k (by unfold w_X11_refused; omega))
          exact st_r0 (ls := []) ⟨rfl, rfl, fg45, t44, rfl, trivial, (by exact hq46)⟩
  · replace c20 : t18 = 0 := by first | exact c20 | exact Int.not_le.mp c20 | exact Int.not_lt.mp c20 | exact Decidable.not_not.mp c20
    show jGo E l 121 229 229 _ 48 [.inr (.inr (.inl 0)), .inl a1, .inr (.inr (.inr ())), .inr (.inr (.inr ())), .inr (.inr (.inr ()))] [.inl (-1)] 229 jr0 h
    refine jGo_blk qX11_fell_48 ?_
    refine And.intro (fun c47 => ?_) (fun c47 => ?_)
    · replace c47 : (-1 : Int) = 0 := c47
      exfalso; omega
    · replace c47 : ¬ (-1 : Int) = 0 := by first | exact c47 | exact Int.not_le.mp c47 | exact Int.not_lt.mp c47 | exact Decidable.not_not.mp c47
      refine st_cv (na := 1) (st := [.inl (-1), .inr (.inr (.inl 0))]) jo_0 rfl rfl rfl (c_X11_refused (-1) h (by omega)) rfl ?_
      rintro _ _ g49 ⟨rfl, ft48, t48, rfl, ht48, zt48⟩ kt48
      replace kt48 : -2147483648 ≤ t48 ∧ t48 ≤ 2147483647 := kt48
      replace ht48 : -7 ≤ t48 ∧ t48 ≤ -1 := ht48
      have fg49 : jfr w_X11_fell h g49 := jfr_tr f0 ft48 (fun i k q => by unfold w_X11_refused at q; unfold w_X11_fell; omega)
      replace zt48 : t48 = (-1 : Int) := zt48
      have hq50 : ∀ i k : Int, 36 ≤ i → i ≤ 83 → ¬ k = 10 → g49 i k = h i k := fun i k p1 p2 p3 => (ft48 i k (by unfold w_X11_refused; omega))
      exact st_r0 (ls := []) ⟨rfl, rfl, fg49, t48, rfl, trivial, (by exact hq50)⟩

def w_X12_fell (i k : Int) : Prop := (i = 201) ∨ (208 ≤ i ∧ i ≤ 209) ∨ (i = 219) ∨ (221 ≤ i ∧ i ≤ 223) ∨ (i = 176 ∧ 55 ≤ k ∧ k ≤ 58)
def k_X12_fell (a1 : Int) (h : JH) (v : Option JV) (r' g : JH) : Prop := r' = jr0 ∧ jfr w_X12_fell h g ∧ ∃ x : Int, v = some (.inl x) ∧ (True) ∧ (True)
set_option maxHeartbeats 4000000 in
theorem c_X12_fell {E : JE} {l : Launch} (a1 : Int) (h : JH) : jMt E l 122 [.inr (.inr (.inl 176)), .inl a1] 229 jr0 h (k_X12_fell a1 h) := by
  refine jMt0 (nL := 3) (ls := [.inr (.inr (.inl 176)), .inl a1, .inr (.inr (.inr ()))]) (by decide +kernel) (by decide +kernel) (by decide +kernel) rfl rfl ?_
  have f0 : jfr w_X12_fell h h := jfr_rf _ _
  have key : ∀ N : Nat, (∀ (x2 : Int) (g : JH), (0 ≤ a1 ∧ a1 ≤ 15 ∧ 0 ≤ x2 ∧ x2 ≤ 6) → jfr w_X12_fell h g → (6 - x2) < (N : Int) → jGo E l 122 229 229 (jRK (k_X12_fell a1 h)) 59 [.inr (.inr (.inl 176)), .inl a1, .inl x2] [] 229 jr0 g) := by
    intro N
    induction N with
    | zero => exact fun _ _ hi _ hN => absurd hN (by omega)
    | succ N ih =>
      intro x2 g hi hf hN
      refine jGo_blk qX12_fell_59 ?_
      refine And.intro (fun c1 => ?_) (fun c1 => ?_)
      · replace c1 : 6 ≤ x2 := c1
        show jGo E l 122 229 229 _ 104 [.inr (.inr (.inl 176)), .inl a1, .inl x2] [] 229 jr0 g
        refine jGo_blk qX12_fell_104 ?_
        refine st_gi jo_176 (fun v2 ev2 b3 => ?_)
        replace ev2 : v2 = g 176 57 := ev2
        replace b3 := (jbf_12_57 jo_176 _).1 b3
        exact st_r0 (ls := []) ⟨rfl, rfl, hf, v2, rfl, trivial, trivial⟩
      · replace c1 : x2 < 6 := by first | exact c1 | exact Int.not_le.mp c1 | exact Int.not_lt.mp c1 | exact Decidable.not_not.mp c1
        refine st_gr jo_176 jr_176_53 ?_
        refine st_ai jo_222 (show 0 ≤ x2 by omega) (show x2 < ((6 : Nat) : Int) by omega) (fun v4 ev4 b5 => ?_)
        replace ev4 : v4 = g 222 x2 := ev4
        replace b5 := (jba_222 x2 _).1 b5
        refine And.intro (fun c6 => ?_) (fun c6 => ?_)
        · replace c6 : v4 < 0 := c6
          show jGo E l 122 229 229 _ 98 [.inr (.inr (.inl 176)), .inl a1, .inl x2] [] 229 jr0 g
          refine jGo_blk qX12_fell_98 ?_
          have e7 : jw32 (x2 + 1) = x2 + 1 := j32e (by omega) (by omega)
          show jGo E l 122 229 229 _ 59 [.inr (.inr (.inl 176)), .inl a1, .inl (jw32 (x2 + 1))] [] 229 jr0 g
          exact ih (jw32 (x2 + 1)) g (by omega) hf (by omega)
        · replace c6 : 0 ≤ v4 := by first | exact c6 | exact Int.not_le.mp c6 | exact Int.not_lt.mp c6 | exact Decidable.not_not.mp c6
          refine st_gr jo_176 jr_176_38 ?_
          refine st_gr jo_176 jr_176_53 ?_
          refine st_ai jo_222 (show 0 ≤ x2 by omega) (show x2 < ((6 : Nat) : Int) by omega) (fun v8 ev8 b9 => ?_)
          replace ev8 : v8 = g 222 x2 := ev8
          replace b9 := (jba_222 x2 _).1 b9
          refine st_si jo_208 (show 0 ≤ v8 by omega) (show v8 < ((40 : Nat) : Int) by omega) (fun hx => (jba_208 _ _).2 (show -1 ≤ a1 ∧ a1 ≤ 15 by omega)) (fun g10 eg10 => ?_)
          replace eg10 : g10 = jup g 208 v8 a1 := eg10
          have fg10 : jfr w_X12_fell h g10 := jfr_up hf eg10 (by unfold w_X12_fell; omega)
          have e11 : g10 208 v8 = a1 := jup_s eg10
          refine st_gr jo_176 jr_176_39 ?_
          refine st_gr jo_176 jr_176_53 ?_
          refine st_ai jo_222 (show 0 ≤ x2 by omega) (show x2 < ((6 : Nat) : Int) by omega) (fun v12 ev12 b13 => ?_)
          replace ev12 : v12 = g10 222 x2 := ev12
          replace b13 := (jba_222 x2 _).1 b13
          have e14 : g10 222 x2 = g 222 x2 := jup_o eg10 (by omega)
          refine st_si jo_209 (show 0 ≤ v12 by omega) (show v12 < ((40 : Nat) : Int) by omega) (fun hx => (jba_209 _ _).2 (show -1 ≤ x2 ∧ x2 ≤ 5 by omega)) (fun g15 eg15 => ?_)
          replace eg15 : g15 = jup g10 209 v12 x2 := eg15
          have fg15 : jfr w_X12_fell h g15 := jfr_up fg10 eg15 (by unfold w_X12_fell; omega)
          have e16 : g15 209 v12 = x2 := jup_s eg15
          show jGo E l 122 229 229 _ 98 [.inr (.inr (.inl 176)), .inl a1, .inl x2] [] 229 jr0 g15
          refine jGo_blk qX12_fell_98 ?_
          have e17 : jw32 (x2 + 1) = x2 + 1 := j32e (by omega) (by omega)
          show jGo E l 122 229 229 _ 59 [.inr (.inr (.inl 176)), .inl a1, .inl (jw32 (x2 + 1))] [] 229 jr0 g15
          exact ih (jw32 (x2 + 1)) g15 (by omega) fg15 (by omega)
  refine jGo_blk qX12_fell_0 ?_
  refine st_cv (na := 1) (st := [.inl a1, .inr (.inr (.inl 176))]) jo_176 rfl rfl rfl (c_X12_isHull a1 h) rfl ?_
  rintro _ _ _ ⟨rfl, rfl, t18, rfl, ht18, zt18⟩ kt18
  replace kt18 : -2147483648 ≤ t18 ∧ t18 ≤ 2147483647 := kt18
  replace ht18 : 0 ≤ t18 ∧ t18 ≤ 1 := ht18
  replace zt18 : (t18 = 1 ∧ 0 ≤ a1 ∧ a1 < h 176 14 ∧ h 176 14 ≤ 16) ∨ (t18 = 0 ∧ ¬ (0 ≤ a1 ∧ a1 < h 176 14)) := zt18
  refine And.intro (fun c20 => ?_) (fun c20 => ?_)
  · replace c20 : ¬ t18 = 0 := c20
    show jGo E l 122 229 229 _ 14 [.inr (.inr (.inl 176)), .inl a1, .inr (.inr (.inr ()))] [] 229 jr0 h
    refine jGo_blk qX12_fell_14 ?_
    refine st_gr jo_176 jr_176_18 ?_
    refine st_ai jo_192 (show 0 ≤ a1 by omega) (show a1 < ((16 : Nat) : Int) by omega) (fun v21 ev21 b22 => ?_)
    replace ev21 : v21 = h 192 a1 := ev21
    replace b22 := (jba_192 a1 _).1 b22
    refine And.intro (fun c23 => ?_) (fun c23 => ?_)
    · replace c23 : 1 < v21 := c23
      show jGo E l 122 229 229 _ 33 [.inr (.inr (.inl 176)), .inl a1, .inr (.inr (.inr ()))] [] 229 jr0 h
      refine jGo_blk qX12_fell_33 ?_
      refine st_cv (na := 1) (st := [.inl (-3), .inr (.inr (.inl 176))]) jo_176 rfl rfl rfl (c_X12_refuse (-3) h (by omega)) rfl ?_
      rintro _ _ g25 ⟨rfl, ft24, t24, rfl, ht24, zt24⟩ kt24
      replace kt24 : -2147483648 ≤ t24 ∧ t24 ≤ 2147483647 := kt24
      replace ht24 : -7 ≤ t24 ∧ t24 ≤ -1 := ht24
      have fg25 : jfr w_X12_fell h g25 := jfr_tr f0 ft24 (fun i k q => by unfold w_X12_refuse at q; unfold w_X12_fell; omega)
      replace zt24 : t24 = (-3 : Int) := zt24
      exact st_r0 (ls := []) ⟨rfl, rfl, fg25, t24, rfl, trivial, trivial⟩
    · replace c23 : v21 ≤ 1 := by first | exact c23 | exact Int.not_le.mp c23 | exact Int.not_lt.mp c23 | exact Decidable.not_not.mp c23
      refine st_gr jo_176 jr_176_27 ?_
      refine st_bi jo_201 (show 0 ≤ a1 by omega) (show a1 < ((16 : Nat) : Int) by omega) (fun v26 ev26 b27 => ?_)
      replace ev26 : v26 = h 201 a1 := ev26
      replace b27 := (jba_201 a1 _).1 b27
      refine And.intro (fun c28 => ?_) (fun c28 => ?_)
      · replace c28 : v26 = 0 := c28
        show jGo E l 122 229 229 _ 40 [.inr (.inr (.inl 176)), .inl a1, .inr (.inr (.inr ()))] [] 229 jr0 h
        refine jGo_blk qX12_fell_40 ?_
        refine st_gr jo_176 jr_176_15 ?_
        refine st_ai jo_189 (show 0 ≤ a1 by omega) (show a1 < ((16 : Nat) : Int) by omega) (fun v29 ev29 b30 => ?_)
        replace ev29 : v29 = h 189 a1 := ev29
        replace b30 := (jba_189 a1 _).1 b30
        refine st_cv (na := 1) (st := [.inl v29, .inr (.inr (.inl 176))]) jo_176 rfl rfl rfl (c_X12_findMatch v29 h (by omega)) rfl ?_
        rintro _ _ g32 ⟨rfl, ft31, rfl, zt31⟩ kt31
        have fg32 : jfr w_X12_fell h g32 := jfr_tr f0 ft31 (fun i k q => by unfold w_X12_findMatch at q; unfold w_X12_fell; omega)
        refine st_gr jo_176 jr_176_27 ?_
        refine st_sb jo_201 (show 0 ≤ a1 by omega) (show a1 < ((16 : Nat) : Int) by omega) (fun hx => (jba_201 _ _).2 (show 0 ≤ 1 ∧ 1 ≤ 1 by omega)) (fun g33 eg33 => ?_)
        replace eg33 : g33 = jup g32 201 a1 1 := eg33
        have fg33 : jfr w_X12_fell h g33 := jfr_up fg32 eg33 (by unfold w_X12_fell; omega)
        have e34 : g33 201 a1 = 1 := jup_s eg33
        show jGo E l 122 229 229 _ 59 [.inr (.inr (.inl 176)), .inl a1, .inl 0] [] 229 jr0 g33
        exact (key 1000000000000) 0 g33 (by omega) fg33 (by omega)
      · replace c28 : ¬ v26 = 0 := by first | exact c28 | exact Int.not_le.mp c28 | exact Int.not_lt.mp c28 | exact Decidable.not_not.mp c28
        show jGo E l 122 229 229 _ 33 [.inr (.inr (.inl 176)), .inl a1, .inr (.inr (.inr ()))] [] 229 jr0 h
        refine jGo_blk qX12_fell_33 ?_
        refine st_cv (na := 1) (st := [.inl (-3), .inr (.inr (.inl 176))]) jo_176 rfl rfl rfl (c_X12_refuse (-3) h (by omega)) rfl ?_
        rintro _ _ g36 ⟨rfl, ft35, t35, rfl, ht35, zt35⟩ kt35
        replace kt35 : -2147483648 ≤ t35 ∧ t35 ≤ 2147483647 := kt35
        replace ht35 : -7 ≤ t35 ∧ t35 ≤ -1 := ht35
        have fg36 : jfr w_X12_fell h g36 := jfr_tr f0 ft35 (fun i k q => by unfold w_X12_refuse at q; unfold w_X12_fell; omega)
        replace zt35 : t35 = (-3 : Int) := zt35
        exact st_r0 (ls := []) ⟨rfl, rfl, fg36, t35, rfl, trivial, trivial⟩
  · replace c20 : t18 = 0 := by first | exact c20 | exact Int.not_le.mp c20 | exact Int.not_lt.mp c20 | exact Decidable.not_not.mp c20
    refine st_cv (na := 1) (st := [.inl (-1), .inr (.inr (.inl 176))]) jo_176 rfl rfl rfl (c_X12_refuse (-1) h (by omega)) rfl ?_
    rintro _ _ g38 ⟨rfl, ft37, t37, rfl, ht37, zt37⟩ kt37
    replace kt37 : -2147483648 ≤ t37 ∧ t37 ≤ 2147483647 := kt37
    replace ht37 : -7 ≤ t37 ∧ t37 ≤ -1 := ht37
    have fg38 : jfr w_X12_fell h g38 := jfr_tr f0 ft37 (fun i k q => by unfold w_X12_refuse at q; unfold w_X12_fell; omega)
    replace zt37 : t37 = (-1 : Int) := zt37
    exact st_r0 (ls := []) ⟨rfl, rfl, fg38, t37, rfl, trivial, trivial⟩
