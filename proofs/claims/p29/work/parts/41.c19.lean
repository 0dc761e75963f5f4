def k_X6_lackingNumber (a0 : Int) (h : JH) (v : Option JV) (r' g : JH) : Prop := r' = jr0 ∧ h = g ∧ ∃ x : Int, v = some (.inr (.inl x)) ∧ (19456426971176 ≤ x ∧ x ≤ 19461061219176) ∧ (x = jlk a0)
set_option maxHeartbeats 4000000 in
theorem c_X6_lackingNumber {E : JE} {l : Launch} (a0 : Int) (h : JH) (p0 : 0 ≤ a0 ∧ a0 ≤ 5) : jMt E l 107 [.inl a0] 229 jr0 h (k_X6_lackingNumber a0 h) := by
  refine jMt0 (nL := 1) (ls := [.inl a0]) (by decide +kernel) (by decide +kernel) (by decide +kernel) rfl rfl ?_
  refine jGo_blk qX6_lackingNumber_0 ?_
  refine st_xl (by decide) jx_k6 (jx_l6 E) (show 0 ≤ a0 by omega) (show a0 < ((6 : Nat) : Int) by omega) (fun v1 ev1 => ?_)
  have bv1 : 1 ≤ v1 ∧ v1 ≤ 115856201 := by rw [ev1]; exact jx_w6 E a0 (by omega) (by omega)
  replace ev1 : v1 = jxv E (-6) a0 := ev1
  have e2 : jw64 (40 * v1) = 40 * v1 := j64e (by omega) (by omega)
  have e3 : jw64 (19456426971136 + (jw64 (40 * v1))) = 19456426971136 + (jw64 (40 * v1)) := j64e (by omega) (by omega)
  exact ⟨rfl, rfl, rfl, jw64 (19456426971136 + (jw64 (40 * v1))), rfl, (by omega), (by have q9 : jlk a0 = 19456426971136 + 40 * jxv E (-6) a0 := (by rw [jx_e6]; rfl); omega)⟩

def w_X6_fitting (i k : Int) : Prop := (i = 100)
def k_X6_fitting (a2 : Int) (a4 : Int) (h : JH) (v : Option JV) (r' g : JH) : Prop := r' = jr0 ∧ jfr w_X6_fitting h g ∧ ∃ x : Int, v = some (.inl x) ∧ (0 ≤ x ∧ x ≤ 63) ∧ (jCok x (h 92 a4) g ∧ jFi h a4 a2 x (h 92 a4) g)
set_option maxHeartbeats 4000000 in
theorem c_X6_fitting {E : JE} {l : Launch} (a2 : Int) (a4 : Int) (h : JH) (p2 : 0 ≤ a2 ∧ a2 ≤ 39) (p4 : 0 ≤ a4 ∧ a4 ≤ 2) (q0 : jGok h) : jMt E l 109 [.inr (.inr (.inl 97)), .inr (.inr (.inl 84)), .inl a2, .inr (.inr (.inl 91)), .inl a4] 229 jr0 h (k_X6_fitting a2 a4 h) := by
  refine jMt0 (nL := 9) (ls := [.inr (.inr (.inl 97)), .inr (.inr (.inl 84)), .inl a2, .inr (.inr (.inl 91)), .inl a4, .inr (.inr (.inr ())), .inr (.inr (.inr ())), .inr (.inr (.inr ())), .inr (.inr (.inr ()))]) (by decide +kernel) (by decide +kernel) (by decide +kernel) rfl rfl ?_
  have f0 : jfr w_X6_fitting h h := jfr_rf _ _
  refine jGo_bd (fun hbd => ?_)
  have hb0 := (jba_92 a4 _).1 (hbd 92 a4)
  have key : ∀ N : Nat, (∀ (x5 : Int) (x6 : Int) (x7 : JV) (x8 : JV) (g : JH), (0 ≤ x5 ∧ x5 ≤ 63 ∧ 0 ≤ x6 ∧ x6 ≤ 6) → (jCok x5 x6 g) → (x6 ≤ h 92 a4) → (jFi h a4 a2 x5 x6 g) → jfr w_X6_fitting h g → (6 - x6) < (N : Int) → jGo E l 109 229 229 (jRK (k_X6_fitting a2 a4 h)) 6 [.inr (.inr (.inl 97)), .inr (.inr (.inl 84)), .inl a2, .inr (.inr (.inl 91)), .inl a4, .inl x5, .inl x6, x7, x8] [] 229 jr0 g) := by
    intro N
    induction N with
    | zero => exact fun _ _ _ _ _ hi hx0 hx1 hx2 _ hN => absurd hN (by omega)
    | succ N ih =>
      intro x5 x6 x7 x8 g hi hx0 hx1 hx2 hf hN
      have hz0 : g 92 a4 = h 92 a4 := hf 92 a4 (by unfold w_X6_fitting; omega)
      have hz1 : g 87 a2 = h 87 a2 := hf 87 a2 (by unfold w_X6_fitting; omega)
      have hz2 := q0 a2 (by omega) (by omega)
      have hz3 : ∀ i k : Int, 84 ≤ i → i ≤ 96 → g i k = h i k := fun i k p1 p2 => hf i k (by unfold w_X6_fitting; omega)
      refine jGo_blk qX6_fitting_6 ?_
      refine st_gr jo_91 jr_91_0 ?_
      refine st_ai jo_92 (show 0 ≤ a4 by omega) (show a4 < ((3 : Nat) : Int) by omega) (fun v1 ev1 b2 => ?_)
      replace ev1 : v1 = g 92 a4 := ev1
      replace b2 := (jba_92 a4 _).1 b2
      refine And.intro (fun c3 => ?_) (fun c3 => ?_)
      · replace c3 : v1 ≤ x6 := c3
        show jGo E l 109 229 229 _ 137 [.inr (.inr (.inl 97)), .inr (.inr (.inl 84)), .inl a2, .inr (.inr (.inl 91)), .inl a4, .inl x5, .inl x6, x7, x8] [] 229 jr0 g
        refine jGo_blk qX6_fitting_137 ?_
        exact st_r0 (ls := []) ⟨rfl, rfl, hf, x5, rfl, (by omega), (by exact ⟨fun i h0 h1 hb => ⟨by have := (hx0 i h0 h1 hb).1; omega, (hx0 i h0 h1 hb).2⟩, by rw [show h 92 a4 = x6 by omega]; exact hx2⟩)⟩
      · replace c3 : x6 < v1 := by first | exact c3 | exact Int.not_le.mp c3 | exact Int.not_lt.mp c3 | exact Decidable.not_not.mp c3
        have e4 : jw32 (a4 * 6) = a4 * 6 := jzj32 (by omega)
        have e5 : jw32 ((jw32 (a4 * 6)) + x6) = (jw32 (a4 * 6)) + x6 := jzj32 (by omega)
        refine st_gr jo_84 jr_84_3 ?_
        refine st_ai jo_87 (show 0 ≤ a2 by omega) (show a2 < ((40 : Nat) : Int) by omega) (fun v6 ev6 b7 => ?_)
        replace ev6 : v6 = g 87 a2 := ev6
        replace b7 := (jba_87 a2 _).1 b7
        refine st_gr jo_91 jr_91_4 ?_
        refine st_ai jo_96 (show 0 ≤ jw32 ((jw32 (a4 * 6)) + x6) by omega) (show jw32 ((jw32 (a4 * 6)) + x6) < ((18 : Nat) : Int) by omega) (fun v8 ev8 b9 => ?_)
        replace ev8 : v8 = g 96 (jw32 ((jw32 (a4 * 6)) + x6)) := ev8
        replace b9 := (jba_96 (jw32 ((jw32 (a4 * 6)) + x6)) _).1 b9
        have e10 : jw32 (v6 - v8) = v6 - v8 := jzj32 (by omega)
        refine st_gr jo_84 jr_84_1 ?_
        refine st_ai jo_85 (show 0 ≤ a2 by omega) (show a2 < ((40 : Nat) : Int) by omega) (fun v11 ev11 b12 => ?_)
        replace ev11 : v11 = g 85 a2 := ev11
        replace b12 := (jba_85 a2 _).1 b12
        refine st_gr jo_91 jr_91_1 ?_
        refine st_ai jo_93 (show 0 ≤ jw32 ((jw32 (a4 * 6)) + x6) by omega) (show jw32 ((jw32 (a4 * 6)) + x6) < ((18 : Nat) : Int) by omega) (fun v13 ev13 b14 => ?_)
        replace ev13 : v13 = g 93 (jw32 ((jw32 (a4 * 6)) + x6)) := ev13
        replace b14 := (jba_93 (jw32 ((jw32 (a4 * 6)) + x6)) _).1 b14
        refine And.intro (fun c15 => ?_) (fun c15 => ?_)
        · replace c15 : ¬ v11 = v13 := c15
          show jGo E l 109 229 229 _ 131 [.inr (.inr (.inl 97)), .inr (.inr (.inl 84)), .inl a2, .inr (.inr (.inl 91)), .inl a4, .inl x5, .inl x6, .inl (jw32 ((jw32 (a4 * 6)) + x6)), .inl (jw32 (v6 - v8))] [] 229 jr0 g
          refine jGo_blk qX6_fitting_131 ?_
          have e16 : jw32 (x6 + 1) = x6 + 1 := jzj32 (by omega)
          show jGo E l 109 229 229 _ 6 [.inr (.inr (.inl 97)), .inr (.inr (.inl 84)), .inl a2, .inr (.inr (.inl 91)), .inl a4, .inl x5, .inl (jw32 (x6 + 1)), .inl (jw32 ((jw32 (a4 * 6)) + x6)), .inl (jw32 (v6 - v8))] [] 229 jr0 g
          have k17 : a4 * 6 + x6 = jw32 ((jw32 (a4 * 6)) + x6) := by omega
          have hc18 : ¬ jcft h a4 a2 x6 := by
            intro q
            unfold jcft at q
            rw [k17, ← hz3 85 a2 (by decide) (by decide), ← hz3 86 a2 (by decide) (by decide), ← hz3 87 a2 (by decide) (by decide), ← hz3 93 _ (by decide) (by decide), ← hz3 94 _ (by decide) (by decide), ← hz3 95 _ (by decide) (by decide), ← hz3 96 _ (by decide) (by decide)] at q
            omega
          exact ih x5 (jw32 (x6 + 1)) (.inl (jw32 ((jw32 (a4 * 6)) + x6))) (.inl (jw32 (v6 - v8))) g (by omega) (by exact fun i h0 h1 hb => ⟨by have := (hx0 i h0 h1 hb).1; omega, (hx0 i h0 h1 hb).2⟩) (by omega) (by rw [show jw32 (x6 + 1) = x6 + 1 by omega]; exact jFi_no hx2 hc18) hf (by omega)
        · replace c15 : v11 = v13 := by first | exact c15 | exact Int.not_le.mp c15 | exact Int.not_lt.mp c15 | exact Decidable.not_not.mp c15
          refine And.intro (fun c19 => ?_) (fun c19 => ?_)
          · replace c19 : jw32 (v6 - v8) < 0 := c19
            show jGo E l 109 229 229 _ 131 [.inr (.inr (.inl 97)), .inr (.inr (.inl 84)), .inl a2, .inr (.inr (.inl 91)), .inl a4, .inl x5, .inl x6, .inl (jw32 ((jw32 (a4 * 6)) + x6)), .inl (jw32 (v6 - v8))] [] 229 jr0 g
            refine jGo_blk qX6_fitting_131 ?_
            have e20 : jw32 (x6 + 1) = x6 + 1 := jzj32 (by omega)
            show jGo E l 109 229 229 _ 6 [.inr (.inr (.inl 97)), .inr (.inr (.inl 84)), .inl a2, .inr (.inr (.inl 91)), .inl a4, .inl x5, .inl (jw32 (x6 + 1)), .inl (jw32 ((jw32 (a4 * 6)) + x6)), .inl (jw32 (v6 - v8))] [] 229 jr0 g
            have k21 : a4 * 6 + x6 = jw32 ((jw32 (a4 * 6)) + x6) := by omega
            have hc22 : ¬ jcft h a4 a2 x6 := by
              intro q
              unfold jcft at q
              rw [k21, ← hz3 85 a2 (by decide) (by decide), ← hz3 86 a2 (by decide) (by decide), ← hz3 87 a2 (by decide) (by decide), ← hz3 93 _ (by decide) (by decide), ← hz3 94 _ (by decide) (by decide), ← hz3 95 _ (by decide) (by decide), ← hz3 96 _ (by decide) (by decide)] at q
              omega
            exact ih x5 (jw32 (x6 + 1)) (.inl (jw32 ((jw32 (a4 * 6)) + x6))) (.inl (jw32 (v6 - v8))) g (by omega) (by exact fun i h0 h1 hb => ⟨by have := (hx0 i h0 h1 hb).1; omega, (hx0 i h0 h1 hb).2⟩) (by omega) (by rw [show jw32 (x6 + 1) = x6 + 1 by omega]; exact jFi_no hx2 hc22) hf (by omega)
          · replace c19 : 0 ≤ jw32 (v6 - v8) := by first | exact c19 | exact Int.not_le.mp c19 | exact Int.not_lt.mp c19 | exact Decidable.not_not.mp c19
            refine st_gr jo_84 jr_84_2 ?_
            refine st_ai jo_86 (show 0 ≤ a2 by omega) (show a2 < ((40 : Nat) : Int) by omega) (fun v23 ev23 b24 => ?_)
            replace ev23 : v23 = g 86 a2 := ev23
            replace b24 := (jba_86 a2 _).1 b24
            refine st_gr jo_91 jr_91_2 ?_
            refine st_ai jo_94 (show 0 ≤ jw32 ((jw32 (a4 * 6)) + x6) by omega) (show jw32 ((jw32 (a4 * 6)) + x6) < ((18 : Nat) : Int) by omega) (fun v25 ev25 b26 => ?_)
            replace ev25 : v25 = g 94 (jw32 ((jw32 (a4 * 6)) + x6)) := ev25
            replace b26 := (jba_94 (jw32 ((jw32 (a4 * 6)) + x6)) _).1 b26
            have e27 : jw32 (v23 - v25) = v23 - v25 := jzj32 (by omega)
            refine st_m2 rfl (fun v28 ev28 => ?_)
            replace ev28 : v28 = (if 0 ≤ (jw32 (v23 - v25)) then (jw32 (v23 - v25)) else jw32 (-(jw32 (v23 - v25)))) := ev28
            have dv28 : (0 ≤ (jw32 (v23 - v25)) ∧ v28 = (jw32 (v23 - v25))) ∨ ((jw32 (v23 - v25)) < 0 ∧ v28 = -(jw32 (v23 - v25))) := by
              by_cases q9 : 0 ≤ (jw32 (v23 - v25))
              · exact Or.inl ⟨q9, by rw [ev28, if_pos q9]⟩
              · exact Or.inr ⟨by omega, by rw [ev28, if_neg q9]; exact jzj32 (by omega)⟩
            refine st_gr jo_91 jr_91_3 ?_
            refine st_ai jo_95 (show 0 ≤ jw32 ((jw32 (a4 * 6)) + x6) by omega) (show jw32 ((jw32 (a4 * 6)) + x6) < ((18 : Nat) : Int) by omega) (fun v29 ev29 b30 => ?_)
            replace ev29 : v29 = g 95 (jw32 ((jw32 (a4 * 6)) + x6)) := ev29
            replace b30 := (jba_95 (jw32 ((jw32 (a4 * 6)) + x6)) _).1 b30
            refine And.intro (fun c31 => ?_) (fun c31 => ?_)
            · replace c31 : v29 < v28 := c31
              show jGo E l 109 229 229 _ 131 [.inr (.inr (.inl 97)), .inr (.inr (.inl 84)), .inl a2, .inr (.inr (.inl 91)), .inl a4, .inl x5, .inl x6, .inl (jw32 ((jw32 (a4 * 6)) + x6)), .inl (jw32 (v6 - v8))] [] 229 jr0 g
              refine jGo_blk qX6_fitting_131 ?_
              have e32 : jw32 (x6 + 1) = x6 + 1 := jzj32 (by omega)
              show jGo E l 109 229 229 _ 6 [.inr (.inr (.inl 97)), .inr (.inr (.inl 84)), .inl a2, .inr (.inr (.inl 91)), .inl a4, .inl x5, .inl (jw32 (x6 + 1)), .inl (jw32 ((jw32 (a4 * 6)) + x6)), .inl (jw32 (v6 - v8))] [] 229 jr0 g
              have k33 : a4 * 6 + x6 = jw32 ((jw32 (a4 * 6)) + x6) := by omega
              have hc34 : ¬ jcft h a4 a2 x6 := by
                intro q
                unfold jcft at q
                rw [k33, ← hz3 85 a2 (by decide) (by decide), ← hz3 86 a2 (by decide) (by decide), ← hz3 87 a2 (by decide) (by decide), ← hz3 93 _ (by decide) (by decide), ← hz3 94 _ (by decide) (by decide), ← hz3 95 _ (by decide) (by decide), ← hz3 96 _ (by decide) (by decide)] at q
                omega
              exact ih x5 (jw32 (x6 + 1)) (.inl (jw32 ((jw32 (a4 * 6)) + x6))) (.inl (jw32 (v6 - v8))) g (by omega) (by exact fun i h0 h1 hb => ⟨by have := (hx0 i h0 h1 hb).1; omega, (hx0 i h0 h1 hb).2⟩) (by omega) (by rw [show jw32 (x6 + 1) = x6 + 1 by omega]; exact jFi_no hx2 hc34) hf (by omega)
            · replace c31 : v28 ≤ v29 := by first | exact c31 | exact Int.not_le.mp c31 | exact Int.not_lt.mp c31 | exact Decidable.not_not.mp c31
              have e35 := jshl1_5 x6 (by omega) (by omega)
              have e36 := jor63 x5 (jshl 1 x6) (by omega) (by omega) (by omega) (by omega)
              refine st_gr jo_97 jr_97_4 ?_
              have e37 : jw64 ((jw32 (v6 - v8)) * 4750104241) = (jw32 (v6 - v8)) * 4750104241 := j64e (by omega) (by omega)
              refine st_xl (by decide) jx_k6 (jx_l6 E) (show 0 ≤ x6 by omega) (show x6 < ((6 : Nat) : Int) by omega) (fun v38 ev38 => ?_)
              have bv38 : 1 ≤ v38 ∧ v38 ≤ 115856201 := by rw [ev38]; exact jx_w6 E x6 (by omega) (by omega)
              replace ev38 : v38 = jxv E (-6) x6 := ev38
              have e39 := jmul_b (a := a2) (b := v38) (A := 39) (B := 115856201) (by omega) (by omega) (by omega) (by omega)
              have e40 : jw64 (a2 * v38) = a2 * v38 := j64e (by omega) (by omega)
              have e41 : jw64 ((jw64 ((jw32 (v6 - v8)) * 4750104241)) + (jw64 (a2 * v38))) = (jw64 ((jw32 (v6 - v8)) * 4750104241)) + (jw64 (a2 * v38)) := j64e (by omega) (by omega)
              refine st_cs (na := 1) (st := [.inl x6, .inr (.inl (jw64 ((jw64 ((jw32 (v6 - v8)) * 4750104241)) + (jw64 (a2 * v38))))), .inl x6, .inr (.inr (.inl 100))]) rfl rfl rfl (c_X6_lackingNumber x6 g (by omega)) rfl ?_
              rintro _ _ _ ⟨rfl, rfl, t42, rfl, ht42, zt42⟩ kt42
              replace kt42 : -9223372036854775808 ≤ t42 ∧ t42 ≤ 9223372036854775807 := kt42
              replace ht42 : 19456426971176 ≤ t42 ∧ t42 ≤ 19461061219176 := ht42
              replace zt42 : t42 = jlk x6 := zt42
              have e44 : jw64 ((jw64 ((jw64 ((jw32 (v6 - v8)) * 4750104241)) + (jw64 (a2 * v38)))) - t42) = (jw64 ((jw64 ((jw32 (v6 - v8)) * 4750104241)) + (jw64 (a2 * v38)))) - t42 := j64e (by omega) (by omega)
              refine st_sl jo_100 (show 0 ≤ x6 by omega) (show x6 < ((6 : Nat) : Int) by omega) (fun hx => (jba_100 _ _).2 hx) (fun g45 eg45 => ?_)
              replace eg45 : g45 = jup g 100 x6 (jw64 ((jw64 ((jw64 ((jw32 (v6 - v8)) * 4750104241)) + (jw64 (a2 * v38)))) - t42)) := eg45
              have fg45 : jfr w_X6_fitting h g45 := jfr_up hf eg45 (by unfold w_X6_fitting; omega)
              show jGo E l 109 229 229 _ 131 [.inr (.inr (.inl 97)), .inr (.inr (.inl 84)), .inl a2, .inr (.inr (.inl 91)), .inl a4, .inl (jor x5 (jshl 1 x6)), .inl x6, .inl (jw32 ((jw32 (a4 * 6)) + x6)), .inl (jw32 (v6 - v8))] [] 229 jr0 g45
              refine jGo_blk qX6_fitting_131 ?_
              have e46 : jw32 (x6 + 1) = x6 + 1 := jzj32 (by omega)
              show jGo E l 109 229 229 _ 6 [.inr (.inr (.inl 97)), .inr (.inr (.inl 84)), .inl a2, .inr (.inr (.inl 91)), .inl a4, .inl (jor x5 (jshl 1 x6)), .inl (jw32 (x6 + 1)), .inl (jw32 ((jw32 (a4 * 6)) + x6)), .inl (jw32 (v6 - v8))] [] 229 jr0 g45
              have hc47 : jCok (jor x5 (jshl 1 x6)) (jw32 (x6 + 1)) g45 := by
                intro i h0 h1 hb
                rcases jm_or x5 x6 i (by omega) (by omega) (by omega) (by omega) h0 h1 hb with q | q
                · have q2 := hx0 i h0 h1 q
                  rw [jup_o eg45 (by first | exact fun q => absurd q.1 (by decide) | exact fun q => absurd q.2 (by decide) | omega)]
                  exact ⟨by omega, q2.2⟩
                · subst q
                  rw [jup_s eg45]
                  have hk := jlk_b x6 h0 h1
                  exact ⟨by omega, by omega, by omega⟩
              have k48 : a4 * 6 + x6 = jw32 ((jw32 (a4 * 6)) + x6) := by omega
              have hc49 : jcft h a4 a2 x6 := by
                unfold jcft
                rw [k48, ← hz3 85 a2 (by decide) (by decide), ← hz3 86 a2 (by decide) (by decide), ← hz3 87 a2 (by decide) (by decide), ← hz3 93 _ (by decide) (by decide), ← hz3 94 _ (by decide) (by decide), ← hz3 95 _ (by decide) (by decide), ← hz3 96 _ (by decide) (by decide)]
                exact ⟨by omega, by omega, by omega, by omega⟩
              have hv50 : jw64 ((jw64 ((jw64 ((jw32 (v6 - v8)) * 4750104241)) + (jw64 (a2 * v38)))) - t42) = jcI h a4 a2 x6 := by
                have w9 : v38 = jwt.getD x6.toNat 0 := ev38.trans (jx_e6 E x6)
                unfold jcI
                rw [k48, ← w9, ← hz3 87 a2 (by decide) (by decide), ← hz3 96 _ (by decide) (by decide)]
                omega
              exact ih (jor x5 (jshl 1 x6)) (jw32 (x6 + 1)) (.inl (jw32 ((jw32 (a4 * 6)) + x6))) (.inl (jw32 (v6 - v8))) g45 (by omega) (by exact hc47) (by omega) (by rw [show jw32 (x6 + 1) = x6 + 1 by omega]; exact jFi_ys hx2 (by omega) (by omega) hc49 eg45 hv50) fg45 (by omega)
  refine jGo_blk qX6_fitting_0 ?_
  show jGo E l 109 229 229 _ 6 [.inr (.inr (.inl 97)), .inr (.inr (.inl 84)), .inl a2, .inr (.inr (.inl 91)), .inl a4, .inl 0, .inl 0, .inr (.inr (.inr ())), .inr (.inr (.inr ()))] [] 229 jr0 h
  exact (key 1000000000000) 0 0 (.inr (.inr (.inr ()))) (.inr (.inr (.inr ()))) h (by omega) (by exact fun i _ _ hb => absurd hb (by unfold jbt; simp)) (by omega) (by exact jFi_0) f0 (by omega)

def w_X6_offer (i k : Int) : Prop := (i = 99)
def k_X6_offer (a1 : Int) (a2 : Int) (h : JH) (v : Option JV) (r' g : JH) : Prop := r' = jr0 ∧ jfr w_X6_offer h g ∧ v = none ∧ (jLok a2 g ∧ jOP a1 a2 h g)
set_option maxHeartbeats 4000000 in
theorem c_X6_offer {E : JE} {l : Launch} (a1 : Int) (a2 : Int) (h : JH) (p1 : 0 ≤ a1 ∧ a1 ≤ 63) (p2 : 1 ≤ a2 ∧ a2 ≤ 64) (q0 : a2 ∈ jsets) (q1 : jLok a2 h) (q2 : jDok a1 a2 h) : jMt E l 111 [.inr (.inr (.inl 97)), .inl a1, .inl a2] 229 jr0 h (k_X6_offer a1 a2 h) := by
  refine jMt0 (nL := 7) (ls := [.inr (.inr (.inl 97)), .inl a1, .inl a2, .inr (.inr (.inr ())), .inr (.inr (.inr ())), .inr (.inr (.inr ())), .inr (.inr (.inr ()))]) (by decide +kernel) (by decide +kernel) (by decide +kernel) rfl rfl ?_
  have f0 : jfr w_X6_offer h h := jfr_rf _ _
  have key : ∀ N : Nat, (∀ (x3 : Int) (x4 : JV) (x5 : JV) (x6 : JV) (g : JH), (0 ≤ x3 ∧ x3 ≤ 63) → (jLok a2 g) → (jO1 a1 a2 h x3 g) → (x3 < a2) → jfr w_X6_offer h g → (x3 - 0) * 1000000 + 999999 < (N : Int) → jGo E l 111 229 229 (jRK (k_X6_offer a1 a2 h)) 4 [.inr (.inr (.inl 97)), .inl a1, .inl a2, .inl x3, x4, x5, x6] [] 229 jr0 g) ∧
      (∀ (x3 : Int) (x4 : Int) (x5 : Int) (x6 : JV) (g : JH), (1 ≤ a1 ∧ a1 ≤ 63 ∧ 1 ≤ x3 ∧ x3 ≤ 63 ∧ 0 ≤ x4 ∧ x4 ≤ 63 ∧ 0 ≤ x5 ∧ x5 ≤ 6) → (jLok a2 g) → (x4 = jand x3 a1) → (jO2 a1 a2 h x3 x5 g) → (x3 < a2) → jfr w_X6_offer h g → (x3 - 0) * 1000000 + (6 - x5) < (N : Int) → jGo E l 111 229 229 (jRK (k_X6_offer a1 a2 h)) 20 [.inr (.inr (.inl 97)), .inl a1, .inl a2, .inl x3, .inl x4, .inl x5, x6] [] 229 jr0 g) := by
    intro N
    induction N with
    | zero => exact ⟨fun _ _ _ _ _ hi hx0 hx1 hx2 _ hN => absurd hN (by omega), fun _ _ _ _ _ hi hx0 hx1 hx2 hx3 _ hN => absurd hN (by omega)⟩
    | succ N ih =>
      refine ⟨?_, ?_⟩
      · intro x3 x4 x5 x6 g hi hx0 hx1 hx2 hf hN
        refine jGo_blk qX6_offer_4 ?_
        refine And.intro (fun c1 => ?_) (fun c1 => ?_)
        · replace c1 : x3 ≤ 0 := c1
          show jGo E l 111 229 229 _ 101 [.inr (.inr (.inl 97)), .inl a1, .inl a2, .inl x3, x4, x5, x6] [] 229 jr0 g
          refine jGo_blk qX6_offer_101 ?_
          exact ⟨rfl, rfl, hf, rfl, (by exact ⟨hx0, jO_x hx1 (by omega)⟩)⟩
        · replace c1 : 0 < x3 := by first | exact c1 | exact Int.not_le.mp c1 | exact Int.not_lt.mp c1 | exact Decidable.not_not.mp c1
          refine And.intro (fun c2 => ?_) (fun c2 => ?_)
          · replace c2 : a1 = 0 := c2
            show jGo E l 111 229 229 _ 101 [.inr (.inr (.inl 97)), .inl a1, .inl a2, .inl x3, x4, x5, x6] [] 229 jr0 g
            refine jGo_blk qX6_offer_101 ?_
            exact ⟨rfl, rfl, hf, rfl, (by exact ⟨hx0, jO_x hx1 (by omega)⟩)⟩
          · replace c2 : ¬ a1 = 0 := by first | exact c2 | exact Int.not_le.mp c2 | exact Int.not_lt.mp c2 | exact Decidable.not_not.mp c2
            have e3 := jand_le x3 a1 (by omega) (by omega)
            show jGo E l 111 229 229 _ 20 [.inr (.inr (.inl 97)), .inl a1, .inl a2, .inl x3, .inl (jand x3 a1), .inl 0, x6] [] 229 jr0 g
            exact ih.2 x3 (jand x3 a1) 0 x6 g (by omega) (by exact hx0) (by first | rfl | assumption) (by exact jO_i hx1 (by omega) (by omega)) (by omega) hf (by omega)
      · intro x3 x4 x5 x6 g hi hx0 hx1 hx2 hx3 hf hN
        refine jGo_blk qX6_offer_20 ?_
        refine And.intro (fun c4 => ?_) (fun c4 => ?_)
        · replace c4 : 6 ≤ x5 := c4
          show jGo E l 111 229 229 _ 95 [.inr (.inr (.inl 97)), .inl a1, .inl a2, .inl x3, .inl x4, .inl x5, x6] [] 229 jr0 g
          refine jGo_blk qX6_offer_95 ?_
          have e5 : jw32 (x3 + (-1)) = x3 + (-1) := jzj32 (by omega)
          show jGo E l 111 229 229 _ 4 [.inr (.inr (.inl 97)), .inl a1, .inl a2, .inl (jw32 (x3 + (-1))), .inl x4, .inl x5, x6] [] 229 jr0 g
          exact ih.1 (jw32 (x3 + (-1))) (.inl x4) (.inl x5) x6 g (by omega) (by exact hx0) (by rw [show jw32 (x3 + (-1)) = x3 - 1 by omega]; have y9 := hx2; rw [show x5 = 6 by omega] at y9; exact jO_e y9 (by omega) (by omega) (by omega)) (by omega) hf (by omega)
        · replace c4 : x5 < 6 := by first | exact c4 | exact Int.not_le.mp c4 | exact Int.not_lt.mp c4 | exact Decidable.not_not.mp c4
          have e6 := jshl1_5 x5 (by omega) (by omega)
          have e7 := jand_le x4 (jshl 1 x5) (by omega) (by omega)
          refine And.intro (fun c8 => ?_) (fun c8 => ?_)
          · replace c8 : jand x4 (jshl 1 x5) = 0 := c8
            show jGo E l 111 229 229 _ 89 [.inr (.inr (.inl 97)), .inl a1, .inl a2, .inl x3, .inl x4, .inl x5, .inl (jshl 1 x5)] [] 229 jr0 g
            refine jGo_blk qX6_offer_89 ?_
            have e9 : jw32 (x5 + 1) = x5 + 1 := jzj32 (by omega)
            show jGo E l 111 229 229 _ 20 [.inr (.inr (.inl 97)), .inl a1, .inl a2, .inl x3, .inl x4, .inl (jw32 (x5 + 1)), .inl (jshl 1 x5)] [] 229 jr0 g
            exact ih.2 x3 x4 (jw32 (x5 + 1)) (.inl (jshl 1 x5)) g (by omega) (by exact hx0) (by first | rfl | assumption) (by rw [show jw32 (x5 + 1) = x5 + 1 by omega]; exact jO_n hx2 (by omega) (by omega) (by omega) (by omega) (by omega) (Or.inl (by rw [← hx1]; assumption))) (by omega) hf (by omega)
          · replace c8 : ¬ jand x4 (jshl 1 x5) = 0 := by first | exact c8 | exact Int.not_le.mp c8 | exact Int.not_lt.mp c8 | exact Decidable.not_not.mp c8
            refine st_gr jo_97 jr_97_3 ?_
            have e10 := jxor63 x3 (jshl 1 x5) (by omega) (by omega) (by omega) (by omega)
            refine st_li jo_99 (show 0 ≤ jxor x3 (jshl 1 x5) by omega) (show jxor x3 (jshl 1 x5) < ((64 : Nat) : Int) by omega) (fun v11 ev11 b12 => ?_)
            replace ev11 : v11 = g 99 (jxor x3 (jshl 1 x5)) := ev11
            have e13 := jlc_u v11 4611686018427387904
            refine And.intro (fun c14 => ?_) (fun c14 => ?_)
            · replace c14 : jlc v11 4611686018427387904 = 0 := c14
              show jGo E l 111 229 229 _ 89 [.inr (.inr (.inl 97)), .inl a1, .inl a2, .inl x3, .inl x4, .inl x5, .inl (jshl 1 x5)] [] 229 jr0 g
              refine jGo_blk qX6_offer_89 ?_
              have e15 : jw32 (x5 + 1) = x5 + 1 := jzj32 (by omega)
              show jGo E l 111 229 229 _ 20 [.inr (.inr (.inl 97)), .inl a1, .inl a2, .inl x3, .inl x4, .inl (jw32 (x5 + 1)), .inl (jshl 1 x5)] [] 229 jr0 g
              exact ih.2 x3 x4 (jw32 (x5 + 1)) (.inl (jshl 1 x5)) g (by omega) (by exact hx0) (by first | rfl | assumption) (by rw [show jw32 (x5 + 1) = x5 + 1 by omega]; exact jO_n hx2 (by omega) (by omega) (by omega) (by omega) (by omega) (Or.inr ⟨by rw [← hx1]; assumption, by omega⟩)) (by omega) hf (by omega)
            · replace c14 : ¬ jlc v11 4611686018427387904 = 0 := by first | exact c14 | exact Int.not_le.mp c14 | exact Int.not_lt.mp c14 | exact Decidable.not_not.mp c14
              refine st_gr jo_97 jr_97_3 ?_
              refine st_gr jo_97 jr_97_3 ?_
              refine st_li jo_99 (show 0 ≤ x3 by omega) (show x3 < ((64 : Nat) : Int) by omega) (fun v16 ev16 b17 => ?_)
              replace ev16 : v16 = g 99 x3 := ev16
              refine st_gr jo_97 jr_97_3 ?_
              have e18 := jxor63 x3 (jshl 1 x5) (by omega) (by omega) (by omega) (by omega)
              refine st_li jo_99 (show 0 ≤ jxor x3 (jshl 1 x5) by omega) (show jxor x3 (jshl 1 x5) < ((64 : Nat) : Int) by omega) (fun v19 ev19 b20 => ?_)
              replace ev19 : v19 = g 99 (jxor x3 (jshl 1 x5)) := ev19
              refine st_gr jo_97 jr_97_4 ?_
              refine st_li jo_100 (show 0 ≤ x5 by omega) (show x5 < ((6 : Nat) : Int) by omega) (fun v21 ev21 b22 => ?_)
              replace ev21 : v21 = g 100 x5 := ev21
              have hbt := jm_bit x3 a1 x5 (by omega) (by omega) (by omega) (by omega) (by omega) (by omega) (by rw [← hx1]; assumption)
              have hD := q2 x5 (by omega) (by omega) hbt.2
              have hst := jm_step a2 x3 x5 q0 (by omega) (by omega) (by omega) (by omega) hbt.1 hD.1
              have hxr := jxor63 x3 (jshl 1 x5) (by omega) (by omega) (by omega) (by omega)
              have hl1 := hx0 (jxor x3 (jshl 1 x5)) hxr.1 hxr.2
              have hl2 := hx0 x3 (by omega) (by omega)
              have h100 : g 100 x5 = h 100 x5 := hf 100 x5 (by unfold w_X6_offer; omega)
              have hlb := jLs_b a2 x3 q0 (by omega) (by omega)
              have hkb := jlk_b x5 (by omega) (by omega)
              have hD2 := hD.2; clear hD
              have e23 : jw64 (v19 + v21) = v19 + v21 := j64e (by omega) (by omega)
              refine st_m3 rfl (fun v24 m1v24 m2v24 m3v24 => ?_)
              replace m1v24 : v24 ≤ v16 := m1v24; replace m2v24 : v24 ≤ jw64 (v19 + v21) := m2v24; replace m3v24 : v24 = v16 ∨ v24 = jw64 (v19 + v21) := m3v24
              refine st_sl jo_99 (show 0 ≤ x3 by omega) (show x3 < ((64 : Nat) : Int) by omega) (fun hx => (jba_99 _ _).2 hx) (fun g25 eg25 => ?_)
              replace eg25 : g25 = jup g 99 x3 v24 := eg25
              have fg25 : jfr w_X6_offer h g25 := jfr_up hf eg25 (by unfold w_X6_offer; omega)
              show jGo E l 111 229 229 _ 89 [.inr (.inr (.inl 97)), .inl a1, .inl a2, .inl x3, .inl x4, .inl x5, .inl (jshl 1 x5)] [] 229 jr0 g25
              refine jGo_blk qX6_offer_89 ?_
              have e26 : jw32 (x5 + 1) = x5 + 1 := jzj32 (by omega)
              show jGo E l 111 229 229 _ 20 [.inr (.inr (.inl 97)), .inl a1, .inl a2, .inl x3, .inl x4, .inl (jw32 (x5 + 1)), .inl (jshl 1 x5)] [] 229 jr0 g25
              exact ih.2 x3 x4 (jw32 (x5 + 1)) (.inl (jshl 1 x5)) g25 (by omega) (by exact jLok_up hx0 eg25 (by omega)) (by first | rfl | assumption) (by rw [show jw32 (x5 + 1) = x5 + 1 by omega]; exact jO_u (w := jw64 (v19 + v21)) hx2 (by omega) (by omega) (by omega) (by omega) (by omega) (by rw [← hx1]; assumption) (by omega) (by omega) eg25 (by omega) (by omega) (by omega)) (by omega) fg25 (by omega)
  refine jGo_blk qX6_offer_0 ?_
  have e27 : jw32 (a2 - 1) = a2 - 1 := jzj32 (by omega)
  show jGo E l 111 229 229 _ 4 [.inr (.inr (.inl 97)), .inl a1, .inl a2, .inl (jw32 (a2 - 1)), .inr (.inr (.inr ())), .inr (.inr (.inr ())), .inr (.inr (.inr ()))] [] 229 jr0 h
  exact (key 1000000000000000000).1 (jw32 (a2 - 1)) (.inr (.inr (.inr ()))) (.inr (.inr (.inr ()))) (.inr (.inr (.inr ()))) h (by omega) (by exact q1) (by rw [show jw32 (a2 - 1) = a2 - 1 by omega]; exact fun s a => (if_neg (by omega)).symm) (by omega) f0 (by omega)

def w_X6_readOff (i k : Int) : Prop := (i = 98) ∨ (i = 97 ∧ 0 ≤ k ∧ k ≤ 1)
def k_X6_readOff (a1 : Int) (a2 : Int) (h : JH) (v : Option JV) (r' g : JH) : Prop := r' = jr0 ∧ jfr w_X6_readOff h g ∧ v = none ∧ (jRo1 a1 a2 g ∧ g 97 1 = a1 / 4750104241 % 4096)
set_option maxHeartbeats 4000000 in
theorem c_X6_readOff {E : JE} {l : Launch} (a1 : Int) (a2 : Int) (h : JH) (p1 : 0 ≤ a1 ∧ a1 ≤ 9223372036854775807) (p2 : 0 ≤ a2 ∧ a2 ≤ 6) : jMt E l 112 [.inr (.inr (.inl 97)), .inr (.inl a1), .inl a2] 229 jr0 h (k_X6_readOff a1 a2 h) := by
  refine jMt0 (nL := 6) (ls := [.inr (.inr (.inl 97)), .inr (.inl a1), .inr (.inr (.inr ())), .inl a2, .inr (.inr (.inr ())), .inr (.inr (.inr ()))]) (by decide +kernel) (by decide +kernel) (by decide +kernel) rfl rfl ?_
  have f0 : jfr w_X6_readOff h h := jfr_rf _ _
  have key : ∀ N : Nat, (∀ (x4 : Int) (x5 : JV) (g : JH), (0 ≤ x4 ∧ x4 ≤ 6) → (jRo1 a1 x4 g) → (g 97 1 = a1 / 4750104241 % 4096) → (x4 ≤ a2) → jfr w_X6_readOff h g → (6 - x4) < (N : Int) → jGo E l 112 229 229 (jRK (k_X6_readOff a1 a2 h)) 22 [.inr (.inr (.inl 97)), .inr (.inl a1), .inr (.inr (.inr ())), .inl a2, .inl x4, x5] [] 229 jr0 g) := by
    intro N
    induction N with
    | zero => exact fun _ _ _ hi hx0 hx1 hx2 _ hN => absurd hN (by omega)
    | succ N ih =>
      intro x4 x5 g hi hx0 hx1 hx2 hf hN
      have hm0 := jRo_b hx0 (by omega)
      refine jGo_blk qX6_readOff_22 ?_
      refine And.intro (fun c1 => ?_) (fun c1 => ?_)
      · replace c1 : a2 ≤ x4 := c1
        show jGo E l 112 229 229 _ 87 [.inr (.inr (.inl 97)), .inr (.inl a1), .inr (.inr (.inr ())), .inl a2, .inl x4, x5] [] 229 jr0 g
        refine jGo_blk qX6_readOff_87 ?_
        exact ⟨rfl, rfl, hf, rfl, (by exact ⟨by rw [show a2 = x4 by omega]; exact hx0, hx1⟩)⟩
      · replace c1 : x4 < a2 := by first | exact c1 | exact Int.not_le.mp c1 | exact Int.not_lt.mp c1 | exact Decidable.not_not.mp c1
        refine st_xl (by decide) jx_k6 (jx_l6 E) (show 0 ≤ x4 by omega) (show x4 < ((6 : Nat) : Int) by omega) (fun v2 ev2 => ?_)
        have bv2 : 1 ≤ v2 ∧ v2 ≤ 115856201 := by rw [ev2]; exact jx_w6 E x4 (by omega) (by omega)
        replace ev2 : v2 = jxv E (-6) x4 := ev2
        refine And.intro (show v2 ≠ 0 by omega) ?_
        have e3 := j64d (x := a1) (y := v2) (by omega) (by omega) (by omega)
        refine And.intro (show 41 ≠ 0 by omega) ?_
        have e4 := (jmd (x := (jw64 (a1.tdiv v2))) (y := 41) (by omega) (by omega)).2
        have e5 : jw32 ((jw64 (a1.tdiv v2)).tmod 41) = (jw64 (a1.tdiv v2)).tmod 41 := jzj32 (by omega)
        refine st_gr jo_97 jr_97_2 ?_
        refine And.intro (fun c6 => ?_) (fun c6 => ?_)
        · replace c6 : ¬ jw32 ((jw64 (a1.tdiv v2)).tmod 41) = 40 := c6
          show jGo E l 112 229 229 _ 61 [.inr (.inr (.inl 97)), .inr (.inl a1), .inr (.inr (.inr ())), .inl a2, .inl x4, .inl (jw32 ((jw64 (a1.tdiv v2)).tmod 41))] [.inl x4, .inr (.inr (.inl 98))] 229 jr0 g
          refine jGo_blk qX6_readOff_61 ?_
          show jGo E l 112 229 229 _ 63 [.inr (.inr (.inl 97)), .inr (.inl a1), .inr (.inr (.inr ())), .inl a2, .inl x4, .inl (jw32 ((jw64 (a1.tdiv v2)).tmod 41))] [.inl (jw32 ((jw64 (a1.tdiv v2)).tmod 41)), .inl x4, .inr (.inr (.inl 98))] 229 jr0 g
          refine jGo_blk qX6_readOff_63 ?_
          refine st_si jo_98 (show 0 ≤ x4 by omega) (show x4 < ((6 : Nat) : Int) by omega) (fun hx => (jba_98 _ _).2 (show (0 ≤ jw32 ((jw64 (a1.tdiv v2)).tmod 41) ∧ jw32 ((jw64 (a1.tdiv v2)).tmod 41) ≤ 39) ∨ jw32 ((jw64 (a1.tdiv v2)).tmod 41) = -9 by omega)) (fun g7 eg7 => ?_)
          replace eg7 : g7 = jup g 98 x4 (jw32 ((jw64 (a1.tdiv v2)).tmod 41)) := eg7
          have fg7 : jfr w_X6_readOff h g7 := jfr_up hf eg7 (by unfold w_X6_readOff; omega)
          have e8 : g7 98 x4 = jw32 ((jw64 (a1.tdiv v2)).tmod 41) := jup_s eg7
          refine And.intro (fun c9 => ?_) (fun c9 => ?_)
          · replace c9 : jw32 ((jw64 (a1.tdiv v2)).tmod 41) = 40 := c9
            exfalso; omega
          · replace c9 : ¬ jw32 ((jw64 (a1.tdiv v2)).tmod 41) = 40 := by first | exact c9 | exact Int.not_le.mp c9 | exact Int.not_lt.mp c9 | exact Decidable.not_not.mp c9
            refine st_gi jo_97 (fun v10 ev10 b11 => ?_)
            replace ev10 : v10 = g7 97 0 := ev10
            replace b11 := (jbf_6_0 jo_97 _).1 b11
            have e12 : g7 97 0 = g 97 0 := jup_o eg7 (by first | exact fun q => absurd q.1 (by decide) | exact fun q => absurd q.2 (by decide) | omega)
            refine st_pi jo_97 (fun hx => (jbf_6_0 jo_97 _).2 hx) (fun g13 eg13 => ?_)
            replace eg13 : g13 = jup g7 97 0 (jw32 (v10 + 1)) := eg13
            have fg13 : jfr w_X6_readOff h g13 := jfr_up fg7 eg13 (by unfold w_X6_readOff; omega)
            have e14 : g13 97 0 = jw32 (v10 + 1) := jup_s eg13
            show jGo E l 112 229 229 _ 81 [.inr (.inr (.inl 97)), .inr (.inl a1), .inr (.inr (.inr ())), .inl a2, .inl x4, .inl (jw32 ((jw64 (a1.tdiv v2)).tmod 41))] [] 229 jr0 g13
            refine jGo_blk qX6_readOff_81 ?_
            have e15 : jw32 (x4 + 1) = x4 + 1 := jzj32 (by omega)
            show jGo E l 112 229 229 _ 22 [.inr (.inr (.inl 97)), .inr (.inl a1), .inr (.inr (.inr ())), .inl a2, .inl (jw32 (x4 + 1)), .inl (jw32 ((jw64 (a1.tdiv v2)).tmod 41))] [] 229 jr0 g13
            have y16 : jw32 ((jw64 (a1.tdiv v2)).tmod 41) = a1 / jW x4.toNat % 41 := by rw [show jW x4.toNat = v2 from (ev2.trans (jx_e6 E x4)).symm]; exact jdgt (by omega) (by omega) (by omega) (by decide) (by decide)
            have y17 : g13 98 x4 = if jw32 ((jw64 (a1.tdiv v2)).tmod 41) = 40 then -9 else jw32 ((jw64 (a1.tdiv v2)).tmod 41) := (jup_o eg13 (by first | exact fun q => absurd q.1 (by decide) | exact fun q => absurd q.2 (by decide) | omega)).trans ((jup_s eg7).trans (if_neg (by omega)).symm)
            have y18 : g13 97 0 = g 97 0 + (if jw32 ((jw64 (a1.tdiv v2)).tmod 41) = 40 then 0 else 1) := by rw [if_neg (show ¬ jw32 ((jw64 (a1.tdiv v2)).tmod 41) = 40 by omega), jup_s eg13, jzj32 (by omega)]; omega
            have e19 : g13 97 1 = g7 97 1 := jup_o eg13 (by first | exact fun q => absurd q.1 (by decide) | exact fun q => absurd q.2 (by decide) | omega)
            have e20 : g7 97 1 = g 97 1 := jup_o eg7 (by first | exact fun q => absurd q.1 (by decide) | exact fun q => absurd q.2 (by decide) | omega)
            exact ih (jw32 (x4 + 1)) (.inl (jw32 ((jw64 (a1.tdiv v2)).tmod 41))) g13 (by omega) (by rw [show jw32 (x4 + 1) = x4 + 1 by omega]; exact jRo_s hx0 (by omega) y16 (fun i q => ((jup_o eg13 (by first | exact fun q => absurd q.1 (by decide) | exact fun q => absurd q.2 (by decide) | omega)).trans (jup_o eg7 (by first | exact fun q => absurd q.1 (by decide) | exact fun q => absurd q.2 (by decide) | omega)))) y17 y18) (by exact ((jup_o eg13 (by first | exact fun q => absurd q.1 (by decide) | exact fun q => absurd q.2 (by decide) | omega)).trans (jup_o eg7 (by first | exact fun q => absurd q.1 (by decide) | exact fun q => absurd q.2 (by decide) | omega))).trans hx1) (by omega) fg13 (by omega)
        · replace c6 : jw32 ((jw64 (a1.tdiv v2)).tmod 41) = 40 := by first | exact c6 | exact Int.not_le.mp c6 | exact Int.not_lt.mp c6 | exact Decidable.not_not.mp c6
          show jGo E l 112 229 229 _ 63 [.inr (.inr (.inl 97)), .inr (.inl a1), .inr (.inr (.inr ())), .inl a2, .inl x4, .inl (jw32 ((jw64 (a1.tdiv v2)).tmod 41))] [.inl (-9), .inl x4, .inr (.inr (.inl 98))] 229 jr0 g
          refine jGo_blk qX6_readOff_63 ?_
          refine st_si jo_98 (show 0 ≤ x4 by omega) (show x4 < ((6 : Nat) : Int) by omega) (fun hx => (jba_98 _ _).2 (show (0 ≤ (-9) ∧ (-9) ≤ 39) ∨ (-9) = -9 by omega)) (fun g21 eg21 => ?_)
          replace eg21 : g21 = jup g 98 x4 (-9) := eg21
          have fg21 : jfr w_X6_readOff h g21 := jfr_up hf eg21 (by unfold w_X6_readOff; omega)
          have e22 : g21 98 x4 = (-9) := jup_s eg21
          refine And.intro (fun c23 => ?_) (fun c23 => ?_)
          · replace c23 : jw32 ((jw64 (a1.tdiv v2)).tmod 41) = 40 := c23
            show jGo E l 112 229 229 _ 81 [.inr (.inr (.inl 97)), .inr (.inl a1), .inr (.inr (.inr ())), .inl a2, .inl x4, .inl (jw32 ((jw64 (a1.tdiv v2)).tmod 41))] [] 229 jr0 g21
            refine jGo_blk qX6_readOff_81 ?_
            have e24 : jw32 (x4 + 1) = x4 + 1 := jzj32 (by omega)
            show jGo E l 112 229 229 _ 22 [.inr (.inr (.inl 97)), .inr (.inl a1), .inr (.inr (.inr ())), .inl a2, .inl (jw32 (x4 + 1)), .inl (jw32 ((jw64 (a1.tdiv v2)).tmod 41))] [] 229 jr0 g21
            have y25 : jw32 ((jw64 (a1.tdiv v2)).tmod 41) = a1 / jW x4.toNat % 41 := by rw [show jW x4.toNat = v2 from (ev2.trans (jx_e6 E x4)).symm]; exact jdgt (by omega) (by omega) (by omega) (by decide) (by decide)
            have y26 : g21 98 x4 = if jw32 ((jw64 (a1.tdiv v2)).tmod 41) = 40 then -9 else jw32 ((jw64 (a1.tdiv v2)).tmod 41) := (jup_s eg21).trans (if_pos (by omega)).symm
            have y27 : g21 97 0 = g 97 0 + (if jw32 ((jw64 (a1.tdiv v2)).tmod 41) = 40 then 0 else 1) := by rw [if_pos (show jw32 ((jw64 (a1.tdiv v2)).tmod 41) = 40 by omega), jup_o eg21 (by first | exact fun q => absurd q.1 (by decide) | exact fun q => absurd q.2 (by decide) | omega)]; omega
            have e28 : g21 97 1 = g 97 1 := jup_o eg21 (by first | exact fun q => absurd q.1 (by decide) | exact fun q => absurd q.2 (by decide) | omega)
            exact ih (jw32 (x4 + 1)) (.inl (jw32 ((jw64 (a1.tdiv v2)).tmod 41))) g21 (by omega) (by rw [show jw32 (x4 + 1) = x4 + 1 by omega]; exact jRo_s hx0 (by omega) y25 (fun i q => (jup_o eg21 (by first | exact fun q => absurd q.1 (by decide) | exact fun q => absurd q.2 (by decide) | omega))) y26 y27) (by exact (jup_o eg21 (by first | exact fun q => absurd q.1 (by decide) | exact fun q => absurd q.2 (by decide) | omega)).trans hx1) (by omega) fg21 (by omega)
          · replace c23 : ¬ jw32 ((jw64 (a1.tdiv v2)).tmod 41) = 40 := by first | exact c23 | exact Int.not_le.mp c23 | exact Int.not_lt.mp c23 | exact Decidable.not_not.mp c23
            exfalso; omega
  refine jGo_blk qX6_readOff_0 ?_
  refine And.intro (show 4750104241 ≠ 0 by omega) ?_
  have e29 := j64d (x := a1) (y := 4750104241) (by omega) (by omega) (by omega)
  refine And.intro (show 4096 ≠ 0 by omega) ?_
  have e30 := (jmd (x := (jw64 (a1.tdiv 4750104241))) (y := 4096) (by omega) (by omega)).2
  have e31 : jw32 ((jw64 (a1.tdiv 4750104241)).tmod 4096) = (jw64 (a1.tdiv 4750104241)).tmod 4096 := jzj32 (by omega)
  refine st_pi jo_97 (fun hx => (jbf_6_1 jo_97 _).2 hx) (fun g32 eg32 => ?_)
  replace eg32 : g32 = jup h 97 1 (jw32 ((jw64 (a1.tdiv 4750104241)).tmod 4096)) := eg32
  have fg32 : jfr w_X6_readOff h g32 := jfr_up f0 eg32 (by unfold w_X6_readOff; omega)
  have e33 : g32 97 1 = jw32 ((jw64 (a1.tdiv 4750104241)).tmod 4096) := jup_s eg32
  refine st_pi jo_97 (fun hx => (jbf_6_0 jo_97 _).2 hx) (fun g34 eg34 => ?_)
  replace eg34 : g34 = jup g32 97 0 0 := eg34
  have fg34 : jfr w_X6_readOff h g34 := jfr_up fg32 eg34 (by unfold w_X6_readOff; omega)
  have e35 : g34 97 0 = 0 := jup_s eg34
  show jGo E l 112 229 229 _ 22 [.inr (.inr (.inl 97)), .inr (.inl a1), .inr (.inr (.inr ())), .inl a2, .inl 0, .inr (.inr (.inr ()))] [] 229 jr0 g34
  have e36 : g34 97 1 = g32 97 1 := jup_o eg34 (by first | exact fun q => absurd q.1 (by decide) | exact fun q => absurd q.2 (by decide) | omega)
  exact (key 1000000000000) 0 (.inr (.inr (.inr ()))) g34 (by omega) (by exact jRo_0 (by omega)) (by rw [jup_o eg34 (by first | exact fun q => absurd q.1 (by decide) | exact fun q => absurd q.2 (by decide) | omega), jup_s eg32]; exact jdgt (by omega) (by omega) (by decide) (by decide) (by decide)) (by omega) fg34 (by omega)

def w_X6_solve (i k : Int) : Prop := (98 ≤ i ∧ i ≤ 100) ∨ (i = 97 ∧ 0 ≤ k ∧ k ≤ 1)
theorem ws_X6_fitting__X6_solve (i k : Int) (q : w_X6_fitting i k) : w_X6_solve i k := by
  unfold w_X6_fitting at q; unfold w_X6_solve
  exact (Or.inl (by omega))
theorem ws_X6_offer__X6_solve (i k : Int) (q : w_X6_offer i k) : w_X6_solve i k := by
  unfold w_X6_offer at q; unfold w_X6_solve
  exact (Or.inl (by omega))
theorem ws_X6_readOff__X6_solve (i k : Int) (q : w_X6_readOff i k) : w_X6_solve i k := by
  unfold w_X6_readOff at q; unfold w_X6_solve
  rcases q with q | q
  · exact (Or.inl (by omega))
  · exact (Or.inr (by omega))
def k_X6_solve (a3 : Int) (h : JH) (v : Option JV) (r' g : JH) : Prop := r' = jr0 ∧ jfr w_X6_solve h g ∧ v = none ∧ (jMtP a3 h g)
set_option maxHeartbeats 4000000 in
theorem c_X6_solve {E : JE} {l : Launch} (a3 : Int) (h : JH) (p3 : 0 ≤ a3 ∧ a3 ≤ 2) (q0 : jGok h) : jMt E l 113 [.inr (.inr (.inl 97)), .inr (.inr (.inl 84)), .inr (.inr (.inl 91)), .inl a3] 229 jr0 h (k_X6_solve a3 h) := by
  refine jMt0 (nL := 9) (ls := [.inr (.inr (.inl 97)), .inr (.inr (.inl 84)), .inr (.inr (.inl 91)), .inl a3, .inr (.inr (.inr ())), .inr (.inr (.inr ())), .inr (.inr (.inr ())), .inr (.inr (.inr ())), .inr (.inr (.inr ()))]) (by decide +kernel) (by decide +kernel) (by decide +kernel) rfl rfl ?_
  have f0 : jfr w_X6_solve h h := jfr_rf _ _
  refine jGo_bd (fun hbd => ?_)
  have hb0 := (jba_92 a3 _).1 (hbd 92 a3)
  have hz5 := (jbf_3_0 jo_84 _).1 (hbd 84 0)
  have key : ∀ N : Nat, (∀ (x4 : Int) (x5 : Int) (x6 : Int) (g : JH), (0 ≤ x4 ∧ x4 ≤ 6 ∧ 1 ≤ x5 ∧ x5 ≤ 64 ∧ 0 ≤ x6 ∧ x6 ≤ 6) → ((∀ s : Int, 1 ≤ s → s ≤ 63 → g 99 s = 4611686018427387904) ∧ g 99 0 = jLi x6) → (x5 = jshl 1 x4) → (x4 = h 92 a3 ∧ x6 ≤ x4) → jfr w_X6_solve h g → (6 - x6) + 40000 < (N : Int) → jGo E l 113 229 229 (jRK (k_X6_solve a3 h)) 34 [.inr (.inr (.inl 97)), .inr (.inr (.inl 84)), .inr (.inr (.inl 91)), .inl a3, .inl x4, .inl x5, .inl x6, .inr (.inr (.inr ())), .inr (.inr (.inr ()))] [] 229 jr0 g) ∧
      (∀ (x4 : Int) (x5 : Int) (x6 : Int) (g : JH), (0 ≤ x4 ∧ x4 ≤ 6 ∧ 1 ≤ x5 ∧ x5 ≤ 64 ∧ 0 ≤ x6 ∧ x6 ≤ 40) → (jLok x5 g) → (x5 = jshl 1 x4) → (x4 = h 92 a3) → (jS1 h a3 x6 g) → (x6 ≤ h 84 0) → jfr w_X6_solve h g → (40 - x6) + 20000 < (N : Int) → jGo E l 113 229 229 (jRK (k_X6_solve a3 h)) 64 [.inr (.inr (.inl 97)), .inr (.inr (.inl 84)), .inr (.inr (.inl 91)), .inl a3, .inl x4, .inl x5, .inl x6, .inr (.inr (.inr ())), .inr (.inr (.inr ()))] [] 229 jr0 g) ∧
      (∀ (x4 : Int) (x5 : Int) (x6 : Int) (x8 : Int) (g : JH), (0 ≤ x4 ∧ x4 ≤ 6 ∧ 1 ≤ x5 ∧ x5 ≤ 64 ∧ 1 ≤ x8 ∧ x8 ≤ 64) → (jLok x5 g) → (x5 = jshl 1 x4) → (0 ≤ x6 ∧ x6 ≤ 4611686018427387904) → (jS1 h a3 (h 84 0) g) → ((∀ z : Nat, (z : Int) < x8 → x6 ≤ g 99 z) ∧ ∃ z : Nat, (z : Int) < x8 ∧ x6 = g 99 z) → (x8 ≤ x5) → (x4 = h 92 a3) → jfr w_X6_solve h g → (64 - x8) < (N : Int) → jGo E l 113 229 229 (jRK (k_X6_solve a3 h)) 114 [.inr (.inr (.inl 97)), .inr (.inr (.inl 84)), .inr (.inr (.inl 91)), .inl a3, .inl x4, .inl x5, .inr (.inl x6), .inr (.inr (.inr ())), .inl x8] [] 229 jr0 g) := by
    intro N
    induction N with
    | zero => exact ⟨fun _ _ _ _ hi hx0 hx1 hx2 _ hN => absurd hN (by omega), fun _ _ _ _ hi hx0 hx1 hx2 hx3 hx4 _ hN => absurd hN (by omega), fun _ _ _ _ _ hi hx0 hx1 hx2 hx3 hx4 hx5 hx6 _ hN => absurd hN (by omega)⟩
    | succ N ih =>
      refine ⟨?_, ?_, ?_⟩
      · intro x4 x5 x6 g hi hx0 hx1 hx2 hf hN
        refine jGo_blk qX6_solve_34 ?_
        refine And.intro (fun c1 => ?_) (fun c1 => ?_)
        · replace c1 : x4 ≤ x6 := c1
          show jGo E l 113 229 229 _ 61 [.inr (.inr (.inl 97)), .inr (.inr (.inl 84)), .inr (.inr (.inl 91)), .inl a3, .inl x4, .inl x5, .inl x6, .inr (.inr (.inr ())), .inr (.inr (.inr ()))] [] 229 jr0 g
          refine jGo_blk qX6_solve_61 ?_
          show jGo E l 113 229 229 _ 64 [.inr (.inr (.inl 97)), .inr (.inr (.inl 84)), .inr (.inr (.inl 91)), .inl a3, .inl x4, .inl x5, .inl 0, .inr (.inr (.inr ())), .inr (.inr (.inr ()))] [] 229 jr0 g
          exact ih.2.1 x4 x5 0 g (by omega) (by have hq : x6 = x4 := (by omega); rw [hx1]; exact jL0 (by omega) (by omega) (by rw [← hq]; exact hx0.2) hx0.1) (by first | rfl | assumption | omega) (by omega) (by exact jS_0 (by rw [show h 92 a3 = x6 by omega]; exact hx0.2) hx0.1 (by omega)) (by omega) hf (by omega)
        · replace c1 : x6 < x4 := by first | exact c1 | exact Int.not_le.mp c1 | exact Int.not_lt.mp c1 | exact Decidable.not_not.mp c1
          refine st_gr jo_97 jr_97_3 ?_
          refine st_li jo_99 (show 0 ≤ 0 by omega) (show 0 < ((64 : Nat) : Int) by omega) (fun v2 ev2 b3 => ?_)
          replace ev2 : v2 = g 99 0 := ev2
          refine st_cs (na := 1) (st := [.inl x6, .inr (.inl v2), .inl 0, .inr (.inr (.inl 99))]) rfl rfl rfl (c_X6_lackingNumber x6 g (by omega)) rfl ?_
          rintro _ _ _ ⟨rfl, rfl, t4, rfl, ht4, zt4⟩ kt4
          replace kt4 : -9223372036854775808 ≤ t4 ∧ t4 ≤ 9223372036854775807 := kt4
          replace ht4 : 19456426971176 ≤ t4 ∧ t4 ≤ 19461061219176 := ht4
          replace zt4 : t4 = jlk x6 := zt4
          have hlb := jLi_b x6 (by omega) (by omega)
          have hkb := jlk_b x6 (by omega) (by omega)
          have hF0 := hx0.2
          have e6 : jw64 (v2 + t4) = v2 + t4 := j64e (by omega) (by omega)
          refine st_sl jo_99 (show 0 ≤ 0 by omega) (show 0 < ((64 : Nat) : Int) by omega) (fun hx => (jba_99 _ _).2 hx) (fun g7 eg7 => ?_)
          replace eg7 : g7 = jup g 99 0 (jw64 (v2 + t4)) := eg7
          have fg7 : jfr w_X6_solve h g7 := jfr_up hf eg7 (by unfold w_X6_solve; omega)
          have e8 : jw32 (x6 + 1) = x6 + 1 := jzj32 (by omega)
          show jGo E l 113 229 229 _ 34 [.inr (.inr (.inl 97)), .inr (.inr (.inl 84)), .inr (.inr (.inl 91)), .inl a3, .inl x4, .inl x5, .inl (jw32 (x6 + 1)), .inr (.inr (.inr ())), .inr (.inr (.inr ()))] [] 229 jr0 g7
          have hc9 : (∀ s : Int, 1 ≤ s → s ≤ 63 → g7 99 s = 4611686018427387904) ∧ g7 99 0 = jLi (jw32 (x6 + 1)) := by
            have hL := ((jm_sets 6 (by decide) (by decide)).2.2.2 x6 (by omega) (by omega)).2
            refine ⟨fun s h0 h1 => ?_, ?_⟩
            · rw [jup_o eg7 (by first | exact fun q => absurd q.1 (by decide) | exact fun q => absurd q.2 (by decide) | omega)]; exact hx0.1 s h0 h1
            · rw [jup_s eg7, show jw32 (x6 + 1) = x6 + 1 from jzj32 (by omega), hL]; omega
          exact ih.1 x4 x5 (jw32 (x6 + 1)) g7 (by omega) (by exact hc9) (by first | rfl | assumption | omega) (by omega) fg7 (by omega)
      · intro x4 x5 x6 g hi hx0 hx1 hx2 hx3 hx4 hf hN
        have hz0 : g 92 a3 = h 92 a3 := hf 92 a3 (by unfold w_X6_solve; omega)
        have hx2x : g 92 a3 = x4 := by omega
        have hz4 : g 84 0 = h 84 0 := hf 84 0 (by unfold w_X6_solve; omega)
        refine jGo_blk qX6_solve_64 ?_
        refine st_gi jo_84 (fun v10 ev10 b11 => ?_)
        replace ev10 : v10 = g 84 0 := ev10
        replace b11 := (jbf_3_0 jo_84 _).1 b11
        refine And.intro (fun c12 => ?_) (fun c12 => ?_)
        · replace c12 : v10 ≤ x6 := c12
          show jGo E l 113 229 229 _ 103 [.inr (.inr (.inl 97)), .inr (.inr (.inl 84)), .inr (.inr (.inl 91)), .inl a3, .inl x4, .inl x5, .inl x6, .inr (.inr (.inr ())), .inr (.inr (.inr ()))] [] 229 jr0 g
          refine jGo_blk qX6_solve_103 ?_
          refine st_gr jo_97 jr_97_3 ?_
          refine st_li jo_99 (show 0 ≤ 0 by omega) (show 0 < ((64 : Nat) : Int) by omega) (fun v13 ev13 b14 => ?_)
          replace ev13 : v13 = g 99 0 := ev13
          have hl0 := hx0 0 (by decide) (by decide); have hlb0 := jLs_b x5 0 (by rw [hx1]; exact (jm_sets x4 (by omega) (by omega)).1) (by decide) (by decide)
          show jGo E l 113 229 229 _ 114 [.inr (.inr (.inl 97)), .inr (.inr (.inl 84)), .inr (.inr (.inl 91)), .inl a3, .inl x4, .inl x5, .inr (.inl v13), .inr (.inr (.inr ())), .inl 1] [] 229 jr0 g
          exact ih.2.2 x4 x5 v13 1 g (by omega) (by exact hx0) (by first | rfl | assumption | omega) (by omega) (by rw [show h 84 0 = x6 by omega]; exact hx3) (by exact ⟨fun z hz => by rw [show z = 0 by omega]; exact Int.le_of_eq ev13, ⟨0, by decide, ev13⟩⟩) (by omega) (by omega) hf (by omega)
        · replace c12 : x6 < v10 := by first | exact c12 | exact Int.not_le.mp c12 | exact Int.not_lt.mp c12 | exact Decidable.not_not.mp c12
          refine st_cv (na := 1) (st := [.inl x6, .inr (.inr (.inl 84))]) jo_84 rfl rfl rfl (c_X3_stands x6 g (by omega)) rfl ?_
          rintro _ _ _ ⟨rfl, rfl, t15, rfl, ht15, zt15⟩ kt15
          replace kt15 : -2147483648 ≤ t15 ∧ t15 ≤ 2147483647 := kt15
          replace ht15 : 0 ≤ t15 ∧ t15 ≤ 1 := ht15
          replace zt15 : (t15 = 1 ∧ g 88 x6 = -9) ∨ (t15 = 0 ∧ ¬ g 88 x6 = -9) := zt15
          refine And.intro (fun c17 => ?_) (fun c17 => ?_)
          · replace c17 : t15 = 0 := c17
            show jGo E l 113 229 229 _ 97 [.inr (.inr (.inl 97)), .inr (.inr (.inl 84)), .inr (.inr (.inl 91)), .inl a3, .inl x4, .inl x5, .inl x6, .inr (.inr (.inr ())), .inr (.inr (.inr ()))] [] 229 jr0 g
            refine jGo_blk qX6_solve_97 ?_
            have e18 : jw32 (x6 + 1) = x6 + 1 := jzj32 (by omega)
            show jGo E l 113 229 229 _ 64 [.inr (.inr (.inl 97)), .inr (.inr (.inl 84)), .inr (.inr (.inl 91)), .inl a3, .inl x4, .inl x5, .inl (jw32 (x6 + 1)), .inr (.inr (.inr ())), .inr (.inr (.inr ()))] [] 229 jr0 g
            have y19 := hf 88 x6 (by unfold w_X6_solve; omega)
            exact ih.2.1 x4 x5 (jw32 (x6 + 1)) g (by omega) (by exact hx0) (by first | rfl | assumption | omega) (by omega) (by rw [show jw32 (x6 + 1) = x6 + 1 by omega]; exact jS_no hx3 (fun _ => rfl) (by omega) (by omega)) (by omega) hf (by omega)
          · replace c17 : ¬ t15 = 0 := by first | exact c17 | exact Int.not_le.mp c17 | exact Int.not_lt.mp c17 | exact Decidable.not_not.mp c17
            refine st_cv (na := 4) (st := [.inl a3, .inr (.inr (.inl 91)), .inl x6, .inr (.inr (.inl 84)), .inr (.inr (.inl 97)), .inr (.inr (.inl 97))]) jo_97 rfl rfl rfl (c_X6_fitting x6 a3 g (by omega) (by omega) (jGok_fr q0 (fun s => hf 87 s (by unfold w_X6_solve; omega)))) rfl ?_
            rintro _ _ g21 ⟨rfl, ft20, t20, rfl, ht20, zt20⟩ kt20
            replace kt20 : -2147483648 ≤ t20 ∧ t20 ≤ 2147483647 := kt20
            replace ht20 : 0 ≤ t20 ∧ t20 ≤ 63 := ht20
            have fg21 : jfr w_X6_solve h g21 := jfr_tr hf ft20 ws_X6_fitting__X6_solve
            replace zt20 : jCok t20 (g 92 a3) g21 ∧ jFi g a3 x6 t20 (g 92 a3) g21 := zt20
            refine st_cv (na := 2) (st := [.inl x5, .inl t20, .inr (.inr (.inl 97))]) jo_97 rfl rfl rfl (c_X6_offer t20 x5 g21 (by omega) (by omega) (by rw [hx1]; exact (jm_sets x4 (by omega) (by omega)).1) (jLok_fr hx0 (fun s => ft20 99 s (by unfold w_X6_fitting; omega))) (by rw [hx1]; refine jCD (by omega) (by omega) ?_; rw [← hx2x]; exact zt20.1)) rfl ?_
            rintro _ _ g23 ⟨rfl, ft22, rfl, zt22⟩ kt22
            have fg23 : jfr w_X6_solve h g23 := jfr_tr fg21 ft22 ws_X6_offer__X6_solve
            replace zt22 : jLok x5 g23 ∧ jOP t20 x5 g21 g23 := zt22
            have hl24 : jLok x5 g23 := zt22.1
            show jGo E l 113 229 229 _ 97 [.inr (.inr (.inl 97)), .inr (.inr (.inl 84)), .inr (.inr (.inl 91)), .inl a3, .inl x4, .inl x5, .inl x6, .inr (.inr (.inr ())), .inr (.inr (.inr ()))] [] 229 jr0 g23
            refine jGo_blk qX6_solve_97 ?_
            have e25 : jw32 (x6 + 1) = x6 + 1 := jzj32 (by omega)
            show jGo E l 113 229 229 _ 64 [.inr (.inr (.inl 97)), .inr (.inr (.inl 84)), .inr (.inr (.inl 91)), .inl a3, .inl x4, .inl x5, .inl (jw32 (x6 + 1)), .inr (.inr (.inr ())), .inr (.inr (.inr ()))] [] 229 jr0 g23
            have y26 := hf 88 x6 (by unfold w_X6_solve; omega)
            exact ih.2.1 x4 x5 (jw32 (x6 + 1)) g23 (by omega) (by assumption) (by first | rfl | assumption | omega) (by omega) (by rw [show jw32 (x6 + 1) = x6 + 1 by omega]; exact jS_ys hx3 (by omega) (by omega) (show x4 = h 92 a3 by omega) (by omega) (by have y9 := jFi_h (h := h) (fun i k p1 p2 => hf i k (by unfold w_X6_solve; omega)) zt20.2; rw [show g 92 a3 = x4 by omega] at y9; exact y9) (fun z => (ft20 99 z (by unfold w_X6_fitting; omega))) zt22.2 (by rw [hx1]; exact jshl_p (by omega) (by omega))) (by omega) fg23 (by omega)
      · intro x4 x5 x6 x8 g hi hx0 hx1 hx2 hx3 hx4 hx5 hx6 hf hN
        refine jGo_blk qX6_solve_114 ?_
        refine And.intro (fun c27 => ?_) (fun c27 => ?_)
        · replace c27 : x5 ≤ x8 := c27
          show jGo E l 113 229 229 _ 141 [.inr (.inr (.inl 97)), .inr (.inr (.inl 84)), .inr (.inr (.inl 91)), .inl a3, .inl x4, .inl x5, .inr (.inl x6), .inr (.inr (.inr ())), .inl x8] [] 229 jr0 g
          refine jGo_blk qX6_solve_141 ?_
          refine st_cv (na := 2) (st := [.inl x4, .inr (.inl x6), .inr (.inr (.inl 97))]) jo_97 rfl rfl rfl (c_X6_readOff x6 x4 g (by omega) (by omega)) rfl ?_
          rintro _ _ g29 ⟨rfl, ft28, rfl, zt28⟩ kt28
          have fg29 : jfr w_X6_solve h g29 := jfr_tr hf ft28 ws_X6_readOff__X6_solve
          replace zt28 : jRo1 x6 x4 g29 ∧ g29 97 1 = x6 / 4750104241 % 4096 := zt28
          have y30 := jshl_p (n := x4) (by omega) (by omega)
          exact ⟨rfl, rfl, fg29, rfl, (by exact jSolve hx3 (by omega) (show x4 = h 92 a3 by omega) (by omega) (fun k => ((jba_96 k _).1 (hbd 96 k)).1) (fun z q => hx4.1 z (by omega)) (by obtain ⟨z, q1, q2⟩ := hx4.2; exact ⟨z, by omega, q2⟩) zt28.1 zt28.2)⟩
        · replace c27 : x8 < x5 := by first | exact c27 | exact Int.not_le.mp c27 | exact Int.not_lt.mp c27 | exact Decidable.not_not.mp c27
          refine st_gr jo_97 jr_97_3 ?_
          refine st_li jo_99 (show 0 ≤ x8 by omega) (show x8 < ((64 : Nat) : Int) by omega) (fun v31 ev31 b32 => ?_)
          replace ev31 : v31 = g 99 x8 := ev31
          have hl0 := hx0 x8 (by omega) (by omega); have hlb0 := jLs_b x5 x8 (by rw [hx1]; exact (jm_sets x4 (by omega) (by omega)).1) (by omega) (by omega)
          refine st_m3 rfl (fun v33 m1v33 m2v33 m3v33 => ?_)
          replace m1v33 : v33 ≤ x6 := m1v33; replace m2v33 : v33 ≤ v31 := m2v33; replace m3v33 : v33 = x6 ∨ v33 = v31 := m3v33
          have e34 : jw32 (x8 + 1) = x8 + 1 := jzj32 (by omega)
          show jGo E l 113 229 229 _ 114 [.inr (.inr (.inl 97)), .inr (.inr (.inl 84)), .inr (.inr (.inl 91)), .inl a3, .inl x4, .inl x5, .inr (.inl v33), .inr (.inr (.inr ())), .inl (jw32 (x8 + 1))] [] 229 jr0 g
          exact ih.2.2 x4 x5 v33 (jw32 (x8 + 1)) g (by omega) (by exact hx0) (by first | rfl | assumption | omega) (by omega) (by exact hx3) (by rw [show jw32 (x8 + 1) = x8 + 1 by omega]; exact jBs (by omega) hx4 ev31 (by omega) (by omega) (by omega)) (by omega) (by omega) hf (by omega)
  refine jGo_blk qX6_solve_0 ?_
  refine st_gr jo_91 jr_91_0 ?_
  refine st_ai jo_92 (show 0 ≤ a3 by omega) (show a3 < ((3 : Nat) : Int) by omega) (fun v35 ev35 b36 => ?_)
  replace ev35 : v35 = h 92 a3 := ev35
  replace b36 := (jba_92 a3 _).1 b36
  have e37 := jshl1_6 v35 (by omega) (by omega)
  refine st_gr jo_97 jr_97_3 ?_
  refine st_cs (na := 2) (st := [.inr (.inl 4611686018427387904), .inr (.inr (.inl 99))]) rfl rfl rfl (c_fillL 99 4611686018427387904 h jo_99 (by decide) (fun k hx => (jba_99 _ _).2 hx)) rfl ?_
  rintro _ _ g39 ⟨rfl, ft38, rfl, zt38⟩ kt38
  have fg39 : jfr w_X6_solve h g39 := jfr_tr f0 ft38 (fun i k q => by unfold w_fill at q; unfold w_X6_solve; omega)
  refine st_gr jo_97 jr_97_3 ?_
  refine st_sl jo_99 (show 0 ≤ 0 by omega) (show 0 < ((64 : Nat) : Int) by omega) (fun hx => (jba_99 _ _).2 hx) (fun g40 eg40 => ?_)
  replace eg40 : g40 = jup g39 99 0 0 := eg40
  have fg40 : jfr w_X6_solve h g40 := jfr_up fg39 eg40 (by unfold w_X6_solve; omega)
  show jGo E l 113 229 229 _ 34 [.inr (.inr (.inl 97)), .inr (.inr (.inl 84)), .inr (.inr (.inl 91)), .inl a3, .inl v35, .inl (jshl 1 v35), .inl 0, .inr (.inr (.inr ())), .inr (.inr (.inr ()))] [] 229 jr0 g40
  have hc41 : (∀ s : Int, 1 ≤ s → s ≤ 63 → g40 99 s = 4611686018427387904) ∧ g40 99 0 = jLi 0 := by
    refine ⟨fun s h0 h1 => ?_, ?_⟩
    · rw [jup_o eg40 (by first | exact fun q => absurd q.1 (by decide) | exact fun q => absurd q.2 (by decide) | omega)]; exact zt38 s (by omega) (show s < ((64 : Nat) : Int) by omega)
    · rw [jup_s eg40]; decide +kernel
  exact (key 1000000000000).1 v35 (jshl 1 v35) 0 g40 (by omega) (by exact hc41) (by first | rfl | assumption | omega) (by omega) fg40 (by omega)
