def w_X10_doWork_29_107 (i k : Int) : Prop := (35 ≤ i ∧ i ≤ 83) ∨ (i = 29 ∧ 9 ≤ k ∧ k ≤ 10)
def k_X10_doWork_29_107 (a2 : Int) (a3 : Int) (h : JH) (v : Option JV) (r' g : JH) : Prop := r' = jr0 ∧ jfr w_X10_doWork_29_107 h g ∧ v = none ∧ (g = jP4 29 35 36 34 107 a2 a3 h)
set_option maxHeartbeats 4000000 in
theorem c_X10_doWork_29_107 {E : JE} {l : Launch} (a2 : Int) (a3 : Int) (h : JH) (p2 : 0 ≤ a2 ∧ a2 ≤ 0) : jMt E l 81 [.inr (.inr (.inl 29)), .inr (.inr (.inl 107)), .inl a2, .inl a3] 229 jr0 h (k_X10_doWork_29_107 a2 a3 h) := by
  refine jMt0 (nL := 7) (ls := [.inr (.inr (.inl 29)), .inr (.inr (.inl 107)), .inl a2, .inl a3, .inr (.inr (.inr ())), .inr (.inr (.inr ())), .inr (.inr (.inr ()))]) (by decide +kernel) (by decide +kernel) (by decide +kernel) rfl rfl ?_
  have f0 : jfr w_X10_doWork_29_107 h h := jfr_rf _ _
  refine jGo_bd (fun hbd => ?_)
  have hb0 := (jbf_10_6 jo_29 _).1 (hbd 29 6)
  have key : ∀ N : Nat, (∀ (x4 : Int) (x5 : JV) (x6 : JV) (g : JH), (0 ≤ x4 ∧ x4 ≤ 16) → (g = jit (jDw 29 35 36 34 a3) (x4).toNat (jcp h 107 a2 35 0 4)) → (g 29 6 = h 29 6 ∧ 0 ≤ x4 ∧ x4 ≤ h 29 6) → jfr w_X10_doWork_29_107 h g → (16 - x4) + 20000 < (N : Int) → jGo E l 81 229 229 (jRK (k_X10_doWork_29_107 a2 a3 h)) 14 [.inr (.inr (.inl 29)), .inr (.inr (.inl 107)), .inl a2, .inl a3, .inl x4, x5, x6] [] 229 jr0 g) ∧
      (∀ (x4 : Int) (x5 : JV) (x6 : JV) (g : JH), (0 ≤ x4 ∧ x4 ≤ 4) → (g = jit (jDi 29 35) (x4).toNat (jit (jDw 29 35 36 34 a3) (h 29 6).toNat (jcp h 107 a2 35 0 4))) → (0 ≤ x4 ∧ x4 ≤ 4) → jfr w_X10_doWork_29_107 h g → (4 - x4) < (N : Int) → jGo E l 81 229 229 (jRK (k_X10_doWork_29_107 a2 a3 h)) 143 [.inr (.inr (.inl 29)), .inr (.inr (.inl 107)), .inl a2, .inl a3, .inl x4, x5, x6] [] 229 jr0 g) := by
    intro N
    induction N with
    | zero => exact ⟨fun _ _ _ _ hi hx0 hx1 _ hN => absurd hN (by omega), fun _ _ _ _ hi hx0 hx1 _ hN => absurd hN (by omega)⟩
    | succ N ih =>
      refine ⟨?_, ?_⟩
      · intro x4 x5 x6 g hi hx0 hx1 hf hN
        refine jGo_blk qX10_doWork_14 ?_
        refine st_gi jo_29 (fun v1 ev1 b2 => ?_)
        replace ev1 : v1 = g 29 6 := ev1
        replace b2 := (jbf_10_6 jo_29 _).1 b2
        refine And.intro (fun c3 => ?_) (fun c3 => ?_)
        · replace c3 : v1 ≤ x4 := c3
          show jGo E l 81 229 229 _ 140 [.inr (.inr (.inl 29)), .inr (.inr (.inl 107)), .inl a2, .inl a3, .inl x4, x5, x6] [] 229 jr0 g
          refine jGo_blk qX10_doWork_140 ?_
          show jGo E l 81 229 229 _ 143 [.inr (.inr (.inl 29)), .inr (.inr (.inl 107)), .inl a2, .inl a3, .inl 0, x5, x6] [] 229 jr0 g
          exact ih.2 0 x5 x6 g (by omega) (by rw [hx0, show x4 = h 29 6 by omega] <;> rfl) (by omega) hf (by omega)
        · replace c3 : x4 < v1 := by first | exact c3 | exact Int.not_le.mp c3 | exact Int.not_lt.mp c3 | exact Decidable.not_not.mp c3
          refine st_gr jo_29 jr_29_3 ?_
          refine st_gr jo_29 jr_29_5 ?_
          refine st_ai jo_34 (show 0 ≤ x4 by omega) (show x4 < ((16 : Nat) : Int) by omega) (fun v4 ev4 b5 => ?_)
          replace ev4 : v4 = g 34 x4 := ev4
          replace b5 := (jba_34 x4 _).1 b5
          refine st_ar jo_33 (by decide) (show 0 ≤ v4 by omega) (show v4 < ((16 : Nat) : Int) by omega) (fun u6 eu6 => ?_)
          replace eu6 : u6 = jr0 33 v4 := eu6
          have qu6 : u6 = 36 + 3 * v4 := eu6.trans (jhul_33 v4 (by omega) (by omega)).1
          have hu6 : jHl u6 := by rw [eu6]; exact (jhul_33 v4 (by omega) (by omega)).2
          refine And.intro (show u6 ≠ -1 by omega) ?_
          refine st_gi hu6.1 (fun v7 ev7 b8 => ?_)
          replace ev7 : v7 = g u6 3 := ev7
          replace b8 := (jbf_4_3 hu6.1 _).1 b8
          refine And.intro (fun c9 => ?_) (fun c9 => ?_)
          · replace c9 : ¬ v7 = 1 := c9
            show jGo E l 81 229 229 _ 134 [.inr (.inr (.inl 29)), .inr (.inr (.inl 107)), .inl a2, .inl a3, .inl x4, .inr (.inr (.inl u6)), x6] [] 229 jr0 g
            refine jGo_blk qX10_doWork_134 ?_
            have e10 : jw32 (x4 + 1) = x4 + 1 := jzj32 (by omega)
            show jGo E l 81 229 229 _ 14 [.inr (.inr (.inl 29)), .inr (.inr (.inl 107)), .inl a2, .inl a3, .inl (jw32 (x4 + 1)), .inr (.inr (.inl u6)), x6] [] 229 jr0 g
            exact ih.1 (jw32 (x4 + 1)) (.inr (.inr (.inl u6))) x6 g (by omega) (by rw [show jw32 (x4 + 1) = x4 + 1 by omega, jit_s (by omega), ← hx0]; subst ev7 qu6 ev4 ev1; unfold jDw jD3 jD2 jD1 jSt; (repeat (first | rw [if_pos (by omega)] | rw [if_neg (by omega)])); all_goals ((try rw [e10]); (try rfl))) (by omega) hf (by omega)
          · replace c9 : v7 = 1 := by first | exact c9 | exact Int.not_le.mp c9 | exact Int.not_lt.mp c9 | exact Decidable.not_not.mp c9
            refine st_gi hu6.1 (fun v11 ev11 b12 => ?_)
            replace ev11 : v11 = g u6 7 := ev11
            replace b12 := (jbf_4_7 hu6.1 _).1 b12
            refine And.intro (fun c13 => ?_) (fun c13 => ?_)
            · replace c13 : v11 = 0 := c13
              show jGo E l 81 229 229 _ 134 [.inr (.inr (.inl 29)), .inr (.inr (.inl 107)), .inl a2, .inl a3, .inl x4, .inr (.inr (.inl u6)), x6] [] 229 jr0 g
              refine jGo_blk qX10_doWork_134 ?_
              have e14 : jw32 (x4 + 1) = x4 + 1 := jzj32 (by omega)
              show jGo E l 81 229 229 _ 14 [.inr (.inr (.inl 29)), .inr (.inr (.inl 107)), .inl a2, .inl a3, .inl (jw32 (x4 + 1)), .inr (.inr (.inl u6)), x6] [] 229 jr0 g
              exact ih.1 (jw32 (x4 + 1)) (.inr (.inr (.inl u6))) x6 g (by omega) (by rw [show jw32 (x4 + 1) = x4 + 1 by omega, jit_s (by omega), ← hx0]; subst ev11 ev7 qu6 ev4 ev1; unfold jDw jD3 jD2 jD1 jSt; (repeat (first | rw [if_pos (by omega)] | rw [if_neg (by omega)])); all_goals ((try rw [e14]); (try rfl))) (by omega) hf (by omega)
            · replace c13 : ¬ v11 = 0 := by first | exact c13 | exact Int.not_le.mp c13 | exact Int.not_lt.mp c13 | exact Decidable.not_not.mp c13
              refine st_gi hu6.1 (fun v15 ev15 b16 => ?_)
              replace ev15 : v15 = g u6 6 := ev15
              replace b16 := (jbf_4_6 hu6.1 _).1 b16
              refine And.intro (fun c17 => ?_) (fun c17 => ?_)
              · replace c17 : v15 ≤ 0 := c17
                show jGo E l 81 229 229 _ 134 [.inr (.inr (.inl 29)), .inr (.inr (.inl 107)), .inl a2, .inl a3, .inl x4, .inr (.inr (.inl u6)), x6] [] 229 jr0 g
                refine jGo_blk qX10_doWork_134 ?_
                have e18 : jw32 (x4 + 1) = x4 + 1 := jzj32 (by omega)
                show jGo E l 81 229 229 _ 14 [.inr (.inr (.inl 29)), .inr (.inr (.inl 107)), .inl a2, .inl a3, .inl (jw32 (x4 + 1)), .inr (.inr (.inl u6)), x6] [] 229 jr0 g
                exact ih.1 (jw32 (x4 + 1)) (.inr (.inr (.inl u6))) x6 g (by omega) (by rw [show jw32 (x4 + 1) = x4 + 1 by omega, jit_s (by omega), ← hx0]; subst ev15 ev11 ev7 qu6 ev4 ev1; unfold jDw jD3 jD2 jD1 jSt; (repeat (first | rw [if_pos (by omega)] | rw [if_neg (by omega)])); all_goals ((try rw [e18]); (try rfl))) (by omega) hf (by omega)
              · replace c17 : 0 < v15 := by first | exact c17 | exact Int.not_le.mp c17 | exact Int.not_lt.mp c17 | exact Decidable.not_not.mp c17
                refine st_gr jo_29 jr_29_11 ?_
                refine st_gi hu6.1 (fun v19 ev19 b20 => ?_)
                replace ev19 : v19 = g u6 5 := ev19
                replace b20 := (jbf_4_5 hu6.1 _).1 b20
                refine st_ai jo_35 (show 0 ≤ v19 by omega) (show v19 < ((4 : Nat) : Int) by omega) (fun v21 ev21 b22 => ?_)
                replace ev21 : v21 = g 35 v19 := ev21
                replace b22 := (jba_35 v19 _).1 b22
                refine st_m0 rfl (fun v23 m1v23 m2v23 m3v23 => ?_)
                replace m1v23 : v23 ≤ v21 := m1v23; replace m2v23 : v23 ≤ a3 := m2v23; replace m3v23 : v23 = v21 ∨ v23 = a3 := m3v23
                have ev23 : v23 = jmin v21 a3 := by unfold jmin; omega
                refine st_gi hu6.1 (fun v24 ev24 b25 => ?_)
                replace ev24 : v24 = g u6 6 := ev24
                replace b25 := (jbf_4_6 hu6.1 _).1 b25
                refine st_m0 rfl (fun v26 m1v26 m2v26 m3v26 => ?_)
                replace m1v26 : v26 ≤ v23 := m1v26; replace m2v26 : v26 ≤ v24 := m2v26; replace m3v26 : v26 = v23 ∨ v26 = v24 := m3v26
                have ev26 : v26 = jmin v23 v24 := by unfold jmin; omega
                refine st_gr jo_29 jr_29_11 ?_
                refine st_gi hu6.1 (fun v27 ev27 b28 => ?_)
                replace ev27 : v27 = g u6 5 := ev27
                replace b28 := (jbf_4_5 hu6.1 _).1 b28
                refine st_ai jo_35 (show 0 ≤ v27 by omega) (show v27 < ((4 : Nat) : Int) by omega) (fun v29 ev29 b30 => ?_)
                replace ev29 : v29 = g 35 v27 := ev29
                replace b30 := (jba_35 v27 _).1 b30
                refine st_si jo_35 (show 0 ≤ v27 by omega) (show v27 < ((4 : Nat) : Int) by omega) (fun hx => (jba_35 _ _).2 hx) (fun g31 eg31 => ?_)
                replace eg31 : g31 = jup g 35 v27 (jw32 (v29 - v26)) := eg31
                have fg31 : jfr w_X10_doWork_29_107 h g31 := jfr_up hf eg31 (by unfold w_X10_doWork_29_107; omega)
                have e32 : g31 35 v27 = jw32 (v29 - v26) := jup_s eg31
                refine st_gi hu6.1 (fun v33 ev33 b34 => ?_)
                replace ev33 : v33 = g31 u6 6 := ev33
                replace b34 := (jbf_4_6 hu6.1 _).1 b34
                refine st_pi hu6.1 (fun hx => (jbf_4_6 hu6.1 _).2 hx) (fun g35 eg35 => ?_)
                replace eg35 : g35 = jup g31 u6 6 (jw32 (v33 - v26)) := eg35
                have fg35 : jfr w_X10_doWork_29_107 h g35 := jfr_up fg31 eg35 (by unfold w_X10_doWork_29_107; omega)
                have e36 : g35 u6 6 = jw32 (v33 - v26) := jup_s eg35
                refine st_gi jo_29 (fun v37 ev37 b38 => ?_)
                replace ev37 : v37 = g35 29 10 := ev37
                replace b38 := (jbf_10_10 jo_29 _).1 b38
                have e39 : g35 29 10 = g31 29 10 := jup_o eg35 (by first | exact fun q => absurd q.1 (by decide) | exact fun q => absurd q.2 (by decide) | omega)
                have e40 : g31 29 10 = g 29 10 := jup_o eg31 (by first | exact fun q => absurd q.1 (by decide) | exact fun q => absurd q.2 (by decide) | omega)
                refine And.intro (fun c41 => ?_) (fun c41 => ?_)
                · replace c41 : ¬ v37 = 0 := c41
                  show jGo E l 81 229 229 _ 126 [.inr (.inr (.inl 29)), .inr (.inr (.inl 107)), .inl a2, .inl a3, .inl x4, .inr (.inr (.inl u6)), .inl v26] [.inr (.inr (.inl 29))] 229 jr0 g35
                  refine jGo_blk qX10_doWork_126 ?_
                  show jGo E l 81 229 229 _ 131 [.inr (.inr (.inl 29)), .inr (.inr (.inl 107)), .inl a2, .inl a3, .inl x4, .inr (.inr (.inl u6)), .inl v26] [.inl 1, .inr (.inr (.inl 29))] 229 jr0 g35
                  refine jGo_blk qX10_doWork_131 ?_
                  refine st_pi jo_29 (fun hx => (jbf_10_10 jo_29 _).2 (show 0 ≤ 1 ∧ 1 ≤ 1 by omega)) (fun g42 eg42 => ?_)
                  replace eg42 : g42 = jup g35 29 10 1 := eg42
                  have fg42 : jfr w_X10_doWork_29_107 h g42 := jfr_up fg35 eg42 (by unfold w_X10_doWork_29_107; omega)
                  have e43 : g42 29 10 = 1 := jup_s eg42
                  show jGo E l 81 229 229 _ 134 [.inr (.inr (.inl 29)), .inr (.inr (.inl 107)), .inl a2, .inl a3, .inl x4, .inr (.inr (.inl u6)), .inl v26] [] 229 jr0 g42
                  refine jGo_blk qX10_doWork_134 ?_
                  have e44 : jw32 (x4 + 1) = x4 + 1 := jzj32 (by omega)
                  show jGo E l 81 229 229 _ 14 [.inr (.inr (.inl 29)), .inr (.inr (.inl 107)), .inl a2, .inl a3, .inl (jw32 (x4 + 1)), .inr (.inr (.inl u6)), .inl v26] [] 229 jr0 g42
                  have e45 : g42 29 6 = g35 29 6 := jup_o eg42 (by first | exact fun q => absurd q.1 (by decide) | exact fun q => absurd q.2 (by decide) | omega)
                  have e46 : g35 29 6 = g31 29 6 := jup_o eg35 (by first | exact fun q => absurd q.1 (by decide) | exact fun q => absurd q.2 (by decide) | omega)
                  have e47 : g31 29 6 = g 29 6 := jup_o eg31 (by first | exact fun q => absurd q.1 (by decide) | exact fun q => absurd q.2 (by decide) | omega)
                  exact ih.1 (jw32 (x4 + 1)) (.inr (.inr (.inl u6))) (.inl v26) g42 (by omega) (by rw [show jw32 (x4 + 1) = x4 + 1 by omega, jit_s (by omega), ← hx0]; subst eg42 ev37 eg35 ev33 eg31 ev29 ev27 ev26 ev24 ev23 ev21 ev19 ev15 ev11 ev7 qu6 ev4 ev1; unfold jDw jD3 jD2 jD1 jSt; (repeat (first | rw [if_pos (by omega)] | rw [if_neg (by omega)])); all_goals ((try rw [e44]); (try rfl))) (by omega) fg42 (by omega)
                · replace c41 : v37 = 0 := by first | exact c41 | exact Int.not_le.mp c41 | exact Int.not_lt.mp c41 | exact Decidable.not_not.mp c41
                  refine And.intro (fun c48 => ?_) (fun c48 => ?_)
                  · replace c48 : v26 ≤ 0 := c48
                    show jGo E l 81 229 229 _ 130 [.inr (.inr (.inl 29)), .inr (.inr (.inl 107)), .inl a2, .inl a3, .inl x4, .inr (.inr (.inl u6)), .inl v26] [.inr (.inr (.inl 29))] 229 jr0 g35
                    refine jGo_blk qX10_doWork_130 ?_
                    show jGo E l 81 229 229 _ 131 [.inr (.inr (.inl 29)), .inr (.inr (.inl 107)), .inl a2, .inl a3, .inl x4, .inr (.inr (.inl u6)), .inl v26] [.inl 0, .inr (.inr (.inl 29))] 229 jr0 g35
                    refine jGo_blk qX10_doWork_131 ?_
                    refine st_pi jo_29 (fun hx => (jbf_10_10 jo_29 _).2 (show 0 ≤ 0 ∧ 0 ≤ 1 by omega)) (fun g49 eg49 => ?_)
                    replace eg49 : g49 = jup g35 29 10 0 := eg49
                    have fg49 : jfr w_X10_doWork_29_107 h g49 := jfr_up fg35 eg49 (by unfold w_X10_doWork_29_107; omega)
                    have e50 : g49 29 10 = 0 := jup_s eg49
                    show jGo E l 81 229 229 _ 134 [.inr (.inr (.inl 29)), .inr (.inr (.inl 107)), .inl a2, .inl a3, .inl x4, .inr (.inr (.inl u6)), .inl v26] [] 229 jr0 g49
                    refine jGo_blk qX10_doWork_134 ?_
                    have e51 : jw32 (x4 + 1) = x4 + 1 := jzj32 (by omega)
                    show jGo E l 81 229 229 _ 14 [.inr (.inr (.inl 29)), .inr (.inr (.inl 107)), .inl a2, .inl a3, .inl (jw32 (x4 + 1)), .inr (.inr (.inl u6)), .inl v26] [] 229 jr0 g49
                    have e52 : g49 29 6 = g35 29 6 := jup_o eg49 (by first | exact fun q => absurd q.1 (by decide) | exact fun q => absurd q.2 (by decide) | omega)
                    have e53 : g35 29 6 = g31 29 6 := jup_o eg35 (by first | exact fun q => absurd q.1 (by decide) | exact fun q => absurd q.2 (by decide) | omega)
                    have e54 : g31 29 6 = g 29 6 := jup_o eg31 (by first | exact fun q => absurd q.1 (by decide) | exact fun q => absurd q.2 (by decide) | omega)
                    exact ih.1 (jw32 (x4 + 1)) (.inr (.inr (.inl u6))) (.inl v26) g49 (by omega) (by rw [show jw32 (x4 + 1) = x4 + 1 by omega, jit_s (by omega), ← hx0]; subst eg49 ev37 eg35 ev33 eg31 ev29 ev27 ev26 ev24 ev23 ev21 ev19 ev15 ev11 ev7 qu6 ev4 ev1; unfold jDw jD3 jD2 jD1 jSt; (repeat (first | rw [if_pos (by omega)] | rw [if_neg (by omega)])); all_goals ((try rw [e51]); (try rfl))) (by omega) fg49 (by omega)
                  · replace c48 : 0 < v26 := by first | exact c48 | exact Int.not_le.mp c48 | exact Int.not_lt.mp c48 | exact Decidable.not_not.mp c48
                    show jGo E l 81 229 229 _ 126 [.inr (.inr (.inl 29)), .inr (.inr (.inl 107)), .inl a2, .inl a3, .inl x4, .inr (.inr (.inl u6)), .inl v26] [.inr (.inr (.inl 29))] 229 jr0 g35
                    refine jGo_blk qX10_doWork_126 ?_
                    show jGo E l 81 229 229 _ 131 [.inr (.inr (.inl 29)), .inr (.inr (.inl 107)), .inl a2, .inl a3, .inl x4, .inr (.inr (.inl u6)), .inl v26] [.inl 1, .inr (.inr (.inl 29))] 229 jr0 g35
                    refine jGo_blk qX10_doWork_131 ?_
                    refine st_pi jo_29 (fun hx => (jbf_10_10 jo_29 _).2 (show 0 ≤ 1 ∧ 1 ≤ 1 by omega)) (fun g55 eg55 => ?_)
                    replace eg55 : g55 = jup g35 29 10 1 := eg55
                    have fg55 : jfr w_X10_doWork_29_107 h g55 := jfr_up fg35 eg55 (by unfold w_X10_doWork_29_107; omega)
                    have e56 : g55 29 10 = 1 := jup_s eg55
                    show jGo E l 81 229 229 _ 134 [.inr (.inr (.inl 29)), .inr (.inr (.inl 107)), .inl a2, .inl a3, .inl x4, .inr (.inr (.inl u6)), .inl v26] [] 229 jr0 g55
                    refine jGo_blk qX10_doWork_134 ?_
                    have e57 : jw32 (x4 + 1) = x4 + 1 := jzj32 (by omega)
                    show jGo E l 81 229 229 _ 14 [.inr (.inr (.inl 29)), .inr (.inr (.inl 107)), .inl a2, .inl a3, .inl (jw32 (x4 + 1)), .inr (.inr (.inl u6)), .inl v26] [] 229 jr0 g55
                    have e58 : g55 29 6 = g35 29 6 := jup_o eg55 (by first | exact fun q => absurd q.1 (by decide) | exact fun q => absurd q.2 (by decide) | omega)
                    have e59 : g35 29 6 = g31 29 6 := jup_o eg35 (by first | exact fun q => absurd q.1 (by decide) | exact fun q => absurd q.2 (by decide) | omega)
                    have e60 : g31 29 6 = g 29 6 := jup_o eg31 (by first | exact fun q => absurd q.1 (by decide) | exact fun q => absurd q.2 (by decide) | omega)
                    exact ih.1 (jw32 (x4 + 1)) (.inr (.inr (.inl u6))) (.inl v26) g55 (by omega) (by rw [show jw32 (x4 + 1) = x4 + 1 by omega, jit_s (by omega), ← hx0]; subst eg55 ev37 eg35 ev33 eg31 ev29 ev27 ev26 ev24 ev23 ev21 ev19 ev15 ev11 ev7 qu6 ev4 ev1; unfold jDw jD3 jD2 jD1 jSt; (repeat (first | rw [if_pos (by omega)] | rw [if_neg (by omega)])); all_goals ((try rw [e57]); (try rfl))) (by omega) fg55 (by omega)
      · intro x4 x5 x6 g hi hx0 hx1 hf hN
        refine jGo_blk qX10_doWork_143 ?_
        refine And.intro (fun c61 => ?_) (fun c61 => ?_)
        · replace c61 : 4 ≤ x4 := c61
          show jGo E l 81 229 229 _ 171 [.inr (.inr (.inl 29)), .inr (.inr (.inl 107)), .inl a2, .inl a3, .inl x4, x5, x6] [] 229 jr0 g
          refine jGo_blk qX10_doWork_171 ?_
          exact ⟨rfl, rfl, hf, rfl, (by unfold jP4; rw [hx0, show x4 = 4 by omega] <;> rfl)⟩
        · replace c61 : x4 < 4 := by first | exact c61 | exact Int.not_le.mp c61 | exact Int.not_lt.mp c61 | exact Decidable.not_not.mp c61
          refine st_gi jo_29 (fun v62 ev62 b63 => ?_)
          replace ev62 : v62 = g 29 9 := ev62
          replace b63 := (jbf_10_9 jo_29 _).1 b63
          refine st_gr jo_29 jr_29_11 ?_
          refine st_ai jo_35 (show 0 ≤ x4 by omega) (show x4 < ((4 : Nat) : Int) by omega) (fun v64 ev64 b65 => ?_)
          replace ev64 : v64 = g 35 x4 := ev64
          replace b65 := (jba_35 x4 _).1 b65
          refine st_pi jo_29 (fun hx => (jbf_10_9 jo_29 _).2 hx) (fun g66 eg66 => ?_)
          replace eg66 : g66 = jup g 29 9 (jw32 (v62 + v64)) := eg66
          have fg66 : jfr w_X10_doWork_29_107 h g66 := jfr_up hf eg66 (by unfold w_X10_doWork_29_107; omega)
          have e67 : g66 29 9 = jw32 (v62 + v64) := jup_s eg66
          have e68 : jw32 (x4 + 1) = x4 + 1 := jzj32 (by omega)
          show jGo E l 81 229 229 _ 143 [.inr (.inr (.inl 29)), .inr (.inr (.inl 107)), .inl a2, .inl a3, .inl (jw32 (x4 + 1)), x5, x6] [] 229 jr0 g66
          exact ih.2 (jw32 (x4 + 1)) x5 x6 g66 (by omega) (by rw [show jw32 (x4 + 1) = x4 + 1 by omega, jit_s (by omega), ← hx0]; subst eg66 ev64 ev62; unfold jDi; (repeat (first | rw [if_pos (by omega)] | rw [if_neg (by omega)])); all_goals ((try rw [e68]); (try rfl))) (by omega) fg66 (by omega)
  refine jGo_blk qX10_doWork_0 ?_
  refine st_gr jo_29 jr_29_11 ?_
  refine st_cp jo_35 jo_107 (show 0 ≤ a2 by omega) (show 0 ≤ 0 by omega) (show 0 ≤ 4 by omega) (show a2 + 4 ≤ ((4 : Nat) : Int) by omega) (show 0 + 4 ≤ ((4 : Nat) : Int) by omega) rfl (fun hg j _ _ => (jba_35 _ _).2 (jbd_int (by rw [jo_107.2.2]; decide) (hg _ _))) (fun g69 eg69 => ?_)
  replace eg69 : g69 = jcp h 107 a2 35 0 4 := eg69
  have fg69 : jfr w_X10_doWork_29_107 h g69 := jfr_cp f0 eg69 (fun _ => by unfold w_X10_doWork_29_107; omega)
  show jGo E l 81 229 229 _ 14 [.inr (.inr (.inl 29)), .inr (.inr (.inl 107)), .inl a2, .inl a3, .inl 0, .inr (.inr (.inr ())), .inr (.inr (.inr ()))] [] 229 jr0 g69
  have e70 : g69 29 6 = h 29 6 := jcp_o eg69 (by omega)
  exact (key 1000000000000).1 0 (.inr (.inr (.inr ()))) (.inr (.inr (.inr ()))) g69 (by omega) (by exact eg69) (by omega) fg69 (by omega)

def w_X10_drink_29 (i k : Int) : Prop := (i = 30) ∨ (i = 29 ∧ k = 8)
def k_X10_drink_29 (a1 : Int) (h : JH) (v : Option JV) (r' g : JH) : Prop := r' = jr0 ∧ jfr w_X10_drink_29 h g ∧ v = none ∧ (g = jDk 29 30 a1 h)
set_option maxHeartbeats 4000000 in
theorem c_X10_drink_29 {E : JE} {l : Launch} (a1 : Int) (h : JH) : jMt E l 82 [.inr (.inr (.inl 29)), .inl a1] 229 jr0 h (k_X10_drink_29 a1 h) := by
  refine jMt0 (nL := 3) (ls := [.inr (.inr (.inl 29)), .inl a1, .inr (.inr (.inr ()))]) (by decide +kernel) (by decide +kernel) (by decide +kernel) rfl rfl ?_
  have f0 : jfr w_X10_drink_29 h h := jfr_rf _ _
  refine jGo_blk qX10_drink_0 ?_
  refine st_gr jo_29 jr_29_0 ?_
  refine st_ai jo_30 (show 0 ≤ 5 by omega) (show 5 < ((6 : Nat) : Int) by omega) (fun v1 ev1 b2 => ?_)
  replace ev1 : v1 = h 30 5 := ev1
  replace b2 := (jba_30 5 _).1 b2
  refine st_m0 rfl (fun v3 m1v3 m2v3 m3v3 => ?_)
  replace m1v3 : v3 ≤ a1 := m1v3; replace m2v3 : v3 ≤ v1 := m2v3; replace m3v3 : v3 = a1 ∨ v3 = v1 := m3v3
  have ev3 : v3 = jmin a1 v1 := by unfold jmin; omega
  refine st_gr jo_29 jr_29_0 ?_
  refine st_ai jo_30 (show 0 ≤ 5 by omega) (show 5 < ((6 : Nat) : Int) by omega) (fun v4 ev4 b5 => ?_)
  replace ev4 : v4 = h 30 5 := ev4
  replace b5 := (jba_30 5 _).1 b5
  refine st_si jo_30 (show 0 ≤ 5 by omega) (show 5 < ((6 : Nat) : Int) by omega) (fun hx => (jba_30 _ _).2 hx) (fun g6 eg6 => ?_)
  replace eg6 : g6 = jup h 30 5 (jw32 (v4 - v3)) := eg6
  have fg6 : jfr w_X10_drink_29 h g6 := jfr_up f0 eg6 (by unfold w_X10_drink_29; omega)
  have e7 : g6 30 5 = jw32 (v4 - v3) := jup_s eg6
  refine st_gi jo_29 (fun v8 ev8 b9 => ?_)
  replace ev8 : v8 = g6 29 8 := ev8
  replace b9 := (jbf_10_8 jo_29 _).1 b9
  have e10 : g6 29 8 = h 29 8 := jup_o eg6 (by first | exact fun q => absurd q.1 (by decide) | exact fun q => absurd q.2 (by decide) | omega)
  refine st_pi jo_29 (fun hx => (jbf_10_8 jo_29 _).2 hx) (fun g11 eg11 => ?_)
  replace eg11 : g11 = jup g6 29 8 (jw32 (v8 + (jw32 (a1 - v3)))) := eg11
  have fg11 : jfr w_X10_drink_29 h g11 := jfr_up fg6 eg11 (by unfold w_X10_drink_29; omega)
  have e12 : g11 29 8 = jw32 (v8 + (jw32 (a1 - v3))) := jup_s eg11
  exact ⟨rfl, rfl, fg11, rfl, (by subst eg11 ev8 eg6 ev4 ev3 ev1; unfold jDk; (repeat (first | rw [if_pos (by omega)] | rw [if_neg (by omega)])); all_goals ((try rfl)))⟩

def w_X10_passDay_29_106 (i k : Int) : Prop := (30 ≤ i ∧ i ≤ 31) ∨ (35 ≤ i ∧ i ≤ 83) ∨ (i = 29 ∧ 7 ≤ k ∧ k ≤ 10)
theorem ws_X10_moveOn_29__X10_passDay_29_106 (i k : Int) (q : w_X10_moveOn_29 i k) : w_X10_passDay_29_106 i k := by
  unfold w_X10_moveOn_29 at q; unfold w_X10_passDay_29_106
  rcases q with q | q | q
  · exact (Or.inl (by omega))
  · exact (Or.inr (Or.inl (by omega)))
  · exact (Or.inr (Or.inr (by omega)))
theorem ws_X10_letIn_29__X10_passDay_29_106 (i k : Int) (q : w_X10_letIn_29 i k) : w_X10_passDay_29_106 i k := by
  unfold w_X10_letIn_29 at q; unfold w_X10_passDay_29_106
  rcases q with q | q | q
  · exact (Or.inl (by omega))
  · exact (Or.inr (Or.inl (by omega)))
  · exact (Or.inr (Or.inr (by omega)))
theorem ws_X10_takeGoods_29__X10_passDay_29_106 (i k : Int) (q : w_X10_takeGoods_29 i k) : w_X10_passDay_29_106 i k := by
  unfold w_X10_takeGoods_29 at q; unfold w_X10_passDay_29_106
  rcases q with q | q | q
  · exact (Or.inl (by omega))
  · exact (Or.inr (Or.inl (by omega)))
  · exact (Or.inr (Or.inr (by omega)))
theorem ws_X10_doWork_29_107__X10_passDay_29_106 (i k : Int) (q : w_X10_doWork_29_107 i k) : w_X10_passDay_29_106 i k := by
  unfold w_X10_doWork_29_107 at q; unfold w_X10_passDay_29_106
  rcases q with q | q
  · exact (Or.inr (Or.inl (by omega)))
  · exact (Or.inr (Or.inr (by omega)))
theorem ws_X10_drink_29__X10_passDay_29_106 (i k : Int) (q : w_X10_drink_29 i k) : w_X10_passDay_29_106 i k := by
  unfold w_X10_drink_29 at q; unfold w_X10_passDay_29_106
  rcases q with q | q
  · exact (Or.inl (by omega))
  · exact (Or.inr (Or.inr (by omega)))
def k_X10_passDay_29_106 (a1 : Int) (a3 : Int) (h : JH) (v : Option JV) (r' g : JH) : Prop := r' = jr0 ∧ jfr w_X10_passDay_29_106 h g ∧ ∃ x : Int, v = some (.inl x) ∧ (True) ∧ ((x = jMc 31 36 h) ∧ g = jPD 29 30 31 36 34 35 107 108 109 110 a1 a3 h)
set_option maxHeartbeats 4000000 in
theorem c_X10_passDay_29_106 {E : JE} {l : Launch} (a1 : Int) (a3 : Int) (h : JH) (p1 : 0 ≤ a1 ∧ a1 ≤ 2400) (p3 : 0 ≤ a3 ∧ a3 ≤ 0) : jMt E l 83 [.inr (.inr (.inl 29)), .inl a1, .inr (.inr (.inl 106)), .inl a3, .inr (.inr (.inl 16))] 229 jr0 h (k_X10_passDay_29_106 a1 a3 h) := by
  refine jMt0 (nL := 6) (ls := [.inr (.inr (.inl 29)), .inl a1, .inr (.inr (.inl 106)), .inl a3, .inr (.inr (.inl 16)), .inr (.inr (.inr ()))]) (by decide +kernel) (by decide +kernel) (by decide +kernel) rfl rfl ?_
  have f0 : jfr w_X10_passDay_29_106 h h := jfr_rf _ _
  refine jGo_blk qX10_passDay_0 ?_
  refine st_pi jo_29 (fun hx => (jbf_10_10 jo_29 _).2 (show 0 ≤ 0 ∧ 0 ≤ 1 by omega)) (fun g1 eg1 => ?_)
  replace eg1 : g1 = jup h 29 10 0 := eg1
  have fg1 : jfr w_X10_passDay_29_106 h g1 := jfr_up f0 eg1 (by unfold w_X10_passDay_29_106; omega)
  have e2 : g1 29 10 = 0 := jup_s eg1
  refine st_cv (na := 2) (st := [.inr (.inr (.inl 16)), .inl a1, .inr (.inr (.inl 29))]) jo_29 rfl rfl rfl (c_X10_moveOn_29 a1 g1) rfl ?_
  rintro _ _ g4 ⟨rfl, ft3, t3, rfl, ht3, zt3⟩ kt3
  replace kt3 : -2147483648 ≤ t3 ∧ t3 ≤ 2147483647 := kt3
  have fg4 : jfr w_X10_passDay_29_106 h g4 := jfr_tr fg1 ft3 ws_X10_moveOn_29__X10_passDay_29_106
  replace zt3 : (t3 = jMc 31 36 g1) ∧ g4 = jit (jMvr 29 31 36 a1) 6 g1 := zt3
  have y5 := zt3.2
  refine st_cv (na := 1) (st := [.inr (.inr (.inl 16)), .inr (.inr (.inl 29))]) jo_29 rfl rfl rfl (c_X10_letIn_29 g4) rfl ?_
  rintro _ _ g7 ⟨rfl, ft6, rfl, zt6⟩ kt6
  have fg7 : jfr w_X10_passDay_29_106 h g7 := jfr_tr fg4 ft6 ws_X10_letIn_29__X10_passDay_29_106
  replace zt6 : g7 = jP2 29 31 36 34 g4 := zt6
  refine st_cv (na := 0) (st := [.inr (.inr (.inl 29))]) jo_29 rfl rfl rfl (c_X10_takeGoods_29 g7) rfl ?_
  rintro _ _ g9 ⟨rfl, ft8, rfl, zt8⟩ kt8
  have fg9 : jfr w_X10_passDay_29_106 h g9 := jfr_tr fg7 ft8 ws_X10_takeGoods_29__X10_passDay_29_106
  replace zt8 : g9 = jP3 29 30 36 34 g7 := zt8
  refine st_gr jo_106 jr_106_0 ?_
  have e10 : jw32 (a3 * 4) = a3 * 4 := jzj32 (by omega)
  refine st_gr jo_106 jr_106_1 ?_
  refine st_ai jo_108 (show 0 ≤ a3 by omega) (show a3 < ((1 : Nat) : Int) by omega) (fun v11 ev11 b12 => ?_)
  replace ev11 : v11 = g9 108 a3 := ev11
  replace b12 := (jba_108 a3 _).1 b12
  refine st_cv (na := 3) (st := [.inl v11, .inl (jw32 (a3 * 4)), .inr (.inr (.inl 107)), .inr (.inr (.inl 29))]) jo_29 rfl rfl rfl (c_X10_doWork_29_107 (jw32 (a3 * 4)) v11 g9 (by omega)) rfl ?_
  rintro _ _ g14 ⟨rfl, ft13, rfl, zt13⟩ kt13
  have fg14 : jfr w_X10_passDay_29_106 h g14 := jfr_tr fg9 ft13 ws_X10_doWork_29_107__X10_passDay_29_106
  replace zt13 : g14 = jP4 29 35 36 34 107 (jw32 (a3 * 4)) v11 g9 := zt13
  refine st_gi jo_29 (fun v15 ev15 b16 => ?_)
  replace ev15 : v15 = g14 29 7 := ev15
  replace b16 := (jbf_10_7 jo_29 _).1 b16
  have e17 : g14 29 7 = g9 29 7 := ft13 29 7 (by unfold w_X10_doWork_29_107; omega)
  have e18 : g9 29 7 = g7 29 7 := ft8 29 7 (by unfold w_X10_takeGoods_29; omega)
  have e19 : g7 29 7 = g4 29 7 := ft6 29 7 (by unfold w_X10_letIn_29; omega)
  have e20 : g4 29 7 = g1 29 7 := ft3 29 7 (by unfold w_X10_moveOn_29; omega)
  have e21 : g1 29 7 = h 29 7 := jup_o eg1 (by first | exact fun q => absurd q.1 (by decide) | exact fun q => absurd q.2 (by decide) | omega)
  refine st_gr jo_106 jr_106_2 ?_
  refine st_ai jo_109 (show 0 ≤ a3 by omega) (show a3 < ((1 : Nat) : Int) by omega) (fun v22 ev22 b23 => ?_)
  replace ev22 : v22 = g14 109 a3 := ev22
  replace b23 := (jba_109 a3 _).1 b23
  refine st_pi jo_29 (fun hx => (jbf_10_7 jo_29 _).2 hx) (fun g24 eg24 => ?_)
  replace eg24 : g24 = jup g14 29 7 (jw32 (v15 + v22)) := eg24
  have fg24 : jfr w_X10_passDay_29_106 h g24 := jfr_up fg14 eg24 (by unfold w_X10_passDay_29_106; omega)
  have e25 : g24 29 7 = jw32 (v15 + v22) := jup_s eg24
  refine st_gr jo_106 jr_106_3 ?_
  refine st_ai jo_110 (show 0 ≤ a3 by omega) (show a3 < ((1 : Nat) : Int) by omega) (fun v26 ev26 b27 => ?_)
  replace ev26 : v26 = g24 110 a3 := ev26
  replace b27 := (jba_110 a3 _).1 b27
  refine st_cv (na := 1) (st := [.inl v26, .inr (.inr (.inl 29))]) jo_29 rfl rfl rfl (c_X10_drink_29 v26 g24) rfl ?_
  rintro _ _ g29 ⟨rfl, ft28, rfl, zt28⟩ kt28
  have fg29 : jfr w_X10_passDay_29_106 h g29 := jfr_tr fg24 ft28 ws_X10_drink_29__X10_passDay_29_106
  replace zt28 : g29 = jDk 29 30 v26 g24 := zt28
  have hc30 : t3 = jMc 31 36 h := by
    rw [zt3.1]; unfold jMc; rw [eg1, jup_ne (by omega), jup_ne (by omega), jup_ne (by omega)]
  exact st_r0 (ls := []) ⟨rfl, rfl, fg29, t3, rfl, trivial, (by refine ⟨hc30, ?_⟩; subst zt28 ev26 eg24 ev22 ev15 zt13 ev11 zt8 zt6 y5 eg1; unfold jPD jQ5 jQ4 jQ3 jP1 jP5; (repeat (first | rw [if_pos (by omega)] | rw [if_neg (by omega)])); all_goals ((try rw [e10]); (try rfl)))⟩

def k_X3_stands (a1 : Int) (h : JH) (v : Option JV) (r' g : JH) : Prop := r' = jr0 ∧ h = g ∧ ∃ x : Int, v = some (.inl x) ∧ (0 ≤ x ∧ x ≤ 1) ∧ ((x = 1 ∧ h 88 a1 = -9) ∨ (x = 0 ∧ ¬ h 88 a1 = -9))
set_option maxHeartbeats 4000000 in
theorem c_X3_stands {E : JE} {l : Launch} (a1 : Int) (h : JH) (p1 : 0 ≤ a1 ∧ a1 ≤ 39) : jMt E l 84 [.inr (.inr (.inl 84)), .inl a1] 229 jr0 h (k_X3_stands a1 h) := by
  refine jMt0 (nL := 2) (ls := [.inr (.inr (.inl 84)), .inl a1]) (by decide +kernel) (by decide +kernel) (by decide +kernel) rfl rfl ?_
  refine jGo_blk qX3_stands_0 ?_
  refine st_gr jo_84 jr_84_4 ?_
  refine st_ai jo_88 (show 0 ≤ a1 by omega) (show a1 < ((40 : Nat) : Int) by omega) (fun v1 ev1 b2 => ?_)
  replace ev1 : v1 = h 88 a1 := ev1
  replace b2 := (jba_88 a1 _).1 b2
  refine And.intro (fun c3 => ?_) (fun c3 => ?_)
  · replace c3 : ¬ v1 = (-9) := c3
    show jGo E l 84 229 229 _ 15 [.inr (.inr (.inl 84)), .inl a1] [] 229 jr0 h
    refine jGo_blk qX3_stands_15 ?_
    show jGo E l 84 229 229 _ 16 [.inr (.inr (.inl 84)), .inl a1] [.inl 0] 229 jr0 h
    refine jGo_blk qX3_stands_16 ?_
    exact st_r1 (ls := []) (show (0 : Int) = 0 ∨ (0 : Int) = 1 by omega) ⟨rfl, rfl, rfl, 0, rfl, (by omega), (by omega)⟩
  · replace c3 : v1 = (-9) := by first | exact c3 | exact Int.not_le.mp c3 | exact Int.not_lt.mp c3 | exact Decidable.not_not.mp c3
    show jGo E l 84 229 229 _ 16 [.inr (.inr (.inl 84)), .inl a1] [.inl 1] 229 jr0 h
    refine jGo_blk qX3_stands_16 ?_
    exact st_r1 (ls := []) (show (1 : Int) = 0 ∨ (1 : Int) = 1 by omega) ⟨rfl, rfl, rfl, 1, rfl, (by omega), (by omega)⟩

def w_X3_grow (i k : Int) : Prop := (i = 87)
def k_X3_grow (h : JH) (v : Option JV) (r' g : JH) : Prop := r' = jr0 ∧ jfr w_X3_grow h g ∧ v = none ∧ ((∀ t : Int, 0 ≤ t → t < 40 → h 87 t ≤ g 87 t ∧ g 87 t ≤ h 87 t + 9) ∧ g = jit jGw (h 84 0).toNat h)
set_option maxHeartbeats 4000000 in
theorem c_X3_grow {E : JE} {l : Launch} (h : JH) (q0 : jGok h) : jMt E l 85 [.inr (.inr (.inl 84))] 229 jr0 h (k_X3_grow h) := by
  refine jMt0 (nL := 2) (ls := [.inr (.inr (.inl 84)), .inr (.inr (.inr ()))]) (by decide +kernel) (by decide +kernel) (by decide +kernel) rfl rfl ?_
  have f0 : jfr w_X3_grow h h := jfr_rf _ _
  refine jGo_bd (fun hbd => ?_)
  have hb0 := (jbf_3_0 jo_84 _).1 (hbd 84 0)
  have key : ∀ N : Nat, (∀ (x1 : Int) (g : JH), (0 ≤ x1 ∧ x1 ≤ 40) → (∀ t : Int, 0 ≤ t → t < 40 → h 87 t ≤ g 87 t ∧ g 87 t ≤ h 87 t + 9 ∧ (x1 ≤ t → g 87 t = h 87 t)) → (g = jit jGw (x1).toNat h) → (g 84 0 = h 84 0 ∧ x1 ≤ h 84 0) → jfr w_X3_grow h g → (40 - x1) < (N : Int) → jGo E l 85 229 229 (jRK (k_X3_grow h)) 2 [.inr (.inr (.inl 84)), .inl x1] [] 229 jr0 g) := by
    intro N
    induction N with
    | zero => exact fun _ _ hi hx0 hx1 hx2 _ hN => absurd hN (by omega)
    | succ N ih =>
      intro x1 g hi hx0 hx1 hx2 hf hN
      refine jGo_blk qX3_grow_2 ?_
      refine st_gi jo_84 (fun v1 ev1 b2 => ?_)
      replace ev1 : v1 = g 84 0 := ev1
      replace b2 := (jbf_3_0 jo_84 _).1 b2
      refine And.intro (fun c3 => ?_) (fun c3 => ?_)
      · replace c3 : v1 ≤ x1 := c3
        show jGo E l 85 229 229 _ 44 [.inr (.inr (.inl 84)), .inl x1] [] 229 jr0 g
        refine jGo_blk qX3_grow_44 ?_
        exact ⟨rfl, rfl, hf, rfl, (by exact ⟨by exact fun t a b => ⟨(hx0 t a b).1, (hx0 t a b).2.1⟩, by rw [show h 84 0 = x1 by omega]; exact hx1⟩)⟩
      · replace c3 : x1 < v1 := by first | exact c3 | exact Int.not_le.mp c3 | exact Int.not_lt.mp c3 | exact Decidable.not_not.mp c3
        refine st_cv (na := 1) (st := [.inl x1, .inr (.inr (.inl 84))]) jo_84 rfl rfl rfl (c_X3_stands x1 g (by omega)) rfl ?_
        rintro _ _ _ ⟨rfl, rfl, t4, rfl, ht4, zt4⟩ kt4
        replace kt4 : -2147483648 ≤ t4 ∧ t4 ≤ 2147483647 := kt4
        replace ht4 : 0 ≤ t4 ∧ t4 ≤ 1 := ht4
        replace zt4 : (t4 = 1 ∧ g 88 x1 = -9) ∨ (t4 = 0 ∧ ¬ g 88 x1 = -9) := zt4
        refine And.intro (fun c6 => ?_) (fun c6 => ?_)
        · replace c6 : t4 = 0 := c6
          show jGo E l 85 229 229 _ 38 [.inr (.inr (.inl 84)), .inl x1] [] 229 jr0 g
          refine jGo_blk qX3_grow_38 ?_
          have e7 : jw32 (x1 + 1) = x1 + 1 := jzj32 (by omega)
          show jGo E l 85 229 229 _ 2 [.inr (.inr (.inl 84)), .inl (jw32 (x1 + 1))] [] 229 jr0 g
          exact ih (jw32 (x1 + 1)) g (by omega) (by exact fun t a b => ⟨(hx0 t a b).1, (hx0 t a b).2.1, fun c => (hx0 t a b).2.2 (by omega)⟩) (by rw [show jw32 (x1 + 1) = x1 + 1 by omega, jit_s (by omega), ← hx1]; subst ev1; unfold jGw; (repeat (first | rw [if_pos (by omega)] | rw [if_neg (by omega)])); all_goals ((try rw [e7]); (try rfl))) (by omega) hf (by omega)
        · replace c6 : ¬ t4 = 0 := by first | exact c6 | exact Int.not_le.mp c6 | exact Int.not_lt.mp c6 | exact Decidable.not_not.mp c6
          refine st_gr jo_84 jr_84_3 ?_
          refine st_ai jo_87 (show 0 ≤ x1 by omega) (show x1 < ((40 : Nat) : Int) by omega) (fun v8 ev8 b9 => ?_)
          replace ev8 : v8 = g 87 x1 := ev8
          replace b9 := (jba_87 x1 _).1 b9
          have hq1 := (hx0 x1 (by omega) (by omega)).2.2 (by omega); have hq2 := q0 x1 (by omega) (by omega)
          refine st_gr jo_84 jr_84_6 ?_
          refine st_gr jo_84 jr_84_1 ?_
          refine st_ai jo_85 (show 0 ≤ x1 by omega) (show x1 < ((40 : Nat) : Int) by omega) (fun v10 ev10 b11 => ?_)
          replace ev10 : v10 = g 85 x1 := ev10
          replace b11 := (jba_85 x1 _).1 b11
          refine st_ai jo_90 (show 0 ≤ v10 by omega) (show v10 < ((3 : Nat) : Int) by omega) (fun v12 ev12 b13 => ?_)
          replace ev12 : v12 = g 90 v10 := ev12
          replace b13 := (jba_90 v10 _).1 b13
          have e14 : jw32 (v8 + v12) = v8 + v12 := jzj32 (by omega)
          refine st_si jo_87 (show 0 ≤ x1 by omega) (show x1 < ((40 : Nat) : Int) by omega) (fun hx => (jba_87 _ _).2 hx) (fun g15 eg15 => ?_)
          replace eg15 : g15 = jup g 87 x1 (jw32 (v8 + v12)) := eg15
          have fg15 : jfr w_X3_grow h g15 := jfr_up hf eg15 (by unfold w_X3_grow; omega)
          have e16 : g15 87 x1 = jw32 (v8 + v12) := jup_s eg15
          show jGo E l 85 229 229 _ 38 [.inr (.inr (.inl 84)), .inl x1] [] 229 jr0 g15
          refine jGo_blk qX3_grow_38 ?_
          have e17 : jw32 (x1 + 1) = x1 + 1 := jzj32 (by omega)
          show jGo E l 85 229 229 _ 2 [.inr (.inr (.inl 84)), .inl (jw32 (x1 + 1))] [] 229 jr0 g15
          have hc18 : ∀ t : Int, 0 ≤ t → t < 40 → h 87 t ≤ g15 87 t ∧ g15 87 t ≤ h 87 t + 9 ∧ (jw32 (x1 + 1) ≤ t → g15 87 t = h 87 t) := by
            intro t a b
            by_cases q : t = x1
            · subst q; rw [jup_s eg15]; exact ⟨by omega, by omega, fun c => absurd c (by omega)⟩
            · have q2 := hx0 t a b; rw [jup_o eg15 (by first | exact fun q => absurd q.1 (by decide) | exact fun q => absurd q.2 (by decide) | omega)]; exact ⟨q2.1, q2.2.1, fun c => q2.2.2 (by omega)⟩
          have e19 : g15 84 0 = g 84 0 := jup_o eg15 (by first | exact fun q => absurd q.1 (by decide) | exact fun q => absurd q.2 (by decide) | omega)
          exact ih (jw32 (x1 + 1)) g15 (by omega) (by exact hc18) (by rw [show jw32 (x1 + 1) = x1 + 1 by omega, jit_s (by omega), ← hx1]; subst eg15 ev12 ev10 ev8 ev1; unfold jGw; (repeat (first | rw [if_pos (by omega)] | rw [if_neg (by omega)])); all_goals ((try rw [e17]); (try rw [e14]); (try rfl))) (by omega) fg15 (by omega)
  refine jGo_blk qX3_grow_0 ?_
  show jGo E l 85 229 229 _ 2 [.inr (.inr (.inl 84)), .inl 0] [] 229 jr0 h
  exact (key 1000000000000) 0 h (by omega) (by exact fun t _ _ => ⟨Int.le_refl _, by omega, fun _ => rfl⟩) (by rfl) (by omega) f0 (by omega)

def w_X11_days (i k : Int) : Prop := (i = 1) ∨ (i = 15) ∨ (30 ≤ i ∧ i ≤ 31) ∨ (34 ≤ i ∧ i ≤ 83) ∨ (i = 87) ∨ (107 ≤ i ∧ i ≤ 110) ∨ (i = 0 ∧ k = 0) ∨ (i = 11 ∧ k = 5) ∨ (i = 29 ∧ 6 ≤ k ∧ k ≤ 10) ∨ (i = 111 ∧ 9 ≤ k ∧ k ≤ 11)
theorem ws_X0_write_106__X11_days (i k : Int) (q : w_X0_write_106 i k) : w_X11_days i k := by
  unfold w_X0_write_106 at q; unfold w_X11_days
  rcases q with q | q | q
  · exact (Or.inr (Or.inl (by omega)))
  · exact (Or.inr (Or.inr (Or.inr (Or.inr (Or.inr (Or.inl (by omega)))))))
  · exact (Or.inr (Or.inr (Or.inr (Or.inr (Or.inr (Or.inr (Or.inr (Or.inl (by omega)))))))))
theorem ws_X10_passDay_29_106__X11_days (i k : Int) (q : w_X10_passDay_29_106 i k) : w_X11_days i k := by
  unfold w_X10_passDay_29_106 at q; unfold w_X11_days
  rcases q with q | q | q
  · exact (Or.inr (Or.inr (Or.inl (by omega))))
  · exact (Or.inr (Or.inr (Or.inr (Or.inl (by omega)))))
  · exact (Or.inr (Or.inr (Or.inr (Or.inr (Or.inr (Or.inr (Or.inr (Or.inr (Or.inl (by omega))))))))))
theorem ws_X3_grow__X11_days (i k : Int) (q : w_X3_grow i k) : w_X11_days i k := by
  unfold w_X3_grow at q; unfold w_X11_days
  exact (Or.inr (Or.inr (Or.inr (Or.inr (Or.inl (by omega))))))
theorem ws_X7_forget__X11_days (i k : Int) (q : w_X7_forget i k) : w_X11_days i k := by
  unfold w_X7_forget at q; unfold w_X11_days
  exact (Or.inr (Or.inr (Or.inr (Or.inr (Or.inr (Or.inr (Or.inr (Or.inr (Or.inr (by omega))))))))))
theorem ws_X10_lineUp_29__X11_days (i k : Int) (q : w_X10_lineUp_29 i k) : w_X11_days i k := by
  unfold w_X10_lineUp_29 at q; unfold w_X11_days
  rcases q with q | q
  · exact (Or.inr (Or.inr (Or.inr (Or.inl (by omega)))))
  · exact (Or.inr (Or.inr (Or.inr (Or.inr (Or.inr (Or.inr (Or.inr (Or.inr (Or.inl (by omega))))))))))
theorem ws_X2_rewind__X11_days (i k : Int) (q : w_X2_rewind i k) : w_X11_days i k := by
  unfold w_X2_rewind at q; unfold w_X11_days
  rcases q with q | q
  · exact (Or.inr (Or.inl (by omega)))
  · exact (Or.inr (Or.inr (Or.inr (Or.inr (Or.inr (Or.inr (Or.inr (Or.inl (by omega)))))))))
theorem ws_X11_refused__X11_days (i k : Int) (q : w_X11_refused i k) : w_X11_days i k := by
  unfold w_X11_refused at q; unfold w_X11_days
  exact (Or.inl (by omega))
def k_X11_days (a1 : Int) (h : JH) (v : Option JV) (r' g : JH) : Prop := r' = jr0 ∧ jfr w_X11_days h g ∧ ∃ x : Int, v = some (.inl x) ∧ (True) ∧ ((((jLG 0 g ∧ P_X11_days a1 h g) ∧ (((a1 < 0 ∨ 2000 - h 0 0 < a1) ∧ ∀ i k : Int, ¬ i = 1 → g i k = h i k) ∨ (0 ≤ a1 ∧ a1 ≤ 2000 - h 0 0 ∧ ∀ (fl : Prop) (hm : JH), jDR fl h hm → jDR fl g (jit jmDy (a1).toNat hm) ∧ jRft hm (jit jmDy (a1).toNat hm)))) ∧ ∀ i : Int, 36 ≤ i → i ≤ 83 → g i 10 = h i 10) ∧ jFg (a1 < 0 ∨ 2000 - h 0 0 < a1) h g)
set_option maxHeartbeats 4000000 in
theorem c_X11_days {E : JE} {l : Launch} (a1 : Int) (h : JH) (q0 : jLG 0 h) : jMt E l 86 [.inr (.inr (.inl 0)), .inl a1] 229 jr0 h (k_X11_days a1 h) := by
  refine jMt0 (nL := 5) (ls := [.inr (.inr (.inl 0)), .inl a1, .inr (.inr (.inr ())), .inr (.inr (.inr ())), .inr (.inr (.inr ()))]) (by decide +kernel) (by decide +kernel) (by decide +kernel) rfl rfl ?_
  have f0 : jfr w_X11_days h h := jfr_rf _ _
  have key : ∀ N : Nat, (∀ (x2 : Int) (x3 : Int) (x4 : Int) (g : JH), (0 ≤ a1 ∧ a1 ≤ 2000 ∧ 0 ≤ x2 ∧ x2 ≤ 0 ∧ 0 ≤ x4 ∧ x4 ≤ 2000) → (g 0 0 = h 0 0 + x4 ∧ x4 ≤ a1 ∧ h 0 0 + a1 ≤ 2000) → (jLG 0 g) → (∀ (fl : Prop) (hm : JH), jDR fl h hm → jDL fl g (jit jmDy (x4).toNat hm) ∧ jRft hm (jit jmDy (x4).toNat hm)) → (∀ i : Int, 36 ≤ i → i ≤ 83 → g i 10 = h i 10) → (g 111 9 = 0 ∧ g 111 10 = 0 ∧ g 111 11 = 0) → jfr w_X11_days h g → (2000 - x4) < (N : Int) → jGo E l 86 229 229 (jRK (k_X11_days a1 h)) 50 [.inr (.inr (.inl 0)), .inl a1, .inl x2, .inl x3, .inl x4] [] 229 jr0 g) := by
    intro N
    induction N with
    | zero => exact fun _ _ _ _ hi hx0 hx1 hx2 hx3 hx4 _ hN => absurd hN (by omega)
    | succ N ih =>
      intro x2 x3 x4 g hi hx0 hx1 hx2 hx3 hx4 hf hN
      refine jGo_ok (fun hls _ => ?_)
      have rx3 : -2147483648 ≤ x3 ∧ x3 ≤ 2147483647 := hls (.inl x3) (by simp)
      refine jGo_bd (fun hbdg => ?_)
      have hB : ∀ t : Int, -2147483648 ≤ g 87 t ∧ g 87 t ≤ 2147483647 := fun t => (jba_87 t _).1 (hbdg 87 t)
      refine jGo_blk qX11_days_50 ?_
      refine And.intro (fun c1 => ?_) (fun c1 => ?_)
      · replace c1 : a1 ≤ x4 := c1
        show jGo E l 86 229 229 _ 133 [.inr (.inr (.inl 0)), .inl a1, .inl x2, .inl x3, .inl x4] [] 229 jr0 g
        refine jGo_blk qX11_days_133 ?_
        have hc2 : ∀ i : Int, 36 ≤ i → i ≤ 83 → g i 10 = h i 10 := fun i p1 p2 => (hx3 i p1 p2)
        exact st_r0 (ls := []) ⟨rfl, rfl, hf, x3, rfl, trivial, (by refine ⟨by refine ⟨by refine ⟨by exact ⟨hx1, by unfold P_X11_days; omega⟩, Or.inr ⟨by omega, by omega, fun fl hm S => by rw [show a1 = x4 by omega]; exact ⟨(hx2 fl hm S).1.1, (hx2 fl hm S).2⟩⟩⟩, ?_⟩; exact hc2, Or.inl ?_⟩; exact ⟨hx4.1, hx4.2.1, hx4.2.2⟩)⟩
      · replace c1 : x4 < a1 := by first | exact c1 | exact Int.not_le.mp c1 | exact Int.not_lt.mp c1 | exact Decidable.not_not.mp c1
        refine st_gi jo_0 (fun v3 ev3 b4 => ?_)
        replace ev3 : v3 = g 0 0 := ev3
        replace b4 := (jbf_11_0 jo_0 _).1 b4
        have e5 : jw32 (v3 + 1) = v3 + 1 := jzj32 (by omega)
        refine st_pi jo_0 (fun hx => (jbf_11_0 jo_0 _).2 (show 0 ≤ jw32 (v3 + 1) ∧ jw32 (v3 + 1) ≤ 2000 by omega)) (fun g6 eg6 => ?_)
        replace eg6 : g6 = jup g 0 0 (jw32 (v3 + 1)) := eg6
        have fg6 : jfr w_X11_days h g6 := jfr_up hf eg6 (by unfold w_X11_days; omega)
        have e7 : g6 0 0 = jw32 (v3 + 1) := jup_s eg6
        have lg8 : jLG 1 g6 := jLG_day hx1 eg6 (by omega) (by omega)
        refine st_gr jo_0 jr_0_10 ?_
        refine st_gi jo_0 (fun v9 ev9 b10 => ?_)
        replace ev9 : v9 = g6 0 0 := ev9
        replace b10 := (jbf_11_0 jo_0 _).1 b10
        refine st_gr jo_0 jr_0_2 ?_
        refine st_gr jo_0 jr_0_3 ?_
        refine st_cv (na := 4) (st := [.inr (.inr (.inl 11)), .inr (.inr (.inl 2)), .inl v9, .inl 0, .inr (.inr (.inl 106))]) jo_106 rfl rfl rfl (c_X0_write_106 0 v9 g6 (by omega) (by omega)) rfl ?_
        rintro _ _ g12 ⟨rfl, ft11, rfl, zt11⟩ kt11
        have fg12 : jfr w_X11_days h g12 := jfr_tr fg6 ft11 ws_X0_write_106__X11_days
        replace zt11 : jWri 107 (0 : Int) v9 g6 g12 := zt11
        have lg13 : jLG 1 g12 := jLG_fr (ft11 0 0 (by unfold w_X0_write_106; omega)) (fun t => ft11 87 t (by unfold w_X0_write_106; omega)) lg8
        refine st_gr jo_0 jr_0_5 ?_
        refine st_gi jo_0 (fun v14 ev14 b15 => ?_)
        replace ev14 : v14 = g12 0 0 := ev14
        replace b15 := (jbf_11_0 jo_0 _).1 b15
        have e16 : g12 0 0 = g6 0 0 := ft11 0 0 (by unfold w_X0_write_106; omega)
        refine st_gr jo_0 jr_0_10 ?_
        refine st_gr jo_0 jr_0_4 ?_
        refine st_cv (na := 4) (st := [.inr (.inr (.inl 16)), .inl 0, .inr (.inr (.inl 106)), .inl v14, .inr (.inr (.inl 29)), .inl x3]) jo_29 rfl rfl rfl (c_X10_passDay_29_106 v14 0 g12 (by omega) (by omega)) rfl ?_
        rintro _ _ g18 ⟨rfl, ft17, t17, rfl, ht17, zt17⟩ kt17
        replace kt17 : -2147483648 ≤ t17 ∧ t17 ≤ 2147483647 := kt17
        have fg18 : jfr w_X11_days h g18 := jfr_tr fg12 ft17 ws_X10_passDay_29_106__X11_days
        replace zt17 : (t17 = jMc 31 36 g12) ∧ g18 = jPD 29 30 31 36 34 35 107 108 109 110 v14 (0 : Int) g12 := zt17
        have lg19 : jLG 1 g18 := jLG_fr (ft17 0 0 (by unfold w_X10_passDay_29_106; omega)) (fun t => ft17 87 t (by unfold w_X10_passDay_29_106; omega)) lg13
        refine st_gi jo_0 (fun v20 ev20 b21 => ?_)
        replace ev20 : v20 = g18 0 0 := ev20
        replace b21 := (jbf_11_0 jo_0 _).1 b21
        have e22 : g18 0 0 = g12 0 0 := ft17 0 0 (by unfold w_X10_passDay_29_106; omega)
        refine And.intro (show 360 ≠ 0 by omega) ?_
        have e23 : v20.tmod 360 = v20 % 360 ∧ 0 ≤ v20.tmod 360 ∧ v20.tmod 360 < 360 := jmd (by omega) (by omega)
        refine And.intro (fun c24 => ?_) (fun c24 => ?_)
        · replace c24 : ¬ v20.tmod 360 = 0 := c24
          show jGo E l 86 229 229 _ 127 [.inr (.inr (.inl 0)), .inl a1, .inl x2, .inl (jw32 (x3 + t17)), .inl x4] [] 229 jr0 g18
          refine jGo_blk qX11_days_127 ?_
          have e25 : jw32 (x4 + 1) = x4 + 1 := jzj32 (by omega)
          show jGo E l 86 229 229 _ 50 [.inr (.inr (.inl 0)), .inl a1, .inl x2, .inl (jw32 (x3 + t17)), .inl (jw32 (x4 + 1))] [] 229 jr0 g18
          have hc26 : ∀ (fl : Prop) (hm : JH), jDR fl h hm → jDL fl g18 (jit jmDy (jw32 (x4 + 1)).toNat hm) ∧ jRft hm (jit jmDy (jw32 (x4 + 1)).toNat hm) := by
            intro fl hm S
            rw [show jw32 (x4 + 1) = x4 + 1 by omega, jit_s (by omega)]
            have w9 := zt11; rw [show v9 = g 0 0 + 1 by omega] at w9
            have p9 := zt17.2; rw [show v14 = g 0 0 + 1 by omega] at p9
            have k9 := jD_step (hx2 fl hm S).1 (eg6.trans (by rw [show jw32 (v3 + 1) = g 0 0 + 1 by omega])) w9 (fun i k q1 q2 q3 => ft11 i k (by unfold w_X0_write_106; omega)) p9 (Or.inr ⟨fun z9 => c24 ((show (g 0 0 + 1).tmod 360 = 0 ↔ v20.tmod 360 = 0 by rw [show g 0 0 + 1 = v20 by omega]).1 z9), rfl⟩) hB
            exact ⟨k9.1, fun b => (k9.2 b).trans ((hx2 fl hm S).2 b)⟩
          have hc27 : ∀ i : Int, 36 ≤ i → i ≤ 83 → g18 i 10 = h i 10 := fun i p1 p2 => (((congrFun (congrFun zt17.2 i) 10).trans (jT0_pd _ i p1 p2)).trans ((ft11 i 10 (by unfold w_X0_write_106; omega)).trans ((jup_o eg6 (by first | exact fun q => absurd q.1 (by decide) | exact fun q => absurd q.2 (by decide) | omega)).trans (hx3 i p1 p2))))
          have e28 : g18 111 9 = g12 111 9 := ft17 111 9 (by unfold w_X10_passDay_29_106; omega)
          have e29 : g12 111 9 = g6 111 9 := ft11 111 9 (by unfold w_X0_write_106; omega)
          have e30 : g6 111 9 = g 111 9 := jup_o eg6 (by first | exact fun q => absurd q.1 (by decide) | exact fun q => absurd q.2 (by decide) | omega)
          have e31 : g18 111 10 = g12 111 10 := ft17 111 10 (by unfold w_X10_passDay_29_106; omega)
          have e32 : g12 111 10 = g6 111 10 := ft11 111 10 (by unfold w_X0_write_106; omega)
          have e33 : g6 111 10 = g 111 10 := jup_o eg6 (by first | exact fun q => absurd q.1 (by decide) | exact fun q => absurd q.2 (by decide) | omega)
          have e34 : g18 111 11 = g12 111 11 := ft17 111 11 (by unfold w_X10_passDay_29_106; omega)
          have e35 : g12 111 11 = g6 111 11 := ft11 111 11 (by unfold w_X0_write_106; omega)
          have e36 : g6 111 11 = g 111 11 := jup_o eg6 (by first | exact fun q => absurd q.1 (by decide) | exact fun q => absurd q.2 (by decide) | omega)
          exact ih x2 (jw32 (x3 + t17)) (jw32 (x4 + 1)) g18 (by omega) (by omega) (by exact (jLG_w lg19)) (by exact hc26) (by exact hc27) (by exact ⟨(((ft17 111 9 (by unfold w_X10_passDay_29_106; omega)).trans ((ft11 111 9 (by unfold w_X0_write_106; omega)).trans (jup_o eg6 (by first | exact fun q => absurd q.1 (by decide) | exact fun q => absurd q.2 (by decide) | omega))))).trans hx4.1, (((ft17 111 10 (by unfold w_X10_passDay_29_106; omega)).trans ((ft11 111 10 (by unfold w_X0_write_106; omega)).trans (jup_o eg6 (by first | exact fun q => absurd q.1 (by decide) | exact fun q => absurd q.2 (by decide) | omega))))).trans hx4.2.1, (((ft17 111 11 (by unfold w_X10_passDay_29_106; omega)).trans ((ft11 111 11 (by unfold w_X0_write_106; omega)).trans (jup_o eg6 (by first | exact fun q => absurd q.1 (by decide) | exact fun q => absurd q.2 (by decide) | omega))))).trans hx4.2.2⟩) fg18 (by omega)
        · replace c24 : v20.tmod 360 = 0 := by first | exact c24 | exact Int.not_le.mp c24 | exact Int.not_lt.mp c24 | exact Decidable.not_not.mp c24
          refine st_gr jo_0 jr_0_6 ?_
          refine st_cv (na := 0) (st := [.inr (.inr (.inl 84))]) jo_84 rfl rfl rfl (c_X3_grow g18 (jLG_ok lg19)) rfl ?_
          rintro _ _ g38 ⟨rfl, ft37, rfl, zt37⟩ kt37
          have fg38 : jfr w_X11_days h g38 := jfr_tr fg18 ft37 ws_X3_grow__X11_days
          replace zt37 : (∀ t : Int, 0 ≤ t → t < 40 → g18 87 t ≤ g38 87 t ∧ g38 87 t ≤ g18 87 t + 9) ∧ g38 = jit jGw (g18 84 0).toNat g18 := zt37
          have lg39 : jLG 0 g38 := jLG_grow (ft37 0 0 (by unfold w_X3_grow; omega)) zt37.1 lg19
          show jGo E l 86 229 229 _ 127 [.inr (.inr (.inl 0)), .inl a1, .inl x2, .inl (jw32 (x3 + t17)), .inl x4] [] 229 jr0 g38
          refine jGo_blk qX11_days_127 ?_
          have e40 : jw32 (x4 + 1) = x4 + 1 := jzj32 (by omega)
          show jGo E l 86 229 229 _ 50 [.inr (.inr (.inl 0)), .inl a1, .inl x2, .inl (jw32 (x3 + t17)), .inl (jw32 (x4 + 1))] [] 229 jr0 g38
          have e41 : g38 0 0 = g18 0 0 := ft37 0 0 (by unfold w_X3_grow; omega)
          have hc42 : ∀ (fl : Prop) (hm : JH), jDR fl h hm → jDL fl g38 (jit jmDy (jw32 (x4 + 1)).toNat hm) ∧ jRft hm (jit jmDy (jw32 (x4 + 1)).toNat hm) := by
            intro fl hm S
            rw [show jw32 (x4 + 1) = x4 + 1 by omega, jit_s (by omega)]
            have w9 := zt11; rw [show v9 = g 0 0 + 1 by omega] at w9
            have p9 := zt17.2; rw [show v14 = g 0 0 + 1 by omega] at p9
            have k9 := jD_step (hx2 fl hm S).1 (eg6.trans (by rw [show jw32 (v3 + 1) = g 0 0 + 1 by omega])) w9 (fun i k q1 q2 q3 => ft11 i k (by unfold w_X0_write_106; omega)) p9 (Or.inl ⟨(show (g 0 0 + 1).tmod 360 = 0 ↔ v20.tmod 360 = 0 by rw [show g 0 0 + 1 = v20 by omega]).2 c24, zt37.2⟩) hB
            exact ⟨k9.1, fun b => (k9.2 b).trans ((hx2 fl hm S).2 b)⟩
          have hc43 : ∀ i : Int, 36 ≤ i → i ≤ 83 → g38 i 10 = h i 10 := fun i p1 p2 => ((ft37 i 10 (by unfold w_X3_grow; omega)).trans (((congrFun (congrFun zt17.2 i) 10).trans (jT0_pd _ i p1 p2)).trans ((ft11 i 10 (by unfold w_X0_write_106; omega)).trans ((jup_o eg6 (by first | exact fun q => absurd q.1 (by decide) | exact fun q => absurd q.2 (by decide) | omega)).trans (hx3 i p1 p2)))))
          have e44 : g38 111 9 = g18 111 9 := ft37 111 9 (by unfold w_X3_grow; omega)
          have e45 : g18 111 9 = g12 111 9 := ft17 111 9 (by unfold w_X10_passDay_29_106; omega)
          have e46 : g12 111 9 = g6 111 9 := ft11 111 9 (by unfold w_X0_write_106; omega)
          have e47 : g6 111 9 = g 111 9 := jup_o eg6 (by first | exact fun q => absurd q.1 (by decide) | exact fun q => absurd q.2 (by decide) | omega)
          have e48 : g38 111 10 = g18 111 10 := ft37 111 10 (by unfold w_X3_grow; omega)
          have e49 : g18 111 10 = g12 111 10 := ft17 111 10 (by unfold w_X10_passDay_29_106; omega)
          have e50 : g12 111 10 = g6 111 10 := ft11 111 10 (by unfold w_X0_write_106; omega)
          have e51 : g6 111 10 = g 111 10 := jup_o eg6 (by first | exact fun q => absurd q.1 (by decide) | exact fun q => absurd q.2 (by decide) | omega)
          have e52 : g38 111 11 = g18 111 11 := ft37 111 11 (by unfold w_X3_grow; omega)
          have e53 : g18 111 11 = g12 111 11 := ft17 111 11 (by unfold w_X10_passDay_29_106; omega)
          have e54 : g12 111 11 = g6 111 11 := ft11 111 11 (by unfold w_X0_write_106; omega)
          have e55 : g6 111 11 = g 111 11 := jup_o eg6 (by first | exact fun q => absurd q.1 (by decide) | exact fun q => absurd q.2 (by decide) | omega)
          exact ih x2 (jw32 (x3 + t17)) (jw32 (x4 + 1)) g38 (by omega) (by omega) (by exact lg39) (by exact hc42) (by exact hc43) (by exact ⟨(((ft37 111 9 (by unfold w_X3_grow; omega)).trans ((ft17 111 9 (by unfold w_X10_passDay_29_106; omega)).trans ((ft11 111 9 (by unfold w_X0_write_106; omega)).trans (jup_o eg6 (by first | exact fun q => absurd q.1 (by decide) | exact fun q => absurd q.2 (by decide) | omega)))))).trans hx4.1, (((ft37 111 10 (by unfold w_X3_grow; omega)).trans ((ft17 111 10 (by unfold w_X10_passDay_29_106; omega)).trans ((ft11 111 10 (by unfold w_X0_write_106; omega)).trans (jup_o eg6 (by first | exact fun q => absurd q.1 (by decide) | exact fun q => absurd q.2 (by decide) | omega)))))).trans hx4.2.1, (((ft37 111 11 (by unfold w_X3_grow; omega)).trans ((ft17 111 11 (by unfold w_X10_passDay_29_106; omega)).trans ((ft11 111 11 (by unfold w_X0_write_106; omega)).trans (jup_o eg6 (by first | exact fun q => absurd q.1 (by decide) | exact fun q => absurd q.2 (by decide) | omega)))))).trans hx4.2.2⟩) fg38 (by omega)
  refine jGo_blk qX11_days_0 ?_
  refine st_gi jo_0 (fun v56 ev56 b57 => ?_)
  replace ev56 : v56 = h 0 0 := ev56
  replace b57 := (jbf_11_0 jo_0 _).1 b57
  have e58 : jw32 (2000 - v56) = 2000 - v56 := jzj32 (by omega)
  refine st_cs (na := 3) (st := [.inl (jw32 (2000 - v56)), .inl 0, .inl a1]) rfl rfl rfl (c_X11_outside a1 0 (jw32 (2000 - v56)) h) rfl ?_
  rintro _ _ _ ⟨rfl, rfl, t59, rfl, ht59, zt59⟩ kt59
  replace kt59 : -2147483648 ≤ t59 ∧ t59 ≤ 2147483647 := kt59
  replace ht59 : -6 ≤ t59 ∧ t59 ≤ 0 := ht59
  replace zt59 : (t59 = -4 ∧ a1 < (0 : Int)) ∨ (t59 = -6 ∧ (0 : Int) ≤ a1 ∧ (jw32 (2000 - v56)) < a1) ∨ (t59 = 0 ∧ (0 : Int) ≤ a1 ∧ a1 ≤ (jw32 (2000 - v56))) := zt59
  refine And.intro (fun c61 => ?_) (fun c61 => ?_)
  · replace c61 : t59 = 0 := c61
    show jGo E l 86 229 229 _ 24 [.inr (.inr (.inl 0)), .inl a1, .inl t59, .inr (.inr (.inr ())), .inr (.inr (.inr ()))] [] 229 jr0 h
    refine jGo_blk qX11_days_24 ?_
    refine st_gr jo_0 jr_0_11 ?_
    refine st_cv (na := 0) (st := [.inr (.inr (.inl 111))]) jo_111 rfl rfl rfl (c_X7_forget h) rfl ?_
    rintro _ _ g63 ⟨rfl, ft62, rfl, zt62⟩ kt62
    have fg63 : jfr w_X11_days h g63 := jfr_tr f0 ft62 ws_X7_forget__X11_days
    replace zt62 : g63 111 9 = 0 ∧ g63 111 10 = 0 ∧ g63 111 11 = 0 := zt62
    have lg64 : jLG 0 g63 := jLG_fr (ft62 0 0 (by unfold w_X7_forget; omega)) (fun t => ft62 87 t (by unfold w_X7_forget; omega)) q0
    refine st_gr jo_0 jr_0_5 ?_
    refine st_cv (na := 0) (st := [.inr (.inr (.inl 29))]) jo_29 rfl rfl rfl (c_X10_lineUp_29 g63) rfl ?_
    rintro _ _ g66 ⟨rfl, ft65, rfl, zt65⟩ kt65
    have fg66 : jfr w_X11_days h g66 := jfr_tr fg63 ft65 ws_X10_lineUp_29__X11_days
    replace zt65 : jHo g63 g66 (g63 29 4) (g66 29 6) (g66 29 6) ∧ 0 ≤ g66 29 6 ∧ g66 29 6 ≤ 16 := zt65
    have lg67 : jLG 0 g66 := jLG_fr (ft65 0 0 (by unfold w_X10_lineUp_29; omega)) (fun t => ft65 87 t (by unfold w_X10_lineUp_29; omega)) lg64
    refine st_gr jo_0 jr_0_3 ?_
    refine st_cv (na := 0) (st := [.inr (.inr (.inl 11))]) jo_11 rfl rfl rfl (c_X2_rewind g66) rfl ?_
    rintro _ _ g69 ⟨rfl, ft68, rfl, zt68⟩ kt68
    have fg69 : jfr w_X11_days h g69 := jfr_tr fg66 ft68 ws_X2_rewind__X11_days
    replace zt68 : (∀ t : Int, 0 ≤ t → t ≤ 9 → g69 15 t = if t = 9 then 60 else 0) ∧ g69 11 5 = 0 := zt68
    have lg70 : jLG 0 g69 := jLG_fr (ft68 0 0 (by unfold w_X2_rewind; omega)) (fun t => ft68 87 t (by unfold w_X2_rewind; omega)) lg67
    show jGo E l 86 229 229 _ 50 [.inr (.inr (.inl 0)), .inl a1, .inl t59, .inl 0, .inl 0] [] 229 jr0 g69
    have e71 : g69 0 0 = g66 0 0 := ft68 0 0 (by unfold w_X2_rewind; omega)
    have e72 : g66 0 0 = g63 0 0 := ft65 0 0 (by unfold w_X10_lineUp_29; omega)
    have e73 : g63 0 0 = h 0 0 := ft62 0 0 (by unfold w_X7_forget; omega)
    refine jGo_bd (fun hbd75 => ?_)
    have hc74 : ∀ (fl : Prop) (hm : JH), jDR fl h hm → jDL fl g69 (jit jmDy (0 : Int).toNat hm) ∧ jRft hm (jit jmDy (0 : Int).toNat hm) := fun fl hm S => ⟨jDL_0 S (fun i k q => ft62 i k (by unfold jwk at q; unfold w_X7_forget; omega)) (fun i k q1 q2 => ft65 i k (by unfold w_X10_lineUp_29; omega)) zt65 (fun i k q1 q2 => ft68 i k (by unfold w_X2_rewind; omega)) zt68 ((jbf_2_0 jo_11 _).1 (hbd75 11 0)).1, fun _ => Iff.rfl⟩
    have hc76 : ∀ i : Int, 36 ≤ i → i ≤ 83 → g69 i 10 = h i 10 := fun i p1 p2 => ((ft68 i 10 (by unfold w_X2_rewind; omega)).trans ((ft65 i 10 (by unfold w_X10_lineUp_29; omega)).trans (ft62 i 10 (by unfold w_X7_forget; omega))))
    have e77 : g69 111 9 = g66 111 9 := ft68 111 9 (by unfold w_X2_rewind; omega)
    have e78 : g66 111 9 = g63 111 9 := ft65 111 9 (by unfold w_X10_lineUp_29; omega)
    have e79 : g69 111 10 = g66 111 10 := ft68 111 10 (by unfold w_X2_rewind; omega)
    have e80 : g66 111 10 = g63 111 10 := ft65 111 10 (by unfold w_X10_lineUp_29; omega)
    have e81 : g69 111 11 = g66 111 11 := ft68 111 11 (by unfold w_X2_rewind; omega)
    have e82 : g66 111 11 = g63 111 11 := ft65 111 11 (by unfold w_X10_lineUp_29; omega)
    exact (key 1000000000000) t59 0 0 g69 (by omega) (by omega) (by exact lg70) (by exact hc74) (by exact hc76) (by exact ⟨(((ft68 111 9 (by unfold w_X2_rewind; omega)).trans (ft65 111 9 (by unfold w_X10_lineUp_29; omega)))).trans zt62.1, (((ft68 111 10 (by unfold w_X2_rewind; omega)).trans (ft65 111 10 (by unfold w_X10_lineUp_29; omega)))).trans zt62.2.1, (((ft68 111 11 (by unfold w_X2_rewind; omega)).trans (ft65 111 11 (by unfold w_X10_lineUp_29; omega)))).trans zt62.2.2⟩) fg69 (by omega)
  · replace c61 : ¬ t59 = 0 := by first | exact c61 | exact Int.not_le.mp c61 | exact Int.not_lt.mp c61 | exact Decidable.not_not.mp c61
    refine st_cv (na := 1) (st := [.inl t59, .inr (.inr (.inl 0))]) jo_0 rfl rfl rfl (c_X11_refused t59 h (by omega)) rfl ?_
    rintro _ _ g84 ⟨rfl, ft83, t83, rfl, ht83, zt83⟩ kt83
    replace kt83 : -2147483648 ≤ t83 ∧ t83 ≤ 2147483647 := kt83
    replace ht83 : -7 ≤ t83 ∧ t83 ≤ -1 := ht83
    have fg84 : jfr w_X11_days h g84 := jfr_tr f0 ft83 ws_X11_refused__X11_days
    replace zt83 : t83 = t59 := zt83
    have lg85 : jLG 0 g84 := jLG_fr (ft83 0 0 (by unfold w_X11_refused; omega)) (fun t => ft83 87 t (by unfold w_X11_refused; omega)) q0
    have e86 : g84 0 0 = h 0 0 := ft83 0 0 (by unfold w_X11_refused; omega)
    have hs87 : ∀ i k : Int, ¬ i = 1 → g84 i k = h i k := fun i k p1 => (ft83 i k (by first | exact p1 | (unfold w_X11_refused; omega)))
    have hc88 : ∀ i : Int, 36 ≤ i → i ≤ 83 → g84 i 10 = h i 10 := fun i p1 p2 => (ft83 i 10 (by unfold w_X11_refused; omega))
    exact st_r0 (ls := []) ⟨rfl, rfl, fg84, t83, rfl, trivial, (by refine ⟨by refine ⟨by refine ⟨by exact ⟨lg85, by unfold P_X11_days; omega⟩, Or.inl ⟨by omega, hs87⟩⟩, ?_⟩; exact hc88, Or.inr ⟨by omega, fun i k p1 => (ft83 i k (by first | exact p1 | (unfold w_X11_refused; omega)))⟩⟩)⟩
