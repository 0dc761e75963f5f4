def w_X7_tryOut_29_34 (i k : Int) : Prop := (120 ≤ i ∧ i ≤ 121) ∨ (124 ≤ i ∧ i ≤ 173) ∨ (i = 119 ∧ 6 ≤ k ∧ k ≤ 10)
def k_X7_tryOut_29_34 (a3 : Int) (h : JH) (v : Option JV) (r' g : JH) : Prop := r' = jr0 ∧ jfr w_X7_tryOut_29_34 h g ∧ v = none ∧ (True)
set_option maxHeartbeats 4000000 in
theorem c_X7_tryOut_29_34 {E : JE} {l : Launch} (a3 : Int) (h : JH) (p3 : 0 ≤ a3 ∧ a3 ≤ 16) : jMt E l 144 [.inr (.inr (.inl 111)), .inr (.inr (.inl 29)), .inr (.inr (.inl 34)), .inl a3, .inr (.inr (.inl 16))] 229 jr0 h (k_X7_tryOut_29_34 a3 h) := by
  refine jMt0 (nL := 8) (ls := [.inr (.inr (.inl 111)), .inr (.inr (.inl 29)), .inr (.inr (.inl 34)), .inl a3, .inr (.inr (.inl 16)), .inr (.inr (.inr ())), .inr (.inr (.inr ())), .inr (.inr (.inr ()))]) (by decide +kernel) (by decide +kernel) (by decide +kernel) rfl rfl ?_
  have f0 : jfr w_X7_tryOut_29_34 h h := jfr_rf _ _
  have key : ∀ N : Nat, (∀ (x5 : Int) (x6 : Int) (x7 : Int) (g : JH), (0 ≤ x6 ∧ x6 ≤ 1 ∧ 0 ≤ x7 ∧ x7 ≤ 300) → jfr w_X7_tryOut_29_34 h g → (300 - x7) < (N : Int) → jGo E l 144 229 229 (jRK (k_X7_tryOut_29_34 a3 h)) 19 [.inr (.inr (.inl 111)), .inr (.inr (.inl 29)), .inr (.inr (.inl 34)), .inl a3, .inr (.inr (.inl 16)), .inl x5, .inl x6, .inl x7] [] 229 jr0 g) := by
    intro N
    induction N with
    | zero => exact fun _ _ _ _ hi _ hN => absurd hN (by omega)
    | succ N ih =>
      intro x5 x6 x7 g hi hf hN
      refine jGo_ok (fun hls _ => ?_)
      have rx5 : -2147483648 ≤ x5 ∧ x5 ≤ 2147483647 := hls (.inl x5) (by simp)
      refine jGo_blk qX7_tryOut_19 ?_
      refine And.intro (fun c1 => ?_) (fun c1 => ?_)
      · replace c1 : 300 ≤ x7 := c1
        show jGo E l 144 229 229 _ 99 [.inr (.inr (.inl 111)), .inr (.inr (.inl 29)), .inr (.inr (.inl 34)), .inl a3, .inr (.inr (.inl 16)), .inl x5, .inl x6, .inl x7] [] 229 jr0 g
        refine jGo_blk qX7_tryOut_99 ?_
        exact ⟨rfl, rfl, hf, rfl, trivial⟩
      · replace c1 : x7 < 300 := by first | exact c1 | exact Int.not_le.mp c1 | exact Int.not_lt.mp c1 | exact Decidable.not_not.mp c1
        refine And.intro (fun c2 => ?_) (fun c2 => ?_)
        · replace c2 : a3 ≤ x5 := c2
          show jGo E l 144 229 229 _ 99 [.inr (.inr (.inl 111)), .inr (.inr (.inl 29)), .inr (.inr (.inl 34)), .inl a3, .inr (.inr (.inl 16)), .inl x5, .inl x6, .inl x7] [] 229 jr0 g
          refine jGo_blk qX7_tryOut_99 ?_
          exact ⟨rfl, rfl, hf, rfl, trivial⟩
        · replace c2 : x5 < a3 := by first | exact c2 | exact Int.not_le.mp c2 | exact Int.not_lt.mp c2 | exact Decidable.not_not.mp c2
          refine And.intro (fun c3 => ?_) (fun c3 => ?_)
          · replace c3 : x6 = 0 := c3
            show jGo E l 144 229 229 _ 99 [.inr (.inr (.inl 111)), .inr (.inr (.inl 29)), .inr (.inr (.inl 34)), .inl a3, .inr (.inr (.inl 16)), .inl x5, .inl x6, .inl x7] [] 229 jr0 g
            refine jGo_blk qX7_tryOut_99 ?_
            exact ⟨rfl, rfl, hf, rfl, trivial⟩
          · replace c3 : ¬ x6 = 0 := by first | exact c3 | exact Int.not_le.mp c3 | exact Int.not_lt.mp c3 | exact Decidable.not_not.mp c3
            refine st_gr jo_111 jr_111_6 ?_
            refine st_gi jo_111 (fun v4 ev4 b5 => ?_)
            replace ev4 : v4 = g 111 3 := ev4
            replace b5 := (jbf_7_3 jo_111 _).1 b5
            have e6 : jw32 (v4 + 1) = v4 + 1 := j32e (by omega) (by omega)
            have e7 : jw32 ((jw32 (v4 + 1)) + x7) = (jw32 (v4 + 1)) + x7 := j32e (by omega) (by omega)
            refine st_gr jo_111 jr_111_4 ?_
            refine st_cv (na := 4) (st := [.inr (.inr (.inl 16)), .inl x7, .inr (.inr (.inl 113)), .inl (jw32 ((jw32 (v4 + 1)) + x7)), .inr (.inr (.inl 119)), .inl x5]) jo_119 rfl rfl rfl (c_X10_passDay_119_113 (jw32 ((jw32 (v4 + 1)) + x7)) x7 g (by omega) (by omega)) rfl ?_
            rintro _ _ g9 ⟨rfl, ft8, t8, rfl, ht8, zt8⟩ kt8
            replace kt8 : -2147483648 ≤ t8 ∧ t8 ≤ 2147483647 := kt8
            have fg9 : jfr w_X7_tryOut_29_34 h g9 := jfr_tr hf ft8 (fun i k q => by unfold w_X10_passDay_119_113 at q; unfold w_X7_tryOut_29_34; omega)
            replace zt8 : g9 = jPD 119 120 121 126 124 125 114 115 116 117 (jw32 ((jw32 (v4 + 1)) + x7)) x7 g := zt8
            refine st_gr jo_111 jr_111_6 ?_
            refine st_gi jo_119 (fun v10 ev10 b11 => ?_)
            replace ev10 : v10 = g9 119 10 := ev10
            replace b11 := (jbf_10_10 jo_119 _).1 b11
            refine And.intro (fun c12 => ?_) (fun c12 => ?_)
            · replace c12 : ¬ v10 = 0 := c12
              show jGo E l 144 229 229 _ 86 [.inr (.inr (.inl 111)), .inr (.inr (.inl 29)), .inr (.inr (.inl 34)), .inl a3, .inr (.inr (.inl 16)), .inl (jw32 (x5 + t8)), .inl x6, .inl x7] [] 229 jr0 g9
              refine jGo_blk qX7_tryOut_86 ?_
              show jGo E l 144 229 229 _ 91 [.inr (.inr (.inl 111)), .inr (.inr (.inl 29)), .inr (.inr (.inl 34)), .inl a3, .inr (.inr (.inl 16)), .inl (jw32 (x5 + t8)), .inl x6, .inl x7] [.inl 1] 229 jr0 g9
              refine jGo_blk qX7_tryOut_91 ?_
              have e13 : jw32 (x7 + 1) = x7 + 1 := j32e (by omega) (by omega)
              show jGo E l 144 229 229 _ 19 [.inr (.inr (.inl 111)), .inr (.inr (.inl 29)), .inr (.inr (.inl 34)), .inl a3, .inr (.inr (.inl 16)), .inl (jw32 (x5 + t8)), .inl 1, .inl (jw32 (x7 + 1))] [] 229 jr0 g9
              exact ih (jw32 (x5 + t8)) 1 (jw32 (x7 + 1)) g9 (by omega) fg9 (by omega)
            · replace c12 : v10 = 0 := by first | exact c12 | exact Int.not_le.mp c12 | exact Int.not_lt.mp c12 | exact Decidable.not_not.mp c12
              refine st_cv (na := 1) (st := [.inl x7, .inr (.inr (.inl 111))]) jo_111 rfl rfl rfl (c_X7_workIsAhead x7 g9) rfl ?_
              rintro _ _ _ ⟨rfl, rfl, t14, rfl, ht14, zt14⟩ kt14
              replace kt14 : -2147483648 ≤ t14 ∧ t14 ≤ 2147483647 := kt14
              replace ht14 : 0 ≤ t14 ∧ t14 ≤ 1 := ht14
              refine And.intro (fun c16 => ?_) (fun c16 => ?_)
              · replace c16 : t14 = 0 := c16
                show jGo E l 144 229 229 _ 90 [.inr (.inr (.inl 111)), .inr (.inr (.inl 29)), .inr (.inr (.inl 34)), .inl a3, .inr (.inr (.inl 16)), .inl (jw32 (x5 + t8)), .inl x6, .inl x7] [] 229 jr0 g9
                refine jGo_blk qX7_tryOut_90 ?_
                show jGo E l 144 229 229 _ 91 [.inr (.inr (.inl 111)), .inr (.inr (.inl 29)), .inr (.inr (.inl 34)), .inl a3, .inr (.inr (.inl 16)), .inl (jw32 (x5 + t8)), .inl x6, .inl x7] [.inl 0] 229 jr0 g9
                refine jGo_blk qX7_tryOut_91 ?_
                have e17 : jw32 (x7 + 1) = x7 + 1 := j32e (by omega) (by omega)
                show jGo E l 144 229 229 _ 19 [.inr (.inr (.inl 111)), .inr (.inr (.inl 29)), .inr (.inr (.inl 34)), .inl a3, .inr (.inr (.inl 16)), .inl (jw32 (x5 + t8)), .inl 0, .inl (jw32 (x7 + 1))] [] 229 jr0 g9
                exact ih (jw32 (x5 + t8)) 0 (jw32 (x7 + 1)) g9 (by omega) fg9 (by omega)
              · replace c16 : ¬ t14 = 0 := by first | exact c16 | exact Int.not_le.mp c16 | exact Int.not_lt.mp c16 | exact Decidable.not_not.mp c16
                show jGo E l 144 229 229 _ 86 [.inr (.inr (.inl 111)), .inr (.inr (.inl 29)), .inr (.inr (.inl 34)), .inl a3, .inr (.inr (.inl 16)), .inl (jw32 (x5 + t8)), .inl x6, .inl x7] [] 229 jr0 g9
                refine jGo_blk qX7_tryOut_86 ?_
                show jGo E l 144 229 229 _ 91 [.inr (.inr (.inl 111)), .inr (.inr (.inl 29)), .inr (.inr (.inl 34)), .inl a3, .inr (.inr (.inl 16)), .inl (jw32 (x5 + t8)), .inl x6, .inl x7] [.inl 1] 229 jr0 g9
                refine jGo_blk qX7_tryOut_91 ?_
                have e18 : jw32 (x7 + 1) = x7 + 1 := j32e (by omega) (by omega)
                show jGo E l 144 229 229 _ 19 [.inr (.inr (.inl 111)), .inr (.inr (.inl 29)), .inr (.inr (.inl 34)), .inl a3, .inr (.inr (.inl 16)), .inl (jw32 (x5 + t8)), .inl 1, .inl (jw32 (x7 + 1))] [] 229 jr0 g9
                exact ih (jw32 (x5 + t8)) 1 (jw32 (x7 + 1)) g9 (by omega) fg9 (by omega)
  refine jGo_blk qX7_tryOut_0 ?_
  refine st_gr jo_111 jr_111_6 ?_
  refine st_cv (na := 3) (st := [.inl a3, .inr (.inr (.inl 34)), .inr (.inr (.inl 29)), .inr (.inr (.inl 119))]) jo_119 rfl rfl rfl (c_X10_become_119_29_34 a3 h (by omega)) rfl ?_
  rintro _ _ g20 ⟨rfl, ft19, rfl, zt19⟩ kt19
  have fg20 : jfr w_X7_tryOut_29_34 h g20 := jfr_tr f0 ft19 (fun i k q => by unfold w_X10_become_119_29_34 at q; unfold w_X7_tryOut_29_34; omega)
  show jGo E l 144 229 229 _ 19 [.inr (.inr (.inl 111)), .inr (.inr (.inl 29)), .inr (.inr (.inl 34)), .inl a3, .inr (.inr (.inl 16)), .inl 0, .inl 1, .inl 0] [] 229 jr0 g20
  exact (key 1000000000000) 0 1 0 g20 (by omega) fg20 (by omega)

def w_X7_readyDay_29 (i k : Int) : Prop := (i = 34) ∨ (120 ≤ i ∧ i ≤ 121) ∨ (124 ≤ i ∧ i ≤ 174) ∨ (i = 29 ∧ k = 6) ∨ (i = 111 ∧ k = 10) ∨ (i = 119 ∧ 6 ≤ k ∧ k ≤ 10)
def k_X7_readyDay_29 (a1 : Int) (h : JH) (v : Option JV) (r' g : JH) : Prop := r' = jr0 ∧ jfr w_X7_readyDay_29 h g ∧ ∃ x : Int, v = some (.inl x) ∧ (True) ∧ (True)
set_option maxHeartbeats 4000000 in
theorem c_X7_readyDay_29 {E : JE} {l : Launch} (a1 : Int) (h : JH) (p1 : 0 ≤ a1 ∧ a1 ≤ 15) : jMt E l 145 [.inr (.inr (.inl 111)), .inl a1, .inr (.inr (.inl 29)), .inr (.inr (.inl 16))] 229 jr0 h (k_X7_readyDay_29 a1 h) := by
  refine jMt0 (nL := 5) (ls := [.inr (.inr (.inl 111)), .inl a1, .inr (.inr (.inl 29)), .inr (.inr (.inl 16)), .inr (.inr (.inr ()))]) (by decide +kernel) (by decide +kernel) (by decide +kernel) rfl rfl ?_
  have f0 : jfr w_X7_readyDay_29 h h := jfr_rf _ _
  have key : ∀ N : Nat, (∀ (x4 : Int) (g : JH), (0 ≤ x4 ∧ x4 ≤ 16) → jfr w_X7_readyDay_29 h g → (16 - x4) < (N : Int) → jGo E l 145 229 229 (jRK (k_X7_readyDay_29 a1 h)) 28 [.inr (.inr (.inl 111)), .inl a1, .inr (.inr (.inl 29)), .inr (.inr (.inl 16)), .inl x4] [] 229 jr0 g) := by
    intro N
    induction N with
    | zero => exact fun _ _ hi _ hN => absurd hN (by omega)
    | succ N ih =>
      intro x4 g hi hf hN
      refine jGo_blk qX7_readyDay_28 ?_
      refine st_gi jo_29 (fun v1 ev1 b2 => ?_)
      replace ev1 : v1 = g 29 6 := ev1
      replace b2 := (jbf_10_6 jo_29 _).1 b2
      refine And.intro (fun c3 => ?_) (fun c3 => ?_)
      · replace c3 : v1 ≤ x4 := c3
        show jGo E l 145 229 229 _ 73 [.inr (.inr (.inl 111)), .inl a1, .inr (.inr (.inl 29)), .inr (.inr (.inl 16)), .inl x4] [] 229 jr0 g
        refine jGo_blk qX7_readyDay_73 ?_
        refine st_pi jo_111 (fun hx => (jbf_7_10 jo_111 _).2 (show 0 ≤ 1 ∧ 1 ≤ 1 by omega)) (fun g4 eg4 => ?_)
        replace eg4 : g4 = jup g 111 10 1 := eg4
        have fg4 : jfr w_X7_readyDay_29 h g4 := jfr_up hf eg4 (by unfold w_X7_readyDay_29; omega)
        have e5 : g4 111 10 = 1 := jup_s eg4
        show jGo E l 145 229 229 _ 78 [.inr (.inr (.inl 111)), .inl a1, .inr (.inr (.inl 29)), .inr (.inr (.inl 16)), .inl x4] [] 229 jr0 g4
        refine jGo_blk qX7_readyDay_78 ?_
        refine st_gr jo_111 jr_111_7 ?_
        refine st_ai jo_174 (show 0 ≤ a1 by omega) (show a1 < ((16 : Nat) : Int) by omega) (fun v6 ev6 b7 => ?_)
        replace ev6 : v6 = g4 174 a1 := ev6
        replace b7 := (jba_174 a1 _).1 b7
        exact st_r0 (ls := []) ⟨rfl, rfl, fg4, v6, rfl, trivial, trivial⟩
      · replace c3 : x4 < v1 := by first | exact c3 | exact Int.not_le.mp c3 | exact Int.not_lt.mp c3 | exact Decidable.not_not.mp c3
        refine st_gr jo_111 jr_111_7 ?_
        refine st_gr jo_29 jr_29_5 ?_
        refine st_ai jo_34 (show 0 ≤ x4 by omega) (show x4 < ((16 : Nat) : Int) by omega) (fun v8 ev8 b9 => ?_)
        replace ev8 : v8 = g 34 x4 := ev8
        replace b9 := (jba_34 x4 _).1 b9
        refine st_gr jo_111 jr_111_6 ?_
        refine st_gr jo_119 jr_119_3 ?_
        refine st_gr jo_29 jr_29_5 ?_
        refine st_ai jo_34 (show 0 ≤ x4 by omega) (show x4 < ((16 : Nat) : Int) by omega) (fun v10 ev10 b11 => ?_)
        replace ev10 : v10 = g 34 x4 := ev10
        replace b11 := (jba_34 x4 _).1 b11
        refine st_ar jo_123 (by decide) (show 0 ≤ v10 by omega) (show v10 < ((16 : Nat) : Int) by omega) (fun u12 eu12 => ?_)
        replace eu12 : u12 = jr0 123 v10 := eu12
        have qu12 : u12 = 126 + 3 * v10 := eu12.trans (jhul_123 v10 (by omega) (by omega)).1
        have hu12 : jHl u12 := by rw [eu12]; exact (jhul_123 v10 (by omega) (by omega)).2
        refine st_gi hu12.1 (fun v13 ev13 b14 => ?_)
        replace ev13 : v13 = g u12 9 := ev13
        replace b14 := (jbf_4_9 hu12.1 _).1 b14
        refine st_si jo_174 (show 0 ≤ v8 by omega) (show v8 < ((16 : Nat) : Int) by omega) (fun hx => (jba_174 _ _).2 hx) (fun g15 eg15 => ?_)
        replace eg15 : g15 = jup g 174 v8 v13 := eg15
        have fg15 : jfr w_X7_readyDay_29 h g15 := jfr_up hf eg15 (by unfold w_X7_readyDay_29; omega)
        have e16 : g15 174 v8 = v13 := jup_s eg15
        have e17 : jw32 (x4 + 1) = x4 + 1 := j32e (by omega) (by omega)
        show jGo E l 145 229 229 _ 28 [.inr (.inr (.inl 111)), .inl a1, .inr (.inr (.inl 29)), .inr (.inr (.inl 16)), .inl (jw32 (x4 + 1))] [] 229 jr0 g15
        exact ih (jw32 (x4 + 1)) g15 (by omega) fg15 (by omega)
  refine jGo_blk qX7_readyDay_0 ?_
  refine st_gi jo_111 (fun v18 ev18 b19 => ?_)
  replace ev18 : v18 = h 111 10 := ev18
  replace b19 := (jbf_7_10 jo_111 _).1 b19
  refine And.intro (fun c20 => ?_) (fun c20 => ?_)
  · replace c20 : ¬ v18 = 0 := c20
    show jGo E l 145 229 229 _ 78 [.inr (.inr (.inl 111)), .inl a1, .inr (.inr (.inl 29)), .inr (.inr (.inl 16)), .inr (.inr (.inr ()))] [] 229 jr0 h
    refine jGo_blk qX7_readyDay_78 ?_
    refine st_gr jo_111 jr_111_7 ?_
    refine st_ai jo_174 (show 0 ≤ a1 by omega) (show a1 < ((16 : Nat) : Int) by omega) (fun v21 ev21 b22 => ?_)
    replace ev21 : v21 = h 174 a1 := ev21
    replace b22 := (jba_174 a1 _).1 b22
    exact st_r0 (ls := []) ⟨rfl, rfl, f0, v21, rfl, trivial, trivial⟩
  · replace c20 : v18 = 0 := by first | exact c20 | exact Int.not_le.mp c20 | exact Int.not_lt.mp c20 | exact Decidable.not_not.mp c20
    refine st_cv (na := 0) (st := [.inr (.inr (.inl 29))]) jo_29 rfl rfl rfl (c_X10_lineUp_29 h) rfl ?_
    rintro _ _ g24 ⟨rfl, ft23, rfl, zt23⟩ kt23
    have fg24 : jfr w_X7_readyDay_29 h g24 := jfr_tr f0 ft23 (fun i k q => by unfold w_X10_lineUp_29 at q; unfold w_X7_readyDay_29; omega)
    replace zt23 : jHo h g24 (h 29 4) (g24 29 6) (g24 29 6) ∧ 0 ≤ g24 29 6 ∧ g24 29 6 ≤ 16 := zt23
    refine st_gr jo_29 jr_29_5 ?_
    refine st_gi jo_29 (fun v25 ev25 b26 => ?_)
    replace ev25 : v25 = g24 29 6 := ev25
    replace b26 := (jbf_10_6 jo_29 _).1 b26
    refine st_cv (na := 4) (st := [.inr (.inr (.inl 16)), .inl v25, .inr (.inr (.inl 34)), .inr (.inr (.inl 29)), .inr (.inr (.inl 111))]) jo_111 rfl rfl rfl (c_X7_tryOut_29_34 v25 g24 (by omega)) rfl ?_
    rintro _ _ g28 ⟨rfl, ft27, rfl, zt27⟩ kt27
    have fg28 : jfr w_X7_readyDay_29 h g28 := jfr_tr fg24 ft27 (fun i k q => by unfold w_X7_tryOut_29_34 at q; unfold w_X7_readyDay_29; omega)
    show jGo E l 145 229 229 _ 28 [.inr (.inr (.inl 111)), .inl a1, .inr (.inr (.inl 29)), .inr (.inr (.inl 16)), .inl 0] [] 229 jr0 g28
    exact (key 1000000000000) 0 g28 (by omega) fg28 (by omega)

def w_X11_readyAhead (i k : Int) : Prop := (i = 15) ∨ (i = 34) ∨ (114 ≤ i ∧ i ≤ 118) ∨ (120 ≤ i ∧ i ≤ 121) ∨ (124 ≤ i ∧ i ≤ 174) ∨ (i = 11 ∧ k = 5) ∨ (i = 29 ∧ k = 6) ∨ (i = 111 ∧ k = 3) ∨ (i = 111 ∧ 9 ≤ k ∧ k ≤ 10) ∨ (i = 119 ∧ 6 ≤ k ∧ k ≤ 10)
def k_X11_readyAhead (a1 : Int) (h : JH) (v : Option JV) (r' g : JH) : Prop := r' = jr0 ∧ jfr w_X11_readyAhead h g ∧ ∃ x : Int, v = some (.inl x) ∧ (True) ∧ (True)
set_option maxHeartbeats 4000000 in
theorem c_X11_readyAhead {E : JE} {l : Launch} (a1 : Int) (h : JH) (p1 : 0 ≤ a1 ∧ a1 ≤ 15) : jMt E l 146 [.inr (.inr (.inl 0)), .inl a1] 229 jr0 h (k_X11_readyAhead a1 h) := by
  refine jMt0 (nL := 2) (ls := [.inr (.inr (.inl 0)), .inl a1]) (by decide +kernel) (by decide +kernel) (by decide +kernel) rfl rfl ?_
  have f0 : jfr w_X11_readyAhead h h := jfr_rf _ _
  refine jGo_blk qX11_readyAhead_0 ?_
  refine st_gr jo_0 jr_0_11 ?_
  refine st_gi jo_0 (fun v1 ev1 b2 => ?_)
  replace ev1 : v1 = h 0 0 := ev1
  replace b2 := (jbf_11_0 jo_0 _).1 b2
  refine st_gr jo_0 jr_0_2 ?_
  refine st_gr jo_0 jr_0_3 ?_
  refine st_cv (na := 3) (st := [.inr (.inr (.inl 11)), .inr (.inr (.inl 2)), .inl v1, .inr (.inr (.inl 111))]) jo_111 rfl rfl rfl (c_X7_standAt v1 h (by omega)) rfl ?_
  rintro _ _ g4 ⟨rfl, ft3, rfl, zt3⟩ kt3
  have fg4 : jfr w_X11_readyAhead h g4 := jfr_tr f0 ft3 (fun i k q => by unfold w_X7_standAt at q; unfold w_X11_readyAhead; omega)
  refine st_gr jo_0 jr_0_11 ?_
  refine st_gr jo_0 jr_0_5 ?_
  refine st_gr jo_0 jr_0_4 ?_
  refine st_cv (na := 3) (st := [.inr (.inr (.inl 16)), .inr (.inr (.inl 29)), .inl a1, .inr (.inr (.inl 111))]) jo_111 rfl rfl rfl (c_X7_readyDay_29 a1 g4 (by omega)) rfl ?_
  rintro _ _ g6 ⟨rfl, ft5, t5, rfl, ht5, zt5⟩ kt5
  replace kt5 : -2147483648 ≤ t5 ∧ t5 ≤ 2147483647 := kt5
  have fg6 : jfr w_X11_readyAhead h g6 := jfr_tr fg4 ft5 (fun i k q => by unfold w_X7_readyDay_29 at q; unfold w_X11_readyAhead; omega)
  exact st_r0 (ls := []) ⟨rfl, rfl, fg6, t5, rfl, trivial, trivial⟩

def w_X11_ready (i k : Int) : Prop := (i = 1) ∨ (i = 15) ∨ (i = 34) ∨ (114 ≤ i ∧ i ≤ 118) ∨ (120 ≤ i ∧ i ≤ 121) ∨ (124 ≤ i ∧ i ≤ 174) ∨ (i = 11 ∧ k = 5) ∨ (i = 29 ∧ k = 6) ∨ (i = 111 ∧ k = 3) ∨ (i = 111 ∧ 9 ≤ k ∧ k ≤ 10) ∨ (i = 119 ∧ 6 ≤ k ∧ k ≤ 10)
def k_X11_ready (a1 : Int) (h : JH) (v : Option JV) (r' g : JH) : Prop := r' = jr0 ∧ jfr w_X11_ready h g ∧ ∃ x : Int, v = some (.inl x) ∧ (True) ∧ (True)
set_option maxHeartbeats 4000000 in
theorem c_X11_ready {E : JE} {l : Launch} (a1 : Int) (h : JH) : jMt E l 147 [.inr (.inr (.inl 0)), .inl a1] 229 jr0 h (k_X11_ready a1 h) := by
  refine jMt0 (nL := 3) (ls := [.inr (.inr (.inl 0)), .inl a1, .inr (.inr (.inr ()))]) (by decide +kernel) (by decide +kernel) (by decide +kernel) rfl rfl ?_
  have f0 : jfr w_X11_ready h h := jfr_rf _ _
  refine jGo_blk qX11_ready_0 ?_
  refine st_cv (na := 1) (st := [.inl a1, .inr (.inr (.inl 0))]) jo_0 rfl rfl rfl (c_X11_isHull a1 h) rfl ?_
  rintro _ _ _ ⟨rfl, rfl, t1, rfl, ht1, zt1⟩ kt1
  replace kt1 : -2147483648 ≤ t1 ∧ t1 ≤ 2147483647 := kt1
  replace ht1 : 0 ≤ t1 ∧ t1 ≤ 1 := ht1
  replace zt1 : (t1 = 1 ∧ 0 ≤ a1 ∧ a1 < h 29 4 ∧ h 29 4 ≤ 16) ∨ (t1 = 0 ∧ ¬ (0 ≤ a1 ∧ a1 < h 29 4)) := zt1
  refine And.intro (fun c3 => ?_) (fun c3 => ?_)
  · replace c3 : ¬ t1 = 0 := c3
    show jGo E l 147 229 229 _ 12 [.inr (.inr (.inl 0)), .inl a1, .inr (.inr (.inr ()))] [] 229 jr0 h
    refine jGo_blk qX11_ready_12 ?_
    refine st_gr jo_0 jr_0_5 ?_
    refine st_gr jo_29 jr_29_3 ?_
    refine st_ar jo_33 (by decide) (show 0 ≤ a1 by omega) (show a1 < ((16 : Nat) : Int) by omega) (fun u4 eu4 => ?_)
    replace eu4 : u4 = jr0 33 a1 := eu4
    have qu4 : u4 = 36 + 3 * a1 := eu4.trans (jhul_33 a1 (by omega) (by omega)).1
    have hu4 : jHl u4 := by rw [eu4]; exact (jhul_33 a1 (by omega) (by omega)).2
    refine st_gi hu4.1 (fun v5 ev5 b6 => ?_)
    replace ev5 : v5 = h u4 3 := ev5
    replace b6 := (jbf_4_3 hu4.1 _).1 b6
    refine And.intro (fun c7 => ?_) (fun c7 => ?_)
    · replace c7 : ¬ v5 = 3 := c7
      show jGo E l 147 229 229 _ 33 [.inr (.inr (.inl 0)), .inl a1, .inr (.inr (.inr ()))] [] 229 jr0 h
      refine jGo_blk qX11_ready_33 ?_
      show jGo E l 147 229 229 _ 34 [.inr (.inr (.inl 0)), .inl a1, .inr (.inr (.inr ()))] [.inl 0] 229 jr0 h
      refine jGo_blk qX11_ready_34 ?_
      refine And.intro (fun c8 => ?_) (fun c8 => ?_)
      · replace c8 : (0 : Int) = 0 := c8
        show jGo E l 147 229 229 _ 45 [.inr (.inr (.inl 0)), .inl a1, .inl 0] [] 229 jr0 h
        refine jGo_blk qX11_ready_45 ?_
        refine st_gr jo_0 jr_0_5 ?_
        refine st_gr jo_29 jr_29_3 ?_
        refine st_ar jo_33 (by decide) (show 0 ≤ a1 by omega) (show a1 < ((16 : Nat) : Int) by omega) (fun u9 eu9 => ?_)
        replace eu9 : u9 = jr0 33 a1 := eu9
        have qu9 : u9 = 36 + 3 * a1 := eu9.trans (jhul_33 a1 (by omega) (by omega)).1
        have hu9 : jHl u9 := by rw [eu9]; exact (jhul_33 a1 (by omega) (by omega)).2
        refine st_gi hu9.1 (fun v10 ev10 b11 => ?_)
        replace ev10 : v10 = h u9 3 := ev10
        replace b11 := (jbf_4_3 hu9.1 _).1 b11
        refine And.intro (fun c12 => ?_) (fun c12 => ?_)
        · replace c12 : ¬ v10 = 2 := c12
          show jGo E l 147 229 229 _ 74 [.inr (.inr (.inl 0)), .inl a1, .inl 0] [] 229 jr0 h
          refine jGo_blk qX11_ready_74 ?_
          refine st_cv (na := 1) (st := [.inl a1, .inr (.inr (.inl 0))]) jo_0 rfl rfl rfl (c_X11_readyAhead a1 h (by omega)) rfl ?_
          rintro _ _ g14 ⟨rfl, ft13, t13, rfl, ht13, zt13⟩ kt13
          replace kt13 : -2147483648 ≤ t13 ∧ t13 ≤ 2147483647 := kt13
          have fg14 : jfr w_X11_ready h g14 := jfr_tr f0 ft13 (fun i k q => by unfold w_X11_readyAhead at q; unfold w_X11_ready; omega)
          exact st_r0 (ls := []) ⟨rfl, rfl, fg14, t13, rfl, trivial, trivial⟩
        · replace c12 : v10 = 2 := by first | exact c12 | exact Int.not_le.mp c12 | exact Int.not_lt.mp c12 | exact Decidable.not_not.mp c12
          refine st_gr jo_0 jr_0_5 ?_
          refine st_gr jo_29 jr_29_3 ?_
          refine st_ar jo_33 (by decide) (show 0 ≤ a1 by omega) (show a1 < ((16 : Nat) : Int) by omega) (fun u15 eu15 => ?_)
          replace eu15 : u15 = jr0 33 a1 := eu15
          have qu15 : u15 = 36 + 3 * a1 := eu15.trans (jhul_33 a1 (by omega) (by omega)).1
          have hu15 : jHl u15 := by rw [eu15]; exact (jhul_33 a1 (by omega) (by omega)).2
          refine st_gi hu15.1 (fun v16 ev16 b17 => ?_)
          replace ev16 : v16 = h u15 9 := ev16
          replace b17 := (jbf_4_9 hu15.1 _).1 b17
          exact st_r0 (ls := []) ⟨rfl, rfl, f0, v16, rfl, trivial, trivial⟩
      · replace c8 : ¬ (0 : Int) = 0 := by first | exact c8 | exact Int.not_le.mp c8 | exact Int.not_lt.mp c8 | exact Decidable.not_not.mp c8
        exfalso; omega
    · replace c7 : v5 = 3 := by first | exact c7 | exact Int.not_le.mp c7 | exact Int.not_lt.mp c7 | exact Decidable.not_not.mp c7
      show jGo E l 147 229 229 _ 34 [.inr (.inr (.inl 0)), .inl a1, .inr (.inr (.inr ()))] [.inl (-3)] 229 jr0 h
      refine jGo_blk qX11_ready_34 ?_
      refine And.intro (fun c18 => ?_) (fun c18 => ?_)
      · replace c18 : (-3 : Int) = 0 := c18
        exfalso; omega
      · replace c18 : ¬ (-3 : Int) = 0 := by first | exact c18 | exact Int.not_le.mp c18 | exact Int.not_lt.mp c18 | exact Decidable.not_not.mp c18
        refine st_cv (na := 1) (st := [.inl (-3), .inr (.inr (.inl 0))]) jo_0 rfl rfl rfl (c_X11_refused (-3) h (by omega)) rfl ?_
        rintro _ _ g20 ⟨rfl, ft19, t19, rfl, ht19, zt19⟩ kt19
        replace kt19 : -2147483648 ≤ t19 ∧ t19 ≤ 2147483647 := kt19
        replace ht19 : -7 ≤ t19 ∧ t19 ≤ -1 := ht19
        have fg20 : jfr w_X11_ready h g20 := jfr_tr f0 ft19 (fun i k q => by unfold w_X11_refused at q; unfold w_X11_ready; omega)
        replace zt19 : t19 = (-3 : Int) := zt19
        exact st_r0 (ls := []) ⟨rfl, rfl, fg20, t19, rfl, trivial, trivial⟩
  · replace c3 : t1 = 0 := by first | exact c3 | exact Int.not_le.mp c3 | exact Int.not_lt.mp c3 | exact Decidable.not_not.mp c3
    show jGo E l 147 229 229 _ 34 [.inr (.inr (.inl 0)), .inl a1, .inr (.inr (.inr ()))] [.inl (-1)] 229 jr0 h
    refine jGo_blk qX11_ready_34 ?_
    refine And.intro (fun c21 => ?_) (fun c21 => ?_)
    · replace c21 : (-1 : Int) = 0 := c21
      exfalso; omega
    · replace c21 : ¬ (-1 : Int) = 0 := by first | exact c21 | exact Int.not_le.mp c21 | exact Int.not_lt.mp c21 | exact Decidable.not_not.mp c21
      refine st_cv (na := 1) (st := [.inl (-1), .inr (.inr (.inl 0))]) jo_0 rfl rfl rfl (c_X11_refused (-1) h (by omega)) rfl ?_
      rintro _ _ g23 ⟨rfl, ft22, t22, rfl, ht22, zt22⟩ kt22
      replace kt22 : -2147483648 ≤ t22 ∧ t22 ≤ 2147483647 := kt22
      replace ht22 : -7 ≤ t22 ∧ t22 ≤ -1 := ht22
      have fg23 : jfr w_X11_ready h g23 := jfr_tr f0 ft22 (fun i k q => by unfold w_X11_refused at q; unfold w_X11_ready; omega)
      replace zt22 : t22 = (-1 : Int) := zt22
      exact st_r0 (ls := []) ⟨rfl, rfl, fg23, t22, rfl, trivial, trivial⟩

def w_X12_swap (i k : Int) : Prop := (i = 224)
def k_X12_swap (a1 : Int) (a2 : Int) (a3 : Int) (h : JH) (v : Option JV) (r' g : JH) : Prop := r' = jr0 ∧ jfr w_X12_swap h g ∧ ∃ x : Int, v = some (.inl x) ∧ (True) ∧ (jbd 224 a1 x ∧ (a3 = 0 → x = a2 ∧ g = jup h 224 a1 a2) ∧ (¬ a3 = 0 → x = h 224 a1 ∧ g = h) ∧ (∀ j : Int, j ≠ a1 → g 224 j = h 224 j) ∧ (x = if a3 = 0 then a2 else h 224 a1) ∧ (g = if a3 = 0 then jup h 224 a1 a2 else h))
set_option maxHeartbeats 4000000 in
theorem c_X12_swap {E : JE} {l : Launch} (a1 : Int) (a2 : Int) (a3 : Int) (h : JH) (p1 : 0 ≤ a1 ∧ a1 ≤ 399) (p3 : a3 = 0 ∨ a3 = 1) (q0 : jR32 a2 → jbd 224 a1 a2) : jMt E l 148 [.inr (.inr (.inl 176)), .inl a1, .inl a2, .inl a3] 229 jr0 h (k_X12_swap a1 a2 a3 h) := by
  refine jMt0 (nL := 4) (ls := [.inr (.inr (.inl 176)), .inl a1, .inl a2, .inl a3]) (by decide +kernel) (by decide +kernel) (by decide +kernel) rfl rfl ?_
  have f0 : jfr w_X12_swap h h := jfr_rf _ _
  refine jGo_blk qX12_swap_0 ?_
  refine And.intro (fun c1 => ?_) (fun c1 => ?_)
  · replace c1 : ¬ a3 = 0 := c1
    show jGo E l 148 229 229 _ 11 [.inr (.inr (.inl 176)), .inl a1, .inl a2, .inl a3] [] 229 jr0 h
    refine jGo_blk qX12_swap_11 ?_
    refine st_gr jo_176 jr_176_59 ?_
    refine st_ai jo_224 (show 0 ≤ a1 by omega) (show a1 < ((400 : Nat) : Int) by omega) (fun v2 ev2 b3 => ?_)
    replace ev2 : v2 = h 224 a1 := ev2
    exact st_r0 (ls := []) ⟨rfl, rfl, f0, v2, rfl, trivial, (by exact ⟨by assumption, fun q => absurd q (by assumption), fun _ => ⟨ev2, rfl⟩, fun _ _ => rfl, ev2.trans (if_neg (by assumption)).symm, (if_neg (by assumption)).symm⟩)⟩
  · replace c1 : a3 = 0 := by first | exact c1 | exact Int.not_le.mp c1 | exact Int.not_lt.mp c1 | exact Decidable.not_not.mp c1
    refine st_gr jo_176 jr_176_59 ?_
    refine st_si jo_224 (show 0 ≤ a1 by omega) (show a1 < ((400 : Nat) : Int) by omega) (q0) (fun g4 eg4 => ?_)
    replace eg4 : g4 = jup h 224 a1 a2 := eg4
    have fg4 : jfr w_X12_swap h g4 := jfr_up f0 eg4 (by unfold w_X12_swap; omega)
    have e5 : g4 224 a1 = a2 := jup_s eg4
    show jGo E l 148 229 229 _ 11 [.inr (.inr (.inl 176)), .inl a1, .inl a2, .inl a3] [] 229 jr0 g4
    refine jGo_blk qX12_swap_11 ?_
    refine st_gr jo_176 jr_176_59 ?_
    refine st_ai jo_224 (show 0 ≤ a1 by omega) (show a1 < ((400 : Nat) : Int) by omega) (fun v6 ev6 b7 => ?_)
    replace ev6 : v6 = g4 224 a1 := ev6
    exact st_r0 (ls := []) ⟨rfl, rfl, fg4, v6, rfl, trivial, (by exact ⟨by assumption, fun _ => ⟨ev6.trans (jup_s eg4), eg4⟩, fun q => absurd (by assumption) q, fun j hj => jup_o eg4 (by omega), (ev6.trans (jup_s eg4)).trans (if_pos (by assumption)).symm, eg4.trans (if_pos (by assumption)).symm⟩)⟩
