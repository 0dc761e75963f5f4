def w_X12_breakUp (i k : Int) : Prop := (i = 181) ∨ (i = 192) ∨ (i = 219)
def k_X12_breakUp (a1 : Int) (h : JH) (v : Option JV) (r' g : JH) : Prop := r' = jr0 ∧ jfr w_X12_breakUp h g ∧ ∃ x : Int, v = some (.inl x) ∧ (True) ∧ (True)
set_option maxHeartbeats 4000000 in
theorem c_X12_breakUp {E : JE} {l : Launch} (a1 : Int) (h : JH) : jMt E l 97 [.inr (.inr (.inl 176)), .inl a1] 229 jr0 h (k_X12_breakUp a1 h) := by
  refine jMt0 (nL := 5) (ls := [.inr (.inr (.inl 176)), .inl a1, .inr (.inr (.inr ())), .inr (.inr (.inr ())), .inr (.inr (.inr ()))]) (by decide +kernel) (by decide +kernel) (by decide +kernel) rfl rfl ?_
  have f0 : jfr w_X12_breakUp h h := jfr_rf _ _
  have key : ∀ N : Nat, (∀ (x2 : Int) (x3 : Int) (x4 : JV) (g : JH), (0 ≤ a1 ∧ a1 ≤ 15 ∧ 0 ≤ x3 ∧ x3 ≤ 6) → jfr w_X12_breakUp h g → (6 - x3) < (N : Int) → jGo E l 97 229 229 (jRK (k_X12_breakUp a1 h)) 35 [.inr (.inr (.inl 176)), .inl a1, .inl x2, .inl x3, x4] [] 229 jr0 g) := by
    intro N
    induction N with
    | zero => exact fun _ _ _ _ hi _ hN => absurd hN (by omega)
    | succ N ih =>
      intro x2 x3 x4 g hi hf hN
      refine jGo_ok (fun hls _ => ?_)
      have rx2 : -2147483648 ≤ x2 ∧ x2 ≤ 2147483647 := hls (.inl x2) (by simp)
      refine jGo_blk qX12_breakUp_35 ?_
      refine And.intro (fun c1 => ?_) (fun c1 => ?_)
      · replace c1 : 6 ≤ x3 := c1
        show jGo E l 97 229 229 _ 108 [.inr (.inr (.inl 176)), .inl a1, .inl x2, .inl x3, x4] [] 229 jr0 g
        refine jGo_blk qX12_breakUp_108 ?_
        refine st_gr jo_176 jr_176_18 ?_
        refine st_si jo_192 (show 0 ≤ a1 by omega) (show a1 < ((16 : Nat) : Int) by omega) (fun hx => (jba_192 _ _).2 (show 0 ≤ 3 ∧ 3 ≤ 3 by omega)) (fun g2 eg2 => ?_)
        replace eg2 : g2 = jup g 192 a1 3 := eg2
        have fg2 : jfr w_X12_breakUp h g2 := jfr_up hf eg2 (by unfold w_X12_breakUp; omega)
        have e3 : g2 192 a1 = 3 := jup_s eg2
        exact st_r0 (ls := []) ⟨rfl, rfl, fg2, x2, rfl, trivial, trivial⟩
      · replace c1 : x3 < 6 := by first | exact c1 | exact Int.not_le.mp c1 | exact Int.not_lt.mp c1 | exact Decidable.not_not.mp c1
        refine st_gr jo_176 jr_176_26 ?_
        have e4 : jw32 (6 * a1) = 6 * a1 := j32e (by omega) (by omega)
        have e5 : jw32 ((jw32 (6 * a1)) + x3) = (jw32 (6 * a1)) + x3 := j32e (by omega) (by omega)
        refine st_ai jo_200 (show 0 ≤ jw32 ((jw32 (6 * a1)) + x3) by omega) (show jw32 ((jw32 (6 * a1)) + x3) < ((96 : Nat) : Int) by omega) (fun v6 ev6 b7 => ?_)
        replace ev6 : v6 = g 200 (jw32 ((jw32 (6 * a1)) + x3)) := ev6
        replace b7 := (jba_200 (jw32 ((jw32 (6 * a1)) + x3)) _).1 b7
        refine And.intro (show 2 ≠ 0 by omega) ?_
        refine st_gr jo_176 jr_176_5 ?_
        refine st_ai jo_181 (show 0 ≤ x3 by omega) (show x3 < ((6 : Nat) : Int) by omega) (fun v8 ev8 b9 => ?_)
        replace ev8 : v8 = g 181 x3 := ev8
        replace b9 := (jba_181 x3 _).1 b9
        refine And.intro (fun c10 => ?_) (fun c10 => ?_)
        · replace c10 : jw32 (1000000 - v8) ≤ jw32 (v6.tdiv 2) := c10
          show jGo E l 97 229 229 _ 75 [.inr (.inr (.inl 176)), .inl a1, .inl x2, .inl x3, .inl (jw32 (v6.tdiv 2))] [] 229 jr0 g
          refine jGo_blk qX12_breakUp_75 ?_
          refine st_gr jo_176 jr_176_5 ?_
          refine st_ai jo_181 (show 0 ≤ x3 by omega) (show x3 < ((6 : Nat) : Int) by omega) (fun v11 ev11 b12 => ?_)
          replace ev11 : v11 = g 181 x3 := ev11
          replace b12 := (jba_181 x3 _).1 b12
          show jGo E l 97 229 229 _ 84 [.inr (.inr (.inl 176)), .inl a1, .inl x2, .inl x3, .inl (jw32 (v6.tdiv 2))] [.inl (jw32 (1000000 - v11))] 229 jr0 g
          refine jGo_blk qX12_breakUp_84 ?_
          refine st_gr jo_176 jr_176_5 ?_
          refine st_ai jo_181 (show 0 ≤ x3 by omega) (show x3 < ((6 : Nat) : Int) by omega) (fun v13 ev13 b14 => ?_)
          replace ev13 : v13 = g 181 x3 := ev13
          replace b14 := (jba_181 x3 _).1 b14
          refine st_si jo_181 (show 0 ≤ x3 by omega) (show x3 < ((6 : Nat) : Int) by omega) (fun hx => (jba_181 _ _).2 hx) (fun g15 eg15 => ?_)
          replace eg15 : g15 = jup g 181 x3 (jw32 (v13 + (jw32 (1000000 - v11)))) := eg15
          have fg15 : jfr w_X12_breakUp h g15 := jfr_up hf eg15 (by unfold w_X12_breakUp; omega)
          have e16 : g15 181 x3 = jw32 (v13 + (jw32 (1000000 - v11))) := jup_s eg15
          have e17 : jw32 (x3 + 1) = x3 + 1 := j32e (by omega) (by omega)
          show jGo E l 97 229 229 _ 35 [.inr (.inr (.inl 176)), .inl a1, .inl (jw32 (x2 + (jw32 (1000000 - v11)))), .inl (jw32 (x3 + 1)), .inl (jw32 (1000000 - v11))] [] 229 jr0 g15
          exact ih (jw32 (x2 + (jw32 (1000000 - v11)))) (jw32 (x3 + 1)) (.inl (jw32 (1000000 - v11))) g15 (by omega) fg15 (by omega)
        · replace c10 : jw32 (v6.tdiv 2) < jw32 (1000000 - v8) := by first | exact c10 | exact Int.not_le.mp c10 | exact Int.not_lt.mp c10 | exact Decidable.not_not.mp c10
          show jGo E l 97 229 229 _ 84 [.inr (.inr (.inl 176)), .inl a1, .inl x2, .inl x3, .inl (jw32 (v6.tdiv 2))] [.inl (jw32 (v6.tdiv 2))] 229 jr0 g
          refine jGo_blk qX12_breakUp_84 ?_
          refine st_gr jo_176 jr_176_5 ?_
          refine st_ai jo_181 (show 0 ≤ x3 by omega) (show x3 < ((6 : Nat) : Int) by omega) (fun v18 ev18 b19 => ?_)
          replace ev18 : v18 = g 181 x3 := ev18
          replace b19 := (jba_181 x3 _).1 b19
          refine st_si jo_181 (show 0 ≤ x3 by omega) (show x3 < ((6 : Nat) : Int) by omega) (fun hx => (jba_181 _ _).2 hx) (fun g20 eg20 => ?_)
          replace eg20 : g20 = jup g 181 x3 (jw32 (v18 + (jw32 (v6.tdiv 2)))) := eg20
          have fg20 : jfr w_X12_breakUp h g20 := jfr_up hf eg20 (by unfold w_X12_breakUp; omega)
          have e21 : g20 181 x3 = jw32 (v18 + (jw32 (v6.tdiv 2))) := jup_s eg20
          have e22 : jw32 (x3 + 1) = x3 + 1 := j32e (by omega) (by omega)
          show jGo E l 97 229 229 _ 35 [.inr (.inr (.inl 176)), .inl a1, .inl (jw32 (x2 + (jw32 (v6.tdiv 2)))), .inl (jw32 (x3 + 1)), .inl (jw32 (v6.tdiv 2))] [] 229 jr0 g20
          exact ih (jw32 (x2 + (jw32 (v6.tdiv 2)))) (jw32 (x3 + 1)) (.inl (jw32 (v6.tdiv 2))) g20 (by omega) fg20 (by omega)
  refine jGo_blk qX12_breakUp_0 ?_
  refine st_cv (na := 1) (st := [.inl a1, .inr (.inr (.inl 176))]) jo_176 rfl rfl rfl (c_X12_isHull a1 h) rfl ?_
  rintro _ _ _ ⟨rfl, rfl, t23, rfl, ht23, zt23⟩ kt23
  replace kt23 : -2147483648 ≤ t23 ∧ t23 ≤ 2147483647 := kt23
  replace ht23 : 0 ≤ t23 ∧ t23 ≤ 1 := ht23
  replace zt23 : (t23 = 1 ∧ 0 ≤ a1 ∧ a1 < h 176 14 ∧ h 176 14 ≤ 16) ∨ (t23 = 0 ∧ ¬ (0 ≤ a1 ∧ a1 < h 176 14)) := zt23
  refine And.intro (fun c25 => ?_) (fun c25 => ?_)
  · replace c25 : ¬ t23 = 0 := c25
    show jGo E l 97 229 229 _ 14 [.inr (.inr (.inl 176)), .inl a1, .inr (.inr (.inr ())), .inr (.inr (.inr ())), .inr (.inr (.inr ()))] [] 229 jr0 h
    refine jGo_blk qX12_breakUp_14 ?_
    refine st_gr jo_176 jr_176_18 ?_
    refine st_ai jo_192 (show 0 ≤ a1 by omega) (show a1 < ((16 : Nat) : Int) by omega) (fun v26 ev26 b27 => ?_)
    replace ev26 : v26 = h 192 a1 := ev26
    replace b27 := (jba_192 a1 _).1 b27
    refine And.intro (fun c28 => ?_) (fun c28 => ?_)
    · replace c28 : v26 = 2 := c28
      show jGo E l 97 229 229 _ 31 [.inr (.inr (.inl 176)), .inl a1, .inr (.inr (.inr ())), .inr (.inr (.inr ())), .inr (.inr (.inr ()))] [] 229 jr0 h
      refine jGo_blk qX12_breakUp_31 ?_
      show jGo E l 97 229 229 _ 35 [.inr (.inr (.inl 176)), .inl a1, .inl 0, .inl 0, .inr (.inr (.inr ()))] [] 229 jr0 h
      exact (key 1000000000000) 0 0 (.inr (.inr (.inr ()))) h (by omega) f0 (by omega)
    · replace c28 : ¬ v26 = 2 := by first | exact c28 | exact Int.not_le.mp c28 | exact Int.not_lt.mp c28 | exact Decidable.not_not.mp c28
      refine st_cv (na := 1) (st := [.inl (-3), .inr (.inr (.inl 176))]) jo_176 rfl rfl rfl (c_X12_refuse (-3) h (by omega)) rfl ?_
      rintro _ _ g30 ⟨rfl, ft29, t29, rfl, ht29, zt29⟩ kt29
      replace kt29 : -2147483648 ≤ t29 ∧ t29 ≤ 2147483647 := kt29
      replace ht29 : -7 ≤ t29 ∧ t29 ≤ -1 := ht29
      have fg30 : jfr w_X12_breakUp h g30 := jfr_tr f0 ft29 (fun i k q => by unfold w_X12_refuse at q; unfold w_X12_breakUp; omega)
      replace zt29 : t29 = (-3 : Int) := zt29
      exact st_r0 (ls := []) ⟨rfl, rfl, fg30, t29, rfl, trivial, trivial⟩
  · replace c25 : t23 = 0 := by first | exact c25 | exact Int.not_le.mp c25 | exact Int.not_lt.mp c25 | exact Decidable.not_not.mp c25
    refine st_cv (na := 1) (st := [.inl (-1), .inr (.inr (.inl 176))]) jo_176 rfl rfl rfl (c_X12_refuse (-1) h (by omega)) rfl ?_
    rintro _ _ g32 ⟨rfl, ft31, t31, rfl, ht31, zt31⟩ kt31
    replace kt31 : -2147483648 ≤ t31 ∧ t31 ≤ 2147483647 := kt31
    replace ht31 : -7 ≤ t31 ∧ t31 ≤ -1 := ht31
    have fg32 : jfr w_X12_breakUp h g32 := jfr_tr f0 ft31 (fun i k q => by unfold w_X12_refuse at q; unfold w_X12_breakUp; omega)
    replace zt31 : t31 = (-1 : Int) := zt31
    exact st_r0 (ls := []) ⟨rfl, rfl, fg32, t31, rfl, trivial, trivial⟩

def w_X11_growth (i k : Int) : Prop := (i = 1) ∨ (i = 90)
def k_X11_growth (a1 : Int) (a2 : Int) (h : JH) (v : Option JV) (r' g : JH) : Prop := r' = jr0 ∧ jfr w_X11_growth h g ∧ ∃ x : Int, v = some (.inl x) ∧ (-7 ≤ x ∧ x ≤ 9) ∧ (jTold 90 3 9 a1 a2 x h g)
set_option maxHeartbeats 4000000 in
theorem c_X11_growth {E : JE} {l : Launch} (a1 : Int) (a2 : Int) (h : JH) : jMt E l 98 [.inr (.inr (.inl 0)), .inl a1, .inl a2] 229 jr0 h (k_X11_growth a1 a2 h) := by
  refine jMt0 (nL := 5) (ls := [.inr (.inr (.inl 0)), .inl a1, .inl a2, .inr (.inr (.inr ())), .inr (.inr (.inr ()))]) (by decide +kernel) (by decide +kernel) (by decide +kernel) rfl rfl ?_
  have f0 : jfr w_X11_growth h h := jfr_rf _ _
  refine jGo_blk qX11_growth_0 ?_
  refine st_cs (na := 2) (st := [.inl 3, .inl a1]) rfl rfl rfl (c_X11_within a1 3 h) rfl ?_
  rintro _ _ _ ⟨rfl, rfl, t1, rfl, ht1, zt1⟩ kt1
  replace kt1 : -2147483648 ≤ t1 ∧ t1 ≤ 2147483647 := kt1
  replace ht1 : 0 ≤ t1 ∧ t1 ≤ 1 := ht1
  replace zt1 : (t1 = 1 ∧ 0 ≤ a1 ∧ a1 < (3 : Int)) ∨ (t1 = 0 ∧ ¬ (0 ≤ a1 ∧ a1 < (3 : Int))) := zt1
  refine And.intro (fun c3 => ?_) (fun c3 => ?_)
  · replace c3 : ¬ t1 = 0 := c3
    show jGo E l 98 229 229 _ 12 [.inr (.inr (.inl 0)), .inl a1, .inl a2, .inr (.inr (.inr ())), .inr (.inr (.inr ()))] [] 229 jr0 h
    refine jGo_blk qX11_growth_12 ?_
    refine st_cs (na := 3) (st := [.inl 9, .inl 0, .inl a2]) rfl rfl rfl (c_X11_outside a2 0 9 h) rfl ?_
    rintro _ _ _ ⟨rfl, rfl, t4, rfl, ht4, zt4⟩ kt4
    replace kt4 : -2147483648 ≤ t4 ∧ t4 ≤ 2147483647 := kt4
    replace ht4 : -6 ≤ t4 ∧ t4 ≤ 0 := ht4
    replace zt4 : (t4 = -4 ∧ a2 < (0 : Int)) ∨ (t4 = -6 ∧ (0 : Int) ≤ a2 ∧ (9 : Int) < a2) ∨ (t4 = 0 ∧ (0 : Int) ≤ a2 ∧ a2 ≤ (9 : Int)) := zt4
    show jGo E l 98 229 229 _ 19 [.inr (.inr (.inl 0)), .inl a1, .inl a2, .inr (.inr (.inr ())), .inr (.inr (.inr ()))] [.inl t4] 229 jr0 h
    refine jGo_blk qX11_growth_19 ?_
    refine And.intro (fun c6 => ?_) (fun c6 => ?_)
    · replace c6 : t4 = 0 := c6
      show jGo E l 98 229 229 _ 30 [.inr (.inr (.inl 0)), .inl a1, .inl a2, .inl t4, .inr (.inr (.inr ()))] [] 229 jr0 h
      refine jGo_blk qX11_growth_30 ?_
      refine st_gr jo_0 jr_0_6 ?_
      refine st_gr jo_84 jr_84_6 ?_
      refine st_ai jo_90 (show 0 ≤ a1 by omega) (show a1 < ((3 : Nat) : Int) by omega) (fun v7 ev7 b8 => ?_)
      replace ev7 : v7 = h 90 a1 := ev7
      replace b8 := (jba_90 a1 _).1 b8
      refine st_gr jo_0 jr_0_6 ?_
      refine st_gr jo_84 jr_84_6 ?_
      refine st_si jo_90 (show 0 ≤ a1 by omega) (show a1 < ((3 : Nat) : Int) by omega) (fun hx => (jba_90 _ _).2 (show 0 ≤ a2 ∧ a2 ≤ 9 by omega)) (fun g9 eg9 => ?_)
      replace eg9 : g9 = jup h 90 a1 a2 := eg9
      have fg9 : jfr w_X11_growth h g9 := jfr_up f0 eg9 (by unfold w_X11_growth; omega)
      have e10 : g9 90 a1 = a2 := jup_s eg9
      have hp11 : ∀ t : Int, g9 90 t = if t = a1 then a2 else h 90 t := fun t => by
        by_cases q : t = a1
        · rw [if_pos q, q]; exact jup_s eg9
        rw [if_neg q]
        exact (jup_o eg9 (fun z => q z.2)).trans rfl
      exact st_r0 (ls := []) ⟨rfl, rfl, fg9, v7, rfl, (by omega), (by unfold jTold; exact Or.inr (Or.inr (Or.inr ⟨by omega, by omega, by omega, by omega, by omega, hp11⟩)))⟩
    · replace c6 : ¬ t4 = 0 := by first | exact c6 | exact Int.not_le.mp c6 | exact Int.not_lt.mp c6 | exact Decidable.not_not.mp c6
      refine st_cv (na := 1) (st := [.inl t4, .inr (.inr (.inl 0))]) jo_0 rfl rfl rfl (c_X11_refused t4 h (by omega)) rfl ?_
      rintro _ _ g13 ⟨rfl, ft12, t12, rfl, ht12, zt12⟩ kt12
      replace kt12 : -2147483648 ≤ t12 ∧ t12 ≤ 2147483647 := kt12
      replace ht12 : -7 ≤ t12 ∧ t12 ≤ -1 := ht12
      have fg13 : jfr w_X11_growth h g13 := jfr_tr f0 ft12 (fun i k q => by unfold w_X11_refused at q; unfold w_X11_growth; omega)
      replace zt12 : t12 = t4 := zt12
      exact st_r0 (ls := []) ⟨rfl, rfl, fg13, t12, rfl, (by omega), (by unfold jTold; rcases Int.lt_or_le a2 0 with zz | zz <;> first | exact Or.inl ⟨by omega, by omega, (fun t => (ft12 90 t (by unfold w_X11_refused; omega)))⟩ | exact Or.inr (Or.inl ⟨by omega, by omega, by omega, by omega, (fun t => (ft12 90 t (by unfold w_X11_refused; omega)))⟩) | exact Or.inr (Or.inr (Or.inl ⟨by omega, by omega, by omega, by omega, (fun t => (ft12 90 t (by unfold w_X11_refused; omega)))⟩)))⟩
  · replace c3 : t1 = 0 := by first | exact c3 | exact Int.not_le.mp c3 | exact Int.not_lt.mp c3 | exact Decidable.not_not.mp c3
    show jGo E l 98 229 229 _ 19 [.inr (.inr (.inl 0)), .inl a1, .inl a2, .inr (.inr (.inr ())), .inr (.inr (.inr ()))] [.inl (-1)] 229 jr0 h
    refine jGo_blk qX11_growth_19 ?_
    refine And.intro (fun c14 => ?_) (fun c14 => ?_)
    · replace c14 : (-1 : Int) = 0 := c14
      exfalso; omega
    · replace c14 : ¬ (-1 : Int) = 0 := by first | exact c14 | exact Int.not_le.mp c14 | exact Int.not_lt.mp c14 | exact Decidable.not_not.mp c14
      refine st_cv (na := 1) (st := [.inl (-1), .inr (.inr (.inl 0))]) jo_0 rfl rfl rfl (c_X11_refused (-1) h (by omega)) rfl ?_
      rintro _ _ g16 ⟨rfl, ft15, t15, rfl, ht15, zt15⟩ kt15
      replace kt15 : -2147483648 ≤ t15 ∧ t15 ≤ 2147483647 := kt15
      replace ht15 : -7 ≤ t15 ∧ t15 ≤ -1 := ht15
      have fg16 : jfr w_X11_growth h g16 := jfr_tr f0 ft15 (fun i k q => by unfold w_X11_refused at q; unfold w_X11_growth; omega)
      replace zt15 : t15 = (-1 : Int) := zt15
      exact st_r0 (ls := []) ⟨rfl, rfl, fg16, t15, rfl, (by omega), (by unfold jTold; rcases Int.lt_or_le a2 0 with zz | zz <;> first | exact Or.inl ⟨by omega, by omega, (fun t => (ft15 90 t (by unfold w_X11_refused; omega)))⟩ | exact Or.inr (Or.inl ⟨by omega, by omega, by omega, by omega, (fun t => (ft15 90 t (by unfold w_X11_refused; omega)))⟩) | exact Or.inr (Or.inr (Or.inl ⟨by omega, by omega, by omega, by omega, (fun t => (ft15 90 t (by unfold w_X11_refused; omega)))⟩)))⟩

def w_X12_growth (i k : Int) : Prop := (i = 204) ∨ (i = 219)
def k_X12_growth (a1 : Int) (a2 : Int) (h : JH) (v : Option JV) (r' g : JH) : Prop := r' = jr0 ∧ jfr w_X12_growth h g ∧ ∃ x : Int, v = some (.inl x) ∧ (-7 ≤ x ∧ x ≤ 9) ∧ (jTold 204 3 9 a1 a2 x h g)
set_option maxHeartbeats 4000000 in
theorem c_X12_growth {E : JE} {l : Launch} (a1 : Int) (a2 : Int) (h : JH) : jMt E l 99 [.inr (.inr (.inl 176)), .inl a1, .inl a2] 229 jr0 h (k_X12_growth a1 a2 h) := by
  refine jMt0 (nL := 4) (ls := [.inr (.inr (.inl 176)), .inl a1, .inl a2, .inr (.inr (.inr ()))]) (by decide +kernel) (by decide +kernel) (by decide +kernel) rfl rfl ?_
  have f0 : jfr w_X12_growth h h := jfr_rf _ _
  refine jGo_blk qX12_growth_0 ?_
  refine st_cs (na := 3) (st := [.inl 2, .inl 0, .inl a1]) rfl rfl rfl (c_X12_in a1 0 2 h) rfl ?_
  rintro _ _ _ ⟨rfl, rfl, t1, rfl, ht1, zt1⟩ kt1
  replace kt1 : -2147483648 ≤ t1 ∧ t1 ≤ 2147483647 := kt1
  replace ht1 : 0 ≤ t1 ∧ t1 ≤ 1 := ht1
  replace zt1 : (t1 = 1 ∧ (0 : Int) ≤ a1 ∧ a1 ≤ (2 : Int)) ∨ (t1 = 0 ∧ ¬ ((0 : Int) ≤ a1 ∧ a1 ≤ (2 : Int))) := zt1
  refine And.intro (fun c3 => ?_) (fun c3 => ?_)
  · replace c3 : ¬ t1 = 0 := c3
    show jGo E l 99 229 229 _ 15 [.inr (.inr (.inl 176)), .inl a1, .inl a2, .inr (.inr (.inr ()))] [] 229 jr0 h
    refine jGo_blk qX12_growth_15 ?_
    refine And.intro (fun c4 => ?_) (fun c4 => ?_)
    · replace c4 : 0 ≤ a2 := c4
      show jGo E l 99 229 229 _ 26 [.inr (.inr (.inl 176)), .inl a1, .inl a2, .inr (.inr (.inr ()))] [] 229 jr0 h
      refine jGo_blk qX12_growth_26 ?_
      refine And.intro (fun c5 => ?_) (fun c5 => ?_)
      · replace c5 : a2 ≤ 9 := c5
        show jGo E l 99 229 229 _ 39 [.inr (.inr (.inl 176)), .inl a1, .inl a2, .inr (.inr (.inr ()))] [] 229 jr0 h
        refine jGo_blk qX12_growth_39 ?_
        refine st_gr jo_176 jr_176_33 ?_
        refine st_ai jo_204 (show 0 ≤ a1 by omega) (show a1 < ((3 : Nat) : Int) by omega) (fun v6 ev6 b7 => ?_)
        replace ev6 : v6 = h 204 a1 := ev6
        replace b7 := (jba_204 a1 _).1 b7
        refine st_gr jo_176 jr_176_33 ?_
        refine st_si jo_204 (show 0 ≤ a1 by omega) (show a1 < ((3 : Nat) : Int) by omega) (fun hx => (jba_204 _ _).2 (show 0 ≤ a2 ∧ a2 ≤ 9 by omega)) (fun g8 eg8 => ?_)
        replace eg8 : g8 = jup h 204 a1 a2 := eg8
        have fg8 : jfr w_X12_growth h g8 := jfr_up f0 eg8 (by unfold w_X12_growth; omega)
        have e9 : g8 204 a1 = a2 := jup_s eg8
        have hp10 : ∀ t : Int, g8 204 t = if t = a1 then a2 else h 204 t := fun t => by
          by_cases q : t = a1
          · rw [if_pos q, q]; exact jup_s eg8
          rw [if_neg q]
          exact (jup_o eg8 (fun z => q z.2)).trans rfl
        exact st_r0 (ls := []) ⟨rfl, rfl, fg8, v6, rfl, (by omega), (by unfold jTold; exact Or.inr (Or.inr (Or.inr ⟨by omega, by omega, by omega, by omega, by omega, hp10⟩)))⟩
      · replace c5 : 9 < a2 := by first | exact c5 | exact Int.not_le.mp c5 | exact Int.not_lt.mp c5 | exact Decidable.not_not.mp c5
        refine st_cv (na := 1) (st := [.inl (-6), .inr (.inr (.inl 176))]) jo_176 rfl rfl rfl (c_X12_refuse (-6) h (by omega)) rfl ?_
        rintro _ _ g12 ⟨rfl, ft11, t11, rfl, ht11, zt11⟩ kt11
        replace kt11 : -2147483648 ≤ t11 ∧ t11 ≤ 2147483647 := kt11
        replace ht11 : -7 ≤ t11 ∧ t11 ≤ -1 := ht11
        have fg12 : jfr w_X12_growth h g12 := jfr_tr f0 ft11 (fun i k q => by unfold w_X12_refuse at q; unfold w_X12_growth; omega)
        replace zt11 : t11 = (-6 : Int) := zt11
        exact st_r0 (ls := []) ⟨rfl, rfl, fg12, t11, rfl, (by omega), (by unfold jTold; rcases Int.lt_or_le a2 0 with zz | zz <;> first | exact Or.inl ⟨by omega, by omega, (fun t => (ft11 204 t (by unfold w_X12_refuse; omega)))⟩ | exact Or.inr (Or.inl ⟨by omega, by omega, by omega, by omega, (fun t => (ft11 204 t (by unfold w_X12_refuse; omega)))⟩) | exact Or.inr (Or.inr (Or.inl ⟨by omega, by omega, by omega, by omega, (fun t => (ft11 204 t (by unfold w_X12_refuse; omega)))⟩)))⟩
    · replace c4 : a2 < 0 := by first | exact c4 | exact Int.not_le.mp c4 | exact Int.not_lt.mp c4 | exact Decidable.not_not.mp c4
      refine st_cv (na := 1) (st := [.inl (-4), .inr (.inr (.inl 176))]) jo_176 rfl rfl rfl (c_X12_refuse (-4) h (by omega)) rfl ?_
      rintro _ _ g14 ⟨rfl, ft13, t13, rfl, ht13, zt13⟩ kt13
      replace kt13 : -2147483648 ≤ t13 ∧ t13 ≤ 2147483647 := kt13
      replace ht13 : -7 ≤ t13 ∧ t13 ≤ -1 := ht13
      have fg14 : jfr w_X12_growth h g14 := jfr_tr f0 ft13 (fun i k q => by unfold w_X12_refuse at q; unfold w_X12_growth; omega)
      replace zt13 : t13 = (-4 : Int) := zt13
      exact st_r0 (ls := []) ⟨rfl, rfl, fg14, t13, rfl, (by omega), (by unfold jTold; rcases Int.lt_or_le a2 0 with zz | zz <;> first | exact Or.inl ⟨by omega, by omega, (fun t => (ft13 204 t (by unfold w_X12_refuse; omega)))⟩ | exact Or.inr (Or.inl ⟨by omega, by omega, by omega, by omega, (fun t => (ft13 204 t (by unfold w_X12_refuse; omega)))⟩) | exact Or.inr (Or.inr (Or.inl ⟨by omega, by omega, by omega, by omega, (fun t => (ft13 204 t (by unfold w_X12_refuse; omega)))⟩)))⟩
  · replace c3 : t1 = 0 := by first | exact c3 | exact Int.not_le.mp c3 | exact Int.not_lt.mp c3 | exact Decidable.not_not.mp c3
    refine st_cv (na := 1) (st := [.inl (-1), .inr (.inr (.inl 176))]) jo_176 rfl rfl rfl (c_X12_refuse (-1) h (by omega)) rfl ?_
    rintro _ _ g16 ⟨rfl, ft15, t15, rfl, ht15, zt15⟩ kt15
    replace kt15 : -2147483648 ≤ t15 ∧ t15 ≤ 2147483647 := kt15
    replace ht15 : -7 ≤ t15 ∧ t15 ≤ -1 := ht15
    have fg16 : jfr w_X12_growth h g16 := jfr_tr f0 ft15 (fun i k q => by unfold w_X12_refuse at q; unfold w_X12_growth; omega)
    replace zt15 : t15 = (-1 : Int) := zt15
    exact st_r0 (ls := []) ⟨rfl, rfl, fg16, t15, rfl, (by omega), (by unfold jTold; rcases Int.lt_or_le a2 0 with zz | zz <;> first | exact Or.inl ⟨by omega, by omega, (fun t => (ft15 204 t (by unfold w_X12_refuse; omega)))⟩ | exact Or.inr (Or.inl ⟨by omega, by omega, by omega, by omega, (fun t => (ft15 204 t (by unfold w_X12_refuse; omega)))⟩) | exact Or.inr (Or.inr (Or.inl ⟨by omega, by omega, by omega, by omega, (fun t => (ft15 204 t (by unfold w_X12_refuse; omega)))⟩)))⟩

def w_X3_plant (i k : Int) : Prop := (85 ≤ i ∧ i ≤ 89) ∨ (i = 84 ∧ k = 0)
def k_X3_plant (a1 : Int) (a2 : Int) (a3 : Int) (h : JH) (v : Option JV) (r' g : JH) : Prop := r' = jr0 ∧ jfr w_X3_plant h g ∧ ∃ x : Int, v = some (.inl x) ∧ (0 ≤ x ∧ x ≤ 39) ∧ (∀ t : Int, g 87 t = h 87 t ∨ (1 ≤ g 87 t ∧ g 87 t ≤ 500))
set_option maxHeartbeats 4000000 in
theorem c_X3_plant {E : JE} {l : Launch} (a1 : Int) (a2 : Int) (a3 : Int) (h : JH) (p1 : 0 ≤ a1 ∧ a1 ≤ 2) (p2 : -9 ≤ a2 ∧ a2 ≤ 9) (p3 : 1 ≤ a3 ∧ a3 ≤ 500) (q0 : h 84 0 ≤ 39) : jMt E l 100 [.inr (.inr (.inl 84)), .inl a1, .inl a2, .inl a3] 229 jr0 h (k_X3_plant a1 a2 a3 h) := by
  refine jMt0 (nL := 4) (ls := [.inr (.inr (.inl 84)), .inl a1, .inl a2, .inl a3]) (by decide +kernel) (by decide +kernel) (by decide +kernel) rfl rfl ?_
  have f0 : jfr w_X3_plant h h := jfr_rf _ _
  refine jGo_blk qX3_plant_0 ?_
  refine st_gr jo_84 jr_84_1 ?_
  refine st_gi jo_84 (fun v1 ev1 b2 => ?_)
  replace ev1 : v1 = h 84 0 := ev1
  replace b2 := (jbf_3_0 jo_84 _).1 b2
  refine st_si jo_85 (show 0 ≤ v1 by omega) (show v1 < ((40 : Nat) : Int) by omega) (fun hx => (jba_85 _ _).2 (show 0 ≤ a1 ∧ a1 ≤ 2 by omega)) (fun g3 eg3 => ?_)
  replace eg3 : g3 = jup h 85 v1 a1 := eg3
  have fg3 : jfr w_X3_plant h g3 := jfr_up f0 eg3 (by unfold w_X3_plant; omega)
  have e4 : g3 85 v1 = a1 := jup_s eg3
  refine st_gr jo_84 jr_84_2 ?_
  refine st_gi jo_84 (fun v5 ev5 b6 => ?_)
  replace ev5 : v5 = g3 84 0 := ev5
  replace b6 := (jbf_3_0 jo_84 _).1 b6
  have e7 : g3 84 0 = h 84 0 := jup_o eg3 (by omega)
  refine st_si jo_86 (show 0 ≤ v5 by omega) (show v5 < ((40 : Nat) : Int) by omega) (fun hx => (jba_86 _ _).2 (show -9 ≤ a2 ∧ a2 ≤ 9 by omega)) (fun g8 eg8 => ?_)
  replace eg8 : g8 = jup g3 86 v5 a2 := eg8
  have fg8 : jfr w_X3_plant h g8 := jfr_up fg3 eg8 (by unfold w_X3_plant; omega)
  have e9 : g8 86 v5 = a2 := jup_s eg8
  refine st_gr jo_84 jr_84_3 ?_
  refine st_gi jo_84 (fun v10 ev10 b11 => ?_)
  replace ev10 : v10 = g8 84 0 := ev10
  replace b11 := (jbf_3_0 jo_84 _).1 b11
  have e12 : g8 84 0 = g3 84 0 := jup_o eg8 (by omega)
  refine st_si jo_87 (show 0 ≤ v10 by omega) (show v10 < ((40 : Nat) : Int) by omega) (fun hx => (jba_87 _ _).2 hx) (fun g13 eg13 => ?_)
  replace eg13 : g13 = jup g8 87 v10 a3 := eg13
  have fg13 : jfr w_X3_plant h g13 := jfr_up fg8 eg13 (by unfold w_X3_plant; omega)
  have e14 : g13 87 v10 = a3 := jup_s eg13
  refine st_gr jo_84 jr_84_4 ?_
  refine st_gi jo_84 (fun v15 ev15 b16 => ?_)
  replace ev15 : v15 = g13 84 0 := ev15
  replace b16 := (jbf_3_0 jo_84 _).1 b16
  have e17 : g13 84 0 = g8 84 0 := jup_o eg13 (by omega)
  refine st_si jo_88 (show 0 ≤ v15 by omega) (show v15 < ((40 : Nat) : Int) by omega) (fun hx => (jba_88 _ _).2 (show -9 ≤ (-9) ∧ (-9) ≤ 15 by omega)) (fun g18 eg18 => ?_)
  replace eg18 : g18 = jup g13 88 v15 (-9) := eg18
  have fg18 : jfr w_X3_plant h g18 := jfr_up fg13 eg18 (by unfold w_X3_plant; omega)
  have e19 : g18 88 v15 = (-9) := jup_s eg18
  refine st_gr jo_84 jr_84_5 ?_
  refine st_gi jo_84 (fun v20 ev20 b21 => ?_)
  replace ev20 : v20 = g18 84 0 := ev20
  replace b21 := (jbf_3_0 jo_84 _).1 b21
  have e22 : g18 84 0 = g13 84 0 := jup_o eg18 (by omega)
  refine st_si jo_89 (show 0 ≤ v20 by omega) (show v20 < ((40 : Nat) : Int) by omega) (fun hx => (jba_89 _ _).2 (show -9 ≤ (-9) ∧ (-9) ≤ 5 by omega)) (fun g23 eg23 => ?_)
  replace eg23 : g23 = jup g18 89 v20 (-9) := eg23
  have fg23 : jfr w_X3_plant h g23 := jfr_up fg18 eg23 (by unfold w_X3_plant; omega)
  have e24 : g23 89 v20 = (-9) := jup_s eg23
  refine st_gi jo_84 (fun v25 ev25 b26 => ?_)
  replace ev25 : v25 = g23 84 0 := ev25
  replace b26 := (jbf_3_0 jo_84 _).1 b26
  have e27 : g23 84 0 = g18 84 0 := jup_o eg23 (by omega)
  have e28 : jw32 (v25 + 1) = v25 + 1 := j32e (by omega) (by omega)
  refine st_pi jo_84 (fun hx => (jbf_3_0 jo_84 _).2 (show 0 ≤ jw32 (v25 + 1) ∧ jw32 (v25 + 1) ≤ 40 by omega)) (fun g29 eg29 => ?_)
  replace eg29 : g29 = jup g23 84 0 (jw32 (v25 + 1)) := eg29
  have fg29 : jfr w_X3_plant h g29 := jfr_up fg23 eg29 (by unfold w_X3_plant; omega)
  have e30 : g29 84 0 = jw32 (v25 + 1) := jup_s eg29
  refine st_gi jo_84 (fun v31 ev31 b32 => ?_)
  replace ev31 : v31 = g29 84 0 := ev31
  replace b32 := (jbf_3_0 jo_84 _).1 b32
  have e33 : jw32 (v31 - 1) = v31 - 1 := j32e (by omega) (by omega)
  have hp34 : ∀ t : Int, g29 87 t = h 87 t ∨ (1 ≤ g29 87 t ∧ g29 87 t ≤ 500) := by
    intro t
    rw [jup_o eg29 (by omega)]
    rw [jup_o eg23 (by omega)]
    rw [jup_o eg18 (by omega)]
    by_cases q : t = v10
    · subst q; rw [jup_s eg13]; exact Or.inr ⟨by omega, by omega⟩
    rw [jup_o eg13 (by omega)]
    rw [jup_o eg8 (by omega)]
    rw [jup_o eg3 (by omega)]
    exact Or.inl rfl
  exact st_r0 (ls := []) ⟨rfl, rfl, fg29, jw32 (v31 - 1), rfl, (by omega), (by exact hp34)⟩

def w_X11_tree (i k : Int) : Prop := (i = 1) ∨ (85 ≤ i ∧ i ≤ 89) ∨ (i = 84 ∧ k = 0)
def k_X11_tree (a1 : Int) (a2 : Int) (a3 : Int) (h : JH) (v : Option JV) (r' g : JH) : Prop := r' = jr0 ∧ jfr w_X11_tree h g ∧ ∃ x : Int, v = some (.inl x) ∧ (-7 ≤ x ∧ x ≤ 39) ∧ (∀ t : Int, g 87 t = h 87 t ∨ (1 ≤ g 87 t ∧ g 87 t ≤ 500))
set_option maxHeartbeats 4000000 in
theorem c_X11_tree {E : JE} {l : Launch} (a1 : Int) (a2 : Int) (a3 : Int) (h : JH) : jMt E l 101 [.inr (.inr (.inl 0)), .inl a1, .inl a2, .inl a3] 229 jr0 h (k_X11_tree a1 a2 a3 h) := by
  refine jMt0 (nL := 4) (ls := [.inr (.inr (.inl 0)), .inl a1, .inl a2, .inl a3]) (by decide +kernel) (by decide +kernel) (by decide +kernel) rfl rfl ?_
  have f0 : jfr w_X11_tree h h := jfr_rf _ _
  refine jGo_blk qX11_tree_0 ?_
  refine st_cs (na := 2) (st := [.inl 3, .inl a1]) rfl rfl rfl (c_X11_within a1 3 h) rfl ?_
  rintro _ _ _ ⟨rfl, rfl, t1, rfl, ht1, zt1⟩ kt1
  replace kt1 : -2147483648 ≤ t1 ∧ t1 ≤ 2147483647 := kt1
  replace ht1 : 0 ≤ t1 ∧ t1 ≤ 1 := ht1
  replace zt1 : (t1 = 1 ∧ 0 ≤ a1 ∧ a1 < (3 : Int)) ∨ (t1 = 0 ∧ ¬ (0 ≤ a1 ∧ a1 < (3 : Int))) := zt1
  refine And.intro (fun c3 => ?_) (fun c3 => ?_)
  · replace c3 : ¬ t1 = 0 := c3
    show jGo E l 101 229 229 _ 14 [.inr (.inr (.inl 0)), .inl a1, .inl a2, .inl a3] [] 229 jr0 h
    refine jGo_blk qX11_tree_14 ?_
    refine And.intro (fun c4 => ?_) (fun c4 => ?_)
    · replace c4 : a2 < (-9) := c4
      show jGo E l 101 229 229 _ 25 [.inr (.inr (.inl 0)), .inl a1, .inl a2, .inl a3] [] 229 jr0 h
      refine jGo_blk qX11_tree_25 ?_
      refine st_cv (na := 1) (st := [.inl (-4), .inr (.inr (.inl 0))]) jo_0 rfl rfl rfl (c_X11_refused (-4) h (by omega)) rfl ?_
      rintro _ _ g6 ⟨rfl, ft5, t5, rfl, ht5, zt5⟩ kt5
      replace kt5 : -2147483648 ≤ t5 ∧ t5 ≤ 2147483647 := kt5
      replace ht5 : -7 ≤ t5 ∧ t5 ≤ -1 := ht5
      have fg6 : jfr w_X11_tree h g6 := jfr_tr f0 ft5 (fun i k q => by unfold w_X11_refused at q; unfold w_X11_tree; omega)
      replace zt5 : t5 = (-4 : Int) := zt5
      exact st_r0 (ls := []) ⟨rfl, rfl, fg6, t5, rfl, (by omega), (by exact fun t => Or.inl (ft5 87 t (by unfold w_X11_refused; omega)))⟩
    · replace c4 : (-9) ≤ a2 := by first | exact c4 | exact Int.not_le.mp c4 | exact Int.not_lt.mp c4 | exact Decidable.not_not.mp c4
      refine And.intro (fun c7 => ?_) (fun c7 => ?_)
      · replace c7 : 1 ≤ a3 := c7
        show jGo E l 101 229 229 _ 32 [.inr (.inr (.inl 0)), .inl a1, .inl a2, .inl a3] [] 229 jr0 h
        refine jGo_blk qX11_tree_32 ?_
        refine And.intro (fun c8 => ?_) (fun c8 => ?_)
        · replace c8 : 9 < a2 := c8
          show jGo E l 101 229 229 _ 57 [.inr (.inr (.inl 0)), .inl a1, .inl a2, .inl a3] [] 229 jr0 h
          refine jGo_blk qX11_tree_57 ?_
          refine st_cv (na := 1) (st := [.inl (-6), .inr (.inr (.inl 0))]) jo_0 rfl rfl rfl (c_X11_refused (-6) h (by omega)) rfl ?_
          rintro _ _ g10 ⟨rfl, ft9, t9, rfl, ht9, zt9⟩ kt9
          replace kt9 : -2147483648 ≤ t9 ∧ t9 ≤ 2147483647 := kt9
          replace ht9 : -7 ≤ t9 ∧ t9 ≤ -1 := ht9
          have fg10 : jfr w_X11_tree h g10 := jfr_tr f0 ft9 (fun i k q => by unfold w_X11_refused at q; unfold w_X11_tree; omega)
          replace zt9 : t9 = (-6 : Int) := zt9
          exact st_r0 (ls := []) ⟨rfl, rfl, fg10, t9, rfl, (by omega), (by exact fun t => Or.inl (ft9 87 t (by unfold w_X11_refused; omega)))⟩
        · replace c8 : a2 ≤ 9 := by first | exact c8 | exact Int.not_le.mp c8 | exact Int.not_lt.mp c8 | exact Decidable.not_not.mp c8
          refine And.intro (fun c11 => ?_) (fun c11 => ?_)
          · replace c11 : 500 < a3 := c11
            show jGo E l 101 229 229 _ 57 [.inr (.inr (.inl 0)), .inl a1, .inl a2, .inl a3] [] 229 jr0 h
            refine jGo_blk qX11_tree_57 ?_
            refine st_cv (na := 1) (st := [.inl (-6), .inr (.inr (.inl 0))]) jo_0 rfl rfl rfl (c_X11_refused (-6) h (by omega)) rfl ?_
            rintro _ _ g13 ⟨rfl, ft12, t12, rfl, ht12, zt12⟩ kt12
            replace kt12 : -2147483648 ≤ t12 ∧ t12 ≤ 2147483647 := kt12
            replace ht12 : -7 ≤ t12 ∧ t12 ≤ -1 := ht12
            have fg13 : jfr w_X11_tree h g13 := jfr_tr f0 ft12 (fun i k q => by unfold w_X11_refused at q; unfold w_X11_tree; omega)
            replace zt12 : t12 = (-6 : Int) := zt12
            exact st_r0 (ls := []) ⟨rfl, rfl, fg13, t12, rfl, (by omega), (by exact fun t => Or.inl (ft12 87 t (by unfold w_X11_refused; omega)))⟩
          · replace c11 : a3 ≤ 500 := by first | exact c11 | exact Int.not_le.mp c11 | exact Int.not_lt.mp c11 | exact Decidable.not_not.mp c11
            refine st_gr jo_0 jr_0_6 ?_
            refine st_gi jo_84 (fun v14 ev14 b15 => ?_)
            replace ev14 : v14 = h 84 0 := ev14
            replace b15 := (jbf_3_0 jo_84 _).1 b15
            refine And.intro (fun c16 => ?_) (fun c16 => ?_)
            · replace c16 : v14 < 40 := c16
              show jGo E l 101 229 229 _ 64 [.inr (.inr (.inl 0)), .inl a1, .inl a2, .inl a3] [] 229 jr0 h
              refine jGo_blk qX11_tree_64 ?_
              refine st_gr jo_0 jr_0_6 ?_
              refine st_cv (na := 3) (st := [.inl a3, .inl a2, .inl a1, .inr (.inr (.inl 84))]) jo_84 rfl rfl rfl (c_X3_plant a1 a2 a3 h (by omega) (by omega) (by omega) (by omega)) rfl ?_
              rintro _ _ g18 ⟨rfl, ft17, t17, rfl, ht17, zt17⟩ kt17
              replace kt17 : -2147483648 ≤ t17 ∧ t17 ≤ 2147483647 := kt17
              replace ht17 : 0 ≤ t17 ∧ t17 ≤ 39 := ht17
              have fg18 : jfr w_X11_tree h g18 := jfr_tr f0 ft17 (fun i k q => by unfold w_X3_plant at q; unfold w_X11_tree; omega)
              replace zt17 : ∀ t : Int, g18 87 t = h 87 t ∨ (1 ≤ g18 87 t ∧ g18 87 t ≤ 500) := zt17
              exact st_r0 (ls := []) ⟨rfl, rfl, fg18, t17, rfl, (by omega), (by exact zt17)⟩
            · replace c16 : 40 ≤ v14 := by first | exact c16 | exact Int.not_le.mp c16 | exact Int.not_lt.mp c16 | exact Decidable.not_not.mp c16
              show jGo E l 101 229 229 _ 57 [.inr (.inr (.inl 0)), .inl a1, .inl a2, .inl a3] [] 229 jr0 h
              refine jGo_blk qX11_tree_57 ?_
              refine st_cv (na := 1) (st := [.inl (-6), .inr (.inr (.inl 0))]) jo_0 rfl rfl rfl (c_X11_refused (-6) h (by omega)) rfl ?_
              rintro _ _ g20 ⟨rfl, ft19, t19, rfl, ht19, zt19⟩ kt19
              replace kt19 : -2147483648 ≤ t19 ∧ t19 ≤ 2147483647 := kt19
              replace ht19 : -7 ≤ t19 ∧ t19 ≤ -1 := ht19
              have fg20 : jfr w_X11_tree h g20 := jfr_tr f0 ft19 (fun i k q => by unfold w_X11_refused at q; unfold w_X11_tree; omega)
              replace zt19 : t19 = (-6 : Int) := zt19
              exact st_r0 (ls := []) ⟨rfl, rfl, fg20, t19, rfl, (by omega), (by exact fun t => Or.inl (ft19 87 t (by unfold w_X11_refused; omega)))⟩
      · replace c7 : a3 < 1 := by first | exact c7 | exact Int.not_le.mp c7 | exact Int.not_lt.mp c7 | exact Decidable.not_not.mp c7
        show jGo E l 101 229 229 _ 25 [.inr (.inr (.inl 0)), .inl a1, .inl a2, .inl a3] [] 229 jr0 h
        refine jGo_blk qX11_tree_25 ?_
        refine st_cv (na := 1) (st := [.inl (-4), .inr (.inr (.inl 0))]) jo_0 rfl rfl rfl (c_X11_refused (-4) h (by omega)) rfl ?_
        rintro _ _ g22 ⟨rfl, ft21, t21, rfl, ht21, zt21⟩ kt21
        replace kt21 : -2147483648 ≤ t21 ∧ t21 ≤ 2147483647 := kt21
        replace ht21 : -7 ≤ t21 ∧ t21 ≤ -1 := ht21
        have fg22 : jfr w_X11_tree h g22 := jfr_tr f0 ft21 (fun i k q => by unfold w_X11_refused at q; unfold w_X11_tree; omega)
        replace zt21 : t21 = (-4 : Int) := zt21
        exact st_r0 (ls := []) ⟨rfl, rfl, fg22, t21, rfl, (by omega), (by exact fun t => Or.inl (ft21 87 t (by unfold w_X11_refused; omega)))⟩
  · replace c3 : t1 = 0 := by first | exact c3 | exact Int.not_le.mp c3 | exact Int.not_lt.mp c3 | exact Decidable.not_not.mp c3
    refine st_cv (na := 1) (st := [.inl (-1), .inr (.inr (.inl 0))]) jo_0 rfl rfl rfl (c_X11_refused (-1) h (by omega)) rfl ?_
    rintro _ _ g24 ⟨rfl, ft23, t23, rfl, ht23, zt23⟩ kt23
    replace kt23 : -2147483648 ≤ t23 ∧ t23 ≤ 2147483647 := kt23
    replace ht23 : -7 ≤ t23 ∧ t23 ≤ -1 := ht23
    have fg24 : jfr w_X11_tree h g24 := jfr_tr f0 ft23 (fun i k q => by unfold w_X11_refused at q; unfold w_X11_tree; omega)
    replace zt23 : t23 = (-1 : Int) := zt23
    exact st_r0 (ls := []) ⟨rfl, rfl, fg24, t23, rfl, (by omega), (by exact fun t => Or.inl (ft23 87 t (by unfold w_X11_refused; omega)))⟩

def w_X12_tree (i k : Int) : Prop := (205 ≤ i ∧ i ≤ 209) ∨ (i = 219) ∨ (i = 176 ∧ k = 34)
def k_X12_tree (a1 : Int) (a2 : Int) (a3 : Int) (h : JH) (v : Option JV) (r' g : JH) : Prop := r' = jr0 ∧ jfr w_X12_tree h g ∧ ∃ x : Int, v = some (.inl x) ∧ (-7 ≤ x ∧ x ≤ 39) ∧ (True)
set_option maxHeartbeats 4000000 in
theorem c_X12_tree {E : JE} {l : Launch} (a1 : Int) (a2 : Int) (a3 : Int) (h : JH) : jMt E l 102 [.inr (.inr (.inl 176)), .inl a1, .inl a2, .inl a3] 229 jr0 h (k_X12_tree a1 a2 a3 h) := by
  refine jMt0 (nL := 4) (ls := [.inr (.inr (.inl 176)), .inl a1, .inl a2, .inl a3]) (by decide +kernel) (by decide +kernel) (by decide +kernel) rfl rfl ?_
  have f0 : jfr w_X12_tree h h := jfr_rf _ _
  refine jGo_blk qX12_tree_0 ?_
  refine st_cs (na := 3) (st := [.inl 2, .inl 0, .inl a1]) rfl rfl rfl (c_X12_in a1 0 2 h) rfl ?_
  rintro _ _ _ ⟨rfl, rfl, t1, rfl, ht1, zt1⟩ kt1
  replace kt1 : -2147483648 ≤ t1 ∧ t1 ≤ 2147483647 := kt1
  replace ht1 : 0 ≤ t1 ∧ t1 ≤ 1 := ht1
  replace zt1 : (t1 = 1 ∧ (0 : Int) ≤ a1 ∧ a1 ≤ (2 : Int)) ∨ (t1 = 0 ∧ ¬ ((0 : Int) ≤ a1 ∧ a1 ≤ (2 : Int))) := zt1
  refine And.intro (fun c3 => ?_) (fun c3 => ?_)
  · replace c3 : ¬ t1 = 0 := c3
    show jGo E l 102 229 229 _ 15 [.inr (.inr (.inl 176)), .inl a1, .inl a2, .inl a3] [] 229 jr0 h
    refine jGo_blk qX12_tree_15 ?_
    refine And.intro (fun c4 => ?_) (fun c4 => ?_)
    · replace c4 : a2 < (-9) := c4
      show jGo E l 102 229 229 _ 26 [.inr (.inr (.inl 176)), .inl a1, .inl a2, .inl a3] [] 229 jr0 h
      refine jGo_blk qX12_tree_26 ?_
      refine st_cv (na := 1) (st := [.inl (-4), .inr (.inr (.inl 176))]) jo_176 rfl rfl rfl (c_X12_refuse (-4) h (by omega)) rfl ?_
      rintro _ _ g6 ⟨rfl, ft5, t5, rfl, ht5, zt5⟩ kt5
      replace kt5 : -2147483648 ≤ t5 ∧ t5 ≤ 2147483647 := kt5
      replace ht5 : -7 ≤ t5 ∧ t5 ≤ -1 := ht5
      have fg6 : jfr w_X12_tree h g6 := jfr_tr f0 ft5 (fun i k q => by unfold w_X12_refuse at q; unfold w_X12_tree; omega)
      replace zt5 : t5 = (-4 : Int) := zt5
      exact st_r0 (ls := []) ⟨rfl, rfl, fg6, t5, rfl, (by omega), trivial⟩
    · replace c4 : (-9) ≤ a2 := by first | exact c4 | exact Int.not_le.mp c4 | exact Int.not_lt.mp c4 | exact Decidable.not_not.mp c4
      refine And.intro (fun c7 => ?_) (fun c7 => ?_)
      · replace c7 : 1 ≤ a3 := c7
        show jGo E l 102 229 229 _ 33 [.inr (.inr (.inl 176)), .inl a1, .inl a2, .inl a3] [] 229 jr0 h
        refine jGo_blk qX12_tree_33 ?_
        refine And.intro (fun c8 => ?_) (fun c8 => ?_)
        · replace c8 : 9 < a2 := c8
          show jGo E l 102 229 229 _ 55 [.inr (.inr (.inl 176)), .inl a1, .inl a2, .inl a3] [] 229 jr0 h
          refine jGo_blk qX12_tree_55 ?_
          refine st_cv (na := 1) (st := [.inl (-6), .inr (.inr (.inl 176))]) jo_176 rfl rfl rfl (c_X12_refuse (-6) h (by omega)) rfl ?_
          rintro _ _ g10 ⟨rfl, ft9, t9, rfl, ht9, zt9⟩ kt9
          replace kt9 : -2147483648 ≤ t9 ∧ t9 ≤ 2147483647 := kt9
          replace ht9 : -7 ≤ t9 ∧ t9 ≤ -1 := ht9
          have fg10 : jfr w_X12_tree h g10 := jfr_tr f0 ft9 (fun i k q => by unfold w_X12_refuse at q; unfold w_X12_tree; omega)
          replace zt9 : t9 = (-6 : Int) := zt9
          exact st_r0 (ls := []) ⟨rfl, rfl, fg10, t9, rfl, (by omega), trivial⟩
        · replace c8 : a2 ≤ 9 := by first | exact c8 | exact Int.not_le.mp c8 | exact Int.not_lt.mp c8 | exact Decidable.not_not.mp c8
          refine And.intro (fun c11 => ?_) (fun c11 => ?_)
          · replace c11 : 500 < a3 := c11
            show jGo E l 102 229 229 _ 55 [.inr (.inr (.inl 176)), .inl a1, .inl a2, .inl a3] [] 229 jr0 h
            refine jGo_blk qX12_tree_55 ?_
            refine st_cv (na := 1) (st := [.inl (-6), .inr (.inr (.inl 176))]) jo_176 rfl rfl rfl (c_X12_refuse (-6) h (by omega)) rfl ?_
            rintro _ _ g13 ⟨rfl, ft12, t12, rfl, ht12, zt12⟩ kt12
            replace kt12 : -2147483648 ≤ t12 ∧ t12 ≤ 2147483647 := kt12
            replace ht12 : -7 ≤ t12 ∧ t12 ≤ -1 := ht12
            have fg13 : jfr w_X12_tree h g13 := jfr_tr f0 ft12 (fun i k q => by unfold w_X12_refuse at q; unfold w_X12_tree; omega)
            replace zt12 : t12 = (-6 : Int) := zt12
            exact st_r0 (ls := []) ⟨rfl, rfl, fg13, t12, rfl, (by omega), trivial⟩
          · replace c11 : a3 ≤ 500 := by first | exact c11 | exact Int.not_le.mp c11 | exact Int.not_lt.mp c11 | exact Decidable.not_not.mp c11
            refine st_gi jo_176 (fun v14 ev14 b15 => ?_)
            replace ev14 : v14 = h 176 34 := ev14
            replace b15 := (jbf_12_34 jo_176 _).1 b15
            refine And.intro (fun c16 => ?_) (fun c16 => ?_)
            · replace c16 : ¬ v14 = 40 := c16
              show jGo E l 102 229 229 _ 62 [.inr (.inr (.inl 176)), .inl a1, .inl a2, .inl a3] [] 229 jr0 h
              refine jGo_blk qX12_tree_62 ?_
              refine st_gr jo_176 jr_176_35 ?_
              refine st_gi jo_176 (fun v17 ev17 b18 => ?_)
              replace ev17 : v17 = h 176 34 := ev17
              replace b18 := (jbf_12_34 jo_176 _).1 b18
              refine st_si jo_205 (show 0 ≤ v17 by omega) (show v17 < ((40 : Nat) : Int) by omega) (fun hx => (jba_205 _ _).2 (show 0 ≤ a1 ∧ a1 ≤ 2 by omega)) (fun g19 eg19 => ?_)
              replace eg19 : g19 = jup h 205 v17 a1 := eg19
              have fg19 : jfr w_X12_tree h g19 := jfr_up f0 eg19 (by unfold w_X12_tree; omega)
              have e20 : g19 205 v17 = a1 := jup_s eg19
              refine st_gr jo_176 jr_176_36 ?_
              refine st_gi jo_176 (fun v21 ev21 b22 => ?_)
              replace ev21 : v21 = g19 176 34 := ev21
              replace b22 := (jbf_12_34 jo_176 _).1 b22
              have e23 : g19 176 34 = h 176 34 := jup_o eg19 (by omega)
              refine st_si jo_206 (show 0 ≤ v21 by omega) (show v21 < ((40 : Nat) : Int) by omega) (fun hx => (jba_206 _ _).2 (show -9 ≤ a2 ∧ a2 ≤ 9 by omega)) (fun g24 eg24 => ?_)
              replace eg24 : g24 = jup g19 206 v21 a2 := eg24
              have fg24 : jfr w_X12_tree h g24 := jfr_up fg19 eg24 (by unfold w_X12_tree; omega)
              have e25 : g24 206 v21 = a2 := jup_s eg24
              refine st_gr jo_176 jr_176_37 ?_
              refine st_gi jo_176 (fun v26 ev26 b27 => ?_)
              replace ev26 : v26 = g24 176 34 := ev26
              replace b27 := (jbf_12_34 jo_176 _).1 b27
              have e28 : g24 176 34 = g19 176 34 := jup_o eg24 (by omega)
              refine st_si jo_207 (show 0 ≤ v26 by omega) (show v26 < ((40 : Nat) : Int) by omega) (fun hx => (jba_207 _ _).2 hx) (fun g29 eg29 => ?_)
              replace eg29 : g29 = jup g24 207 v26 a3 := eg29
              have fg29 : jfr w_X12_tree h g29 := jfr_up fg24 eg29 (by unfold w_X12_tree; omega)
              have e30 : g29 207 v26 = a3 := jup_s eg29
              refine st_gr jo_176 jr_176_38 ?_
              refine st_gi jo_176 (fun v31 ev31 b32 => ?_)
              replace ev31 : v31 = g29 176 34 := ev31
              replace b32 := (jbf_12_34 jo_176 _).1 b32
              have e33 : g29 176 34 = g24 176 34 := jup_o eg29 (by omega)
              refine st_si jo_208 (show 0 ≤ v31 by omega) (show v31 < ((40 : Nat) : Int) by omega) (fun hx => (jba_208 _ _).2 (show -1 ≤ (-1) ∧ (-1) ≤ 15 by omega)) (fun g34 eg34 => ?_)
              replace eg34 : g34 = jup g29 208 v31 (-1) := eg34
              have fg34 : jfr w_X12_tree h g34 := jfr_up fg29 eg34 (by unfold w_X12_tree; omega)
              have e35 : g34 208 v31 = (-1) := jup_s eg34
              refine st_gr jo_176 jr_176_39 ?_
              refine st_gi jo_176 (fun v36 ev36 b37 => ?_)
              replace ev36 : v36 = g34 176 34 := ev36
              replace b37 := (jbf_12_34 jo_176 _).1 b37
              have e38 : g34 176 34 = g29 176 34 := jup_o eg34 (by omega)
              refine st_si jo_209 (show 0 ≤ v36 by omega) (show v36 < ((40 : Nat) : Int) by omega) (fun hx => (jba_209 _ _).2 (show -1 ≤ (-1) ∧ (-1) ≤ 5 by omega)) (fun g39 eg39 => ?_)
              replace eg39 : g39 = jup g34 209 v36 (-1) := eg39
              have fg39 : jfr w_X12_tree h g39 := jfr_up fg34 eg39 (by unfold w_X12_tree; omega)
              have e40 : g39 209 v36 = (-1) := jup_s eg39
              refine st_gi jo_176 (fun v41 ev41 b42 => ?_)
              replace ev41 : v41 = g39 176 34 := ev41
              replace b42 := (jbf_12_34 jo_176 _).1 b42
              have e43 : g39 176 34 = g34 176 34 := jup_o eg39 (by omega)
              have e44 : jw32 (v41 + 1) = v41 + 1 := j32e (by omega) (by omega)
              refine st_pi jo_176 (fun hx => (jbf_12_34 jo_176 _).2 (show 0 ≤ jw32 (v41 + 1) ∧ jw32 (v41 + 1) ≤ 40 by omega)) (fun g45 eg45 => ?_)
              replace eg45 : g45 = jup g39 176 34 (jw32 (v41 + 1)) := eg45
              have fg45 : jfr w_X12_tree h g45 := jfr_up fg39 eg45 (by unfold w_X12_tree; omega)
              have e46 : g45 176 34 = jw32 (v41 + 1) := jup_s eg45
              refine st_gi jo_176 (fun v47 ev47 b48 => ?_)
              replace ev47 : v47 = g45 176 34 := ev47
              replace b48 := (jbf_12_34 jo_176 _).1 b48
              have e49 : jw32 (v47 - 1) = v47 - 1 := j32e (by omega) (by omega)
              exact st_r0 (ls := []) ⟨rfl, rfl, fg45, jw32 (v47 - 1), rfl, (by omega), trivial⟩
            · replace c16 : v14 = 40 := by first | exact c16 | exact Int.not_le.mp c16 | exact Int.not_lt.mp c16 | exact Decidable.not_not.mp c16
              show jGo E l 102 229 229 _ 55 [.inr (.inr (.inl 176)), .inl a1, .inl a2, .inl a3] [] 229 jr0 h
              refine jGo_blk qX12_tree_55 ?_
              refine st_cv (na := 1) (st := [.inl (-6), .inr (.inr (.inl 176))]) jo_176 rfl rfl rfl (c_X12_refuse (-6) h (by omega)) rfl ?_
              rintro _ _ g51 ⟨rfl, ft50, t50, rfl, ht50, zt50⟩ kt50
              replace kt50 : -2147483648 ≤ t50 ∧ t50 ≤ 2147483647 := kt50
              replace ht50 : -7 ≤ t50 ∧ t50 ≤ -1 := ht50
              have fg51 : jfr w_X12_tree h g51 := jfr_tr f0 ft50 (fun i k q => by unfold w_X12_refuse at q; unfold w_X12_tree; omega)
              replace zt50 : t50 = (-6 : Int) := zt50
              exact st_r0 (ls := []) ⟨rfl, rfl, fg51, t50, rfl, (by omega), trivial⟩
      · replace c7 : a3 < 1 := by first | exact c7 | exact Int.not_le.mp c7 | exact Int.not_lt.mp c7 | exact Decidable.not_not.mp c7
        show jGo E l 102 229 229 _ 26 [.inr (.inr (.inl 176)), .inl a1, .inl a2, .inl a3] [] 229 jr0 h
        refine jGo_blk qX12_tree_26 ?_
        refine st_cv (na := 1) (st := [.inl (-4), .inr (.inr (.inl 176))]) jo_176 rfl rfl rfl (c_X12_refuse (-4) h (by omega)) rfl ?_
        rintro _ _ g53 ⟨rfl, ft52, t52, rfl, ht52, zt52⟩ kt52
        replace kt52 : -2147483648 ≤ t52 ∧ t52 ≤ 2147483647 := kt52
        replace ht52 : -7 ≤ t52 ∧ t52 ≤ -1 := ht52
        have fg53 : jfr w_X12_tree h g53 := jfr_tr f0 ft52 (fun i k q => by unfold w_X12_refuse at q; unfold w_X12_tree; omega)
        replace zt52 : t52 = (-4 : Int) := zt52
        exact st_r0 (ls := []) ⟨rfl, rfl, fg53, t52, rfl, (by omega), trivial⟩
  · replace c3 : t1 = 0 := by first | exact c3 | exact Int.not_le.mp c3 | exact Int.not_lt.mp c3 | exact Decidable.not_not.mp c3
    refine st_cv (na := 1) (st := [.inl (-1), .inr (.inr (.inl 176))]) jo_176 rfl rfl rfl (c_X12_refuse (-1) h (by omega)) rfl ?_
    rintro _ _ g55 ⟨rfl, ft54, t54, rfl, ht54, zt54⟩ kt54
    replace kt54 : -2147483648 ≤ t54 ∧ t54 ≤ 2147483647 := kt54
    replace ht54 : -7 ≤ t54 ∧ t54 ≤ -1 := ht54
    have fg55 : jfr w_X12_tree h g55 := jfr_tr f0 ft54 (fun i k q => by unfold w_X12_refuse at q; unfold w_X12_tree; omega)
    replace zt54 : t54 = (-1 : Int) := zt54
    exact st_r0 (ls := []) ⟨rfl, rfl, fg55, t54, rfl, (by omega), trivial⟩
