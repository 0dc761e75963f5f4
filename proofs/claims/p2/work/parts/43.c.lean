def w_X11_refusedAside (i k : Int) : Prop := (i = 1)
def k_X11_refusedAside (a1 : Int) (h : JH) (v : Option JV) (r' g : JH) : Prop := r' = jr0 ∧ jfr w_X11_refusedAside h g ∧ ∃ x : Int, v = some (.inl x) ∧ (2000000001 ≤ x ∧ x ≤ 2000000007) ∧ (True)
set_option maxHeartbeats 4000000 in
theorem c_X11_refusedAside {E : JE} {l : Launch} (a1 : Int) (h : JH) (p1 : -7 ≤ a1 ∧ a1 ≤ -1) : jMt E l 34 [.inr (.inr (.inl 0)), .inl a1] 229 jr0 h (k_X11_refusedAside a1 h) := by
  refine jMt0 (nL := 2) (ls := [.inr (.inr (.inl 0)), .inl a1]) (by decide +kernel) (by decide +kernel) (by decide +kernel) rfl rfl ?_
  have f0 : jfr w_X11_refusedAside h h := jfr_rf _ _
  refine jGo_blk qX11_refusedAside_0 ?_
  refine st_cv (na := 1) (st := [.inl a1, .inr (.inr (.inl 0)), .inl 2000000000]) jo_0 rfl rfl rfl (c_X11_refused a1 h (by omega)) rfl ?_
  rintro _ _ g2 ⟨rfl, ft1, t1, rfl, ht1, zt1⟩ kt1
  replace kt1 : -2147483648 ≤ t1 ∧ t1 ≤ 2147483647 := kt1
  replace ht1 : -7 ≤ t1 ∧ t1 ≤ -1 := ht1
  have fg2 : jfr w_X11_refusedAside h g2 := jfr_tr f0 ft1 (fun i k q => by unfold w_X11_refused at q; unfold w_X11_refusedAside; omega)
  replace zt1 : t1 = a1 := zt1
  have e3 : jw32 (2000000000 - t1) = 2000000000 - t1 := j32e (by omega) (by omega)
  exact st_r0 (ls := []) ⟨rfl, rfl, fg2, jw32 (2000000000 - t1), rfl, (by omega), trivial⟩

def w_X11_lead (i k : Int) : Prop := (i = 1) ∨ (i = 4) ∨ (i = 111 ∧ 9 ≤ k ∧ k ≤ 11)
def k_X11_lead (a1 : Int) (a2 : Int) (h : JH) (v : Option JV) (r' g : JH) : Prop := r' = jr0 ∧ jfr w_X11_lead h g ∧ ∃ x : Int, v = some (.inl x) ∧ (-1 ≤ x ∧ x ≤ 2000000007) ∧ (True)
set_option maxHeartbeats 4000000 in
theorem c_X11_lead {E : JE} {l : Launch} (a1 : Int) (a2 : Int) (h : JH) : jMt E l 35 [.inr (.inr (.inl 0)), .inl a1, .inl a2] 229 jr0 h (k_X11_lead a1 a2 h) := by
  refine jMt0 (nL := 4) (ls := [.inr (.inr (.inl 0)), .inl a1, .inl a2, .inr (.inr (.inr ()))]) (by decide +kernel) (by decide +kernel) (by decide +kernel) rfl rfl ?_
  have f0 : jfr w_X11_lead h h := jfr_rf _ _
  refine jGo_blk qX11_lead_0 ?_
  refine st_cs (na := 2) (st := [.inl 4, .inl a1]) rfl rfl rfl (c_X11_within a1 4 h) rfl ?_
  rintro _ _ _ ⟨rfl, rfl, t1, rfl, ht1, zt1⟩ kt1
  replace kt1 : -2147483648 ≤ t1 ∧ t1 ≤ 2147483647 := kt1
  replace ht1 : 0 ≤ t1 ∧ t1 ≤ 1 := ht1
  replace zt1 : (t1 = 1 ∧ 0 ≤ a1 ∧ a1 < (4 : Int)) ∨ (t1 = 0 ∧ ¬ (0 ≤ a1 ∧ a1 < (4 : Int))) := zt1
  refine And.intro (fun c3 => ?_) (fun c3 => ?_)
  · replace c3 : t1 = 0 := c3
    show jGo E l 35 229 229 _ 21 [.inr (.inr (.inl 0)), .inl a1, .inl a2, .inr (.inr (.inr ()))] [] 229 jr0 h
    refine jGo_blk qX11_lead_21 ?_
    refine st_cv (na := 1) (st := [.inl (-1), .inr (.inr (.inl 0))]) jo_0 rfl rfl rfl (c_X11_refusedAside (-1) h (by omega)) rfl ?_
    rintro _ _ g5 ⟨rfl, ft4, t4, rfl, ht4, zt4⟩ kt4
    replace kt4 : -2147483648 ≤ t4 ∧ t4 ≤ 2147483647 := kt4
    replace ht4 : 2000000001 ≤ t4 ∧ t4 ≤ 2000000007 := ht4
    have fg5 : jfr w_X11_lead h g5 := jfr_tr f0 ft4 (fun i k q => by unfold w_X11_refusedAside at q; unfold w_X11_lead; omega)
    exact st_r0 (ls := []) ⟨rfl, rfl, fg5, t4, rfl, (by omega), trivial⟩
  · replace c3 : ¬ t1 = 0 := by first | exact c3 | exact Int.not_le.mp c3 | exact Int.not_lt.mp c3 | exact Decidable.not_not.mp c3
    refine And.intro (fun c6 => ?_) (fun c6 => ?_)
    · replace c6 : a2 = (-1) := c6
      show jGo E l 35 229 229 _ 27 [.inr (.inr (.inl 0)), .inl a1, .inl a2, .inr (.inr (.inr ()))] [] 229 jr0 h
      refine jGo_blk qX11_lead_27 ?_
      refine st_gr jo_0 jr_0_11 ?_
      refine st_cv (na := 0) (st := [.inr (.inr (.inl 111))]) jo_111 rfl rfl rfl (c_X7_forget h) rfl ?_
      rintro _ _ g8 ⟨rfl, ft7, rfl, zt7⟩ kt7
      have fg8 : jfr w_X11_lead h g8 := jfr_tr f0 ft7 (fun i k q => by unfold w_X7_forget at q; unfold w_X11_lead; omega)
      refine st_gr jo_0 jr_0_2 ?_
      refine st_gr jo_2 jr_2_1 ?_
      refine st_ai jo_4 (show 0 ≤ a1 by omega) (show a1 < ((4 : Nat) : Int) by omega) (fun v9 ev9 b10 => ?_)
      replace ev9 : v9 = g8 4 a1 := ev9
      replace b10 := (jba_4 a1 _).1 b10
      refine st_gr jo_0 jr_0_2 ?_
      refine st_gr jo_2 jr_2_1 ?_
      refine st_si jo_4 (show 0 ≤ a1 by omega) (show a1 < ((4 : Nat) : Int) by omega) (fun hx => (jba_4 _ _).2 (show -1 ≤ a2 ∧ a2 ≤ 3 by omega)) (fun g11 eg11 => ?_)
      replace eg11 : g11 = jup g8 4 a1 a2 := eg11
      have fg11 : jfr w_X11_lead h g11 := jfr_up fg8 eg11 (by unfold w_X11_lead; omega)
      have e12 : g11 4 a1 = a2 := jup_s eg11
      exact st_r0 (ls := []) ⟨rfl, rfl, fg11, v9, rfl, (by omega), trivial⟩
    · replace c6 : ¬ a2 = (-1) := by first | exact c6 | exact Int.not_le.mp c6 | exact Int.not_lt.mp c6 | exact Decidable.not_not.mp c6
      refine st_cs (na := 2) (st := [.inl 4, .inl a2]) rfl rfl rfl (c_X11_within a2 4 h) rfl ?_
      rintro _ _ _ ⟨rfl, rfl, t13, rfl, ht13, zt13⟩ kt13
      replace kt13 : -2147483648 ≤ t13 ∧ t13 ≤ 2147483647 := kt13
      replace ht13 : 0 ≤ t13 ∧ t13 ≤ 1 := ht13
      replace zt13 : (t13 = 1 ∧ 0 ≤ a2 ∧ a2 < (4 : Int)) ∨ (t13 = 0 ∧ ¬ (0 ≤ a2 ∧ a2 < (4 : Int))) := zt13
      refine And.intro (fun c15 => ?_) (fun c15 => ?_)
      · replace c15 : ¬ t13 = 0 := c15
        show jGo E l 35 229 229 _ 27 [.inr (.inr (.inl 0)), .inl a1, .inl a2, .inr (.inr (.inr ()))] [] 229 jr0 h
        refine jGo_blk qX11_lead_27 ?_
        refine st_gr jo_0 jr_0_11 ?_
        refine st_cv (na := 0) (st := [.inr (.inr (.inl 111))]) jo_111 rfl rfl rfl (c_X7_forget h) rfl ?_
        rintro _ _ g17 ⟨rfl, ft16, rfl, zt16⟩ kt16
        have fg17 : jfr w_X11_lead h g17 := jfr_tr f0 ft16 (fun i k q => by unfold w_X7_forget at q; unfold w_X11_lead; omega)
        refine st_gr jo_0 jr_0_2 ?_
        refine st_gr jo_2 jr_2_1 ?_
        refine st_ai jo_4 (show 0 ≤ a1 by omega) (show a1 < ((4 : Nat) : Int) by omega) (fun v18 ev18 b19 => ?_)
        replace ev18 : v18 = g17 4 a1 := ev18
        replace b19 := (jba_4 a1 _).1 b19
        refine st_gr jo_0 jr_0_2 ?_
        refine st_gr jo_2 jr_2_1 ?_
        refine st_si jo_4 (show 0 ≤ a1 by omega) (show a1 < ((4 : Nat) : Int) by omega) (fun hx => (jba_4 _ _).2 (show -1 ≤ a2 ∧ a2 ≤ 3 by omega)) (fun g20 eg20 => ?_)
        replace eg20 : g20 = jup g17 4 a1 a2 := eg20
        have fg20 : jfr w_X11_lead h g20 := jfr_up fg17 eg20 (by unfold w_X11_lead; omega)
        have e21 : g20 4 a1 = a2 := jup_s eg20
        exact st_r0 (ls := []) ⟨rfl, rfl, fg20, v18, rfl, (by omega), trivial⟩
      · replace c15 : t13 = 0 := by first | exact c15 | exact Int.not_le.mp c15 | exact Int.not_lt.mp c15 | exact Decidable.not_not.mp c15
        show jGo E l 35 229 229 _ 21 [.inr (.inr (.inl 0)), .inl a1, .inl a2, .inr (.inr (.inr ()))] [] 229 jr0 h
        refine jGo_blk qX11_lead_21 ?_
        refine st_cv (na := 1) (st := [.inl (-1), .inr (.inr (.inl 0))]) jo_0 rfl rfl rfl (c_X11_refusedAside (-1) h (by omega)) rfl ?_
        rintro _ _ g23 ⟨rfl, ft22, t22, rfl, ht22, zt22⟩ kt22
        replace kt22 : -2147483648 ≤ t22 ∧ t22 ≤ 2147483647 := kt22
        replace ht22 : 2000000001 ≤ t22 ∧ t22 ≤ 2000000007 := ht22
        have fg23 : jfr w_X11_lead h g23 := jfr_tr f0 ft22 (fun i k q => by unfold w_X11_refusedAside at q; unfold w_X11_lead; omega)
        exact st_r0 (ls := []) ⟨rfl, rfl, fg23, t22, rfl, (by omega), trivial⟩

def w_X12_refuseFar (i k : Int) : Prop := (i = 219)
def k_X12_refuseFar (a1 : Int) (h : JH) (v : Option JV) (r' g : JH) : Prop := r' = jr0 ∧ jfr w_X12_refuseFar h g ∧ ∃ x : Int, v = some (.inl x) ∧ (2000000001 ≤ x ∧ x ≤ 2000000007) ∧ (True)
set_option maxHeartbeats 4000000 in
theorem c_X12_refuseFar {E : JE} {l : Launch} (a1 : Int) (h : JH) (p1 : -7 ≤ a1 ∧ a1 ≤ -1) : jMt E l 36 [.inr (.inr (.inl 176)), .inl a1] 229 jr0 h (k_X12_refuseFar a1 h) := by
  refine jMt0 (nL := 2) (ls := [.inr (.inr (.inl 176)), .inl a1]) (by decide +kernel) (by decide +kernel) (by decide +kernel) rfl rfl ?_
  have f0 : jfr w_X12_refuseFar h h := jfr_rf _ _
  refine jGo_blk qX12_refuseFar_0 ?_
  refine st_gr jo_176 jr_176_50 ?_
  have e1 : jw32 (-a1) = -a1 := j32e (by omega) (by omega)
  refine st_ai jo_219 (show 0 ≤ jw32 (-a1) by omega) (show jw32 (-a1) < ((8 : Nat) : Int) by omega) (fun v2 ev2 b3 => ?_)
  replace ev2 : v2 = h 219 (jw32 (-a1)) := ev2
  replace b3 := (jba_219 (jw32 (-a1)) _).1 b3
  refine st_si jo_219 (show 0 ≤ jw32 (-a1) by omega) (show jw32 (-a1) < ((8 : Nat) : Int) by omega) (fun hx => (jba_219 _ _).2 hx) (fun g4 eg4 => ?_)
  replace eg4 : g4 = jup h 219 (jw32 (-a1)) (jw32 (v2 + 1)) := eg4
  have fg4 : jfr w_X12_refuseFar h g4 := jfr_up f0 eg4 (by unfold w_X12_refuseFar; omega)
  have e5 : g4 219 (jw32 (-a1)) = jw32 (v2 + 1) := jup_s eg4
  have e6 : jw32 (2000000000 - a1) = 2000000000 - a1 := j32e (by omega) (by omega)
  exact st_r0 (ls := []) ⟨rfl, rfl, fg4, jw32 (2000000000 - a1), rfl, (by omega), trivial⟩

def w_X12_lead (i k : Int) : Prop := (i = 178) ∨ (i = 219)
def k_X12_lead (a1 : Int) (a2 : Int) (h : JH) (v : Option JV) (r' g : JH) : Prop := r' = jr0 ∧ jfr w_X12_lead h g ∧ ∃ x : Int, v = some (.inl x) ∧ (-1 ≤ x ∧ x ≤ 2000000007) ∧ (True)
set_option maxHeartbeats 4000000 in
theorem c_X12_lead {E : JE} {l : Launch} (a1 : Int) (a2 : Int) (h : JH) : jMt E l 37 [.inr (.inr (.inl 176)), .inl a1, .inl a2] 229 jr0 h (k_X12_lead a1 a2 h) := by
  refine jMt0 (nL := 4) (ls := [.inr (.inr (.inl 176)), .inl a1, .inl a2, .inr (.inr (.inr ()))]) (by decide +kernel) (by decide +kernel) (by decide +kernel) rfl rfl ?_
  have f0 : jfr w_X12_lead h h := jfr_rf _ _
  refine jGo_blk qX12_lead_0 ?_
  refine st_cs (na := 3) (st := [.inl 3, .inl 0, .inl a1]) rfl rfl rfl (c_X12_in a1 0 3 h) rfl ?_
  rintro _ _ _ ⟨rfl, rfl, t1, rfl, ht1, zt1⟩ kt1
  replace kt1 : -2147483648 ≤ t1 ∧ t1 ≤ 2147483647 := kt1
  replace ht1 : 0 ≤ t1 ∧ t1 ≤ 1 := ht1
  replace zt1 : (t1 = 1 ∧ (0 : Int) ≤ a1 ∧ a1 ≤ (3 : Int)) ∨ (t1 = 0 ∧ ¬ ((0 : Int) ≤ a1 ∧ a1 ≤ (3 : Int))) := zt1
  refine And.intro (fun c3 => ?_) (fun c3 => ?_)
  · replace c3 : t1 = 0 := c3
    show jGo E l 37 229 229 _ 18 [.inr (.inr (.inl 176)), .inl a1, .inl a2, .inr (.inr (.inr ()))] [] 229 jr0 h
    refine jGo_blk qX12_lead_18 ?_
    refine st_cv (na := 1) (st := [.inl (-1), .inr (.inr (.inl 176))]) jo_176 rfl rfl rfl (c_X12_refuseFar (-1) h (by omega)) rfl ?_
    rintro _ _ g5 ⟨rfl, ft4, t4, rfl, ht4, zt4⟩ kt4
    replace kt4 : -2147483648 ≤ t4 ∧ t4 ≤ 2147483647 := kt4
    replace ht4 : 2000000001 ≤ t4 ∧ t4 ≤ 2000000007 := ht4
    have fg5 : jfr w_X12_lead h g5 := jfr_tr f0 ft4 (fun i k q => by unfold w_X12_refuseFar at q; unfold w_X12_lead; omega)
    exact st_r0 (ls := []) ⟨rfl, rfl, fg5, t4, rfl, (by omega), trivial⟩
  · replace c3 : ¬ t1 = 0 := by first | exact c3 | exact Int.not_le.mp c3 | exact Int.not_lt.mp c3 | exact Decidable.not_not.mp c3
    refine st_cs (na := 3) (st := [.inl 3, .inl (-1), .inl a2]) rfl rfl rfl (c_X12_in a2 (-1) 3 h) rfl ?_
    rintro _ _ _ ⟨rfl, rfl, t6, rfl, ht6, zt6⟩ kt6
    replace kt6 : -2147483648 ≤ t6 ∧ t6 ≤ 2147483647 := kt6
    replace ht6 : 0 ≤ t6 ∧ t6 ≤ 1 := ht6
    replace zt6 : (t6 = 1 ∧ (-1 : Int) ≤ a2 ∧ a2 ≤ (3 : Int)) ∨ (t6 = 0 ∧ ¬ ((-1 : Int) ≤ a2 ∧ a2 ≤ (3 : Int))) := zt6
    refine And.intro (fun c8 => ?_) (fun c8 => ?_)
    · replace c8 : ¬ t6 = 0 := c8
      show jGo E l 37 229 229 _ 24 [.inr (.inr (.inl 176)), .inl a1, .inl a2, .inr (.inr (.inr ()))] [] 229 jr0 h
      refine jGo_blk qX12_lead_24 ?_
      refine st_gr jo_176 jr_176_2 ?_
      refine st_ai jo_178 (show 0 ≤ a1 by omega) (show a1 < ((4 : Nat) : Int) by omega) (fun v9 ev9 b10 => ?_)
      replace ev9 : v9 = h 178 a1 := ev9
      replace b10 := (jba_178 a1 _).1 b10
      refine st_gr jo_176 jr_176_2 ?_
      refine st_si jo_178 (show 0 ≤ a1 by omega) (show a1 < ((4 : Nat) : Int) by omega) (fun hx => (jba_178 _ _).2 (show -1 ≤ a2 ∧ a2 ≤ 3 by omega)) (fun g11 eg11 => ?_)
      replace eg11 : g11 = jup h 178 a1 a2 := eg11
      have fg11 : jfr w_X12_lead h g11 := jfr_up f0 eg11 (by unfold w_X12_lead; omega)
      have e12 : g11 178 a1 = a2 := jup_s eg11
      exact st_r0 (ls := []) ⟨rfl, rfl, fg11, v9, rfl, (by omega), trivial⟩
    · replace c8 : t6 = 0 := by first | exact c8 | exact Int.not_le.mp c8 | exact Int.not_lt.mp c8 | exact Decidable.not_not.mp c8
      show jGo E l 37 229 229 _ 18 [.inr (.inr (.inl 176)), .inl a1, .inl a2, .inr (.inr (.inr ()))] [] 229 jr0 h
      refine jGo_blk qX12_lead_18 ?_
      refine st_cv (na := 1) (st := [.inl (-1), .inr (.inr (.inl 176))]) jo_176 rfl rfl rfl (c_X12_refuseFar (-1) h (by omega)) rfl ?_
      rintro _ _ g14 ⟨rfl, ft13, t13, rfl, ht13, zt13⟩ kt13
      replace kt13 : -2147483648 ≤ t13 ∧ t13 ≤ 2147483647 := kt13
      replace ht13 : 2000000001 ≤ t13 ∧ t13 ≤ 2000000007 := ht13
      have fg14 : jfr w_X12_lead h g14 := jfr_tr f0 ft13 (fun i k q => by unfold w_X12_refuseFar at q; unfold w_X12_lead; omega)
      exact st_r0 (ls := []) ⟨rfl, rfl, fg14, t13, rfl, (by omega), trivial⟩

def k_X1_handsOfDay (a1 : Int) (a2 : Int) (h : JH) (v : Option JV) (r' g : JH) : Prop := r' = jr0 ∧ h = g ∧ ∃ x : Int, v = some (.inl x) ∧ (0 ≤ x ∧ x ≤ 400) ∧ (True)
set_option maxHeartbeats 4000000 in
theorem c_X1_handsOfDay {E : JE} {l : Launch} (a1 : Int) (a2 : Int) (h : JH) (p1 : 0 ≤ a1 ∧ a1 ≤ 3) (p2 : 0 ≤ a2 ∧ a2 ≤ 2400) : jMt E l 38 [.inr (.inr (.inl 2)), .inl a1, .inl a2] 229 jr0 h (k_X1_handsOfDay a1 a2 h) := by
  refine jMt0 (nL := 4) (ls := [.inr (.inr (.inl 2)), .inl a1, .inl a2, .inr (.inr (.inr ()))]) (by decide +kernel) (by decide +kernel) (by decide +kernel) rfl rfl ?_
  refine jGo_blk qX1_handsOfDay_0 ?_
  refine st_gr jo_2 jr_2_1 ?_
  refine st_ai jo_4 (show 0 ≤ a1 by omega) (show a1 < ((4 : Nat) : Int) by omega) (fun v1 ev1 b2 => ?_)
  replace ev1 : v1 = h 4 a1 := ev1
  replace b2 := (jba_4 a1 _).1 b2
  refine And.intro (fun c3 => ?_) (fun c3 => ?_)
  · replace c3 : v1 = (-1) := c3
    show jGo E l 38 229 229 _ 21 [.inr (.inr (.inl 2)), .inl a1, .inl a2, .inl v1] [] 229 jr0 h
    refine jGo_blk qX1_handsOfDay_21 ?_
    refine st_gr jo_2 jr_2_0 ?_
    refine st_ai jo_3 (show 0 ≤ a1 by omega) (show a1 < ((4 : Nat) : Int) by omega) (fun v4 ev4 b5 => ?_)
    replace ev4 : v4 = h 3 a1 := ev4
    replace b5 := (jba_3 a1 _).1 b5
    exact st_r0 (ls := []) ⟨rfl, rfl, rfl, v4, rfl, (by omega), trivial⟩
  · replace c3 : ¬ v1 = (-1) := by first | exact c3 | exact Int.not_le.mp c3 | exact Int.not_lt.mp c3 | exact Decidable.not_not.mp c3
    refine st_gr jo_2 jr_2_3 ?_
    refine st_ai jo_10 (show 0 ≤ v1 by omega) (show v1 < ((4 : Nat) : Int) by omega) (fun v6 ev6 b7 => ?_)
    replace ev6 : v6 = h 10 v1 := ev6
    replace b7 := (jba_10 v1 _).1 b7
    refine And.intro (fun c8 => ?_) (fun c8 => ?_)
    · replace c8 : 0 < v6 := c8
      show jGo E l 38 229 229 _ 28 [.inr (.inr (.inl 2)), .inl a1, .inl a2, .inl v1] [] 229 jr0 h
      refine jGo_blk qX1_handsOfDay_28 ?_
      refine st_gr jo_2 jr_2_2 ?_
      refine st_ar jo_5 (by decide) (show 0 ≤ v1 by omega) (show v1 < ((4 : Nat) : Int) by omega) (fun u9 eu9 => ?_)
      replace eu9 : u9 = jr0 5 v1 := eu9
      have qu9 : u9 = 6 + v1 := eu9.trans (jrow_5 v1 (by omega) (by omega)).1
      have ou9 : jF 229 u9 1 30 := by rw [eu9]; exact (jrow_5 v1 (by omega) (by omega)).2.1
      have wu9 : ∀ j v : Int, jbd u9 j v ↔ (0 ≤ v ∧ v ≤ 400) := by rw [eu9]; exact (jrow_5 v1 (by omega) (by omega)).2.2
      refine st_gr jo_2 jr_2_3 ?_
      refine st_ai jo_10 (show 0 ≤ v1 by omega) (show v1 < ((4 : Nat) : Int) by omega) (fun v10 ev10 b11 => ?_)
      replace ev10 : v10 = h 10 v1 := ev10
      replace b11 := (jba_10 v1 _).1 b11
      refine And.intro (show v10 ≠ 0 by omega) ?_
      have e12 : True ∧ 0 ≤ a2.tmod v10 ∧ a2.tmod v10 < v10 := ⟨trivial, (jmd (by omega) (by omega)).2⟩
      refine st_ai ou9 (show 0 ≤ a2.tmod v10 by omega) (show a2.tmod v10 < ((30 : Nat) : Int) by omega) (fun v13 ev13 b14 => ?_)
      replace ev13 : v13 = h u9 (a2.tmod v10) := ev13
      replace b14 := (wu9 (a2.tmod v10) _).1 b14
      exact st_r0 (ls := []) ⟨rfl, rfl, rfl, v13, rfl, (by omega), trivial⟩
    · replace c8 : v6 ≤ 0 := by first | exact c8 | exact Int.not_le.mp c8 | exact Int.not_lt.mp c8 | exact Decidable.not_not.mp c8
      show jGo E l 38 229 229 _ 21 [.inr (.inr (.inl 2)), .inl a1, .inl a2, .inl v1] [] 229 jr0 h
      refine jGo_blk qX1_handsOfDay_21 ?_
      refine st_gr jo_2 jr_2_0 ?_
      refine st_ai jo_3 (show 0 ≤ a1 by omega) (show a1 < ((4 : Nat) : Int) by omega) (fun v15 ev15 b16 => ?_)
      replace ev15 : v15 = h 3 a1 := ev15
      replace b16 := (jba_3 a1 _).1 b16
      exact st_r0 (ls := []) ⟨rfl, rfl, rfl, v15, rfl, (by omega), trivial⟩

def w_X11_handsOn (i k : Int) : Prop := (i = 1)
def k_X11_handsOn (a1 : Int) (a2 : Int) (h : JH) (v : Option JV) (r' g : JH) : Prop := r' = jr0 ∧ jfr w_X11_handsOn h g ∧ ∃ x : Int, v = some (.inl x) ∧ (-7 ≤ x ∧ x ≤ 400) ∧ (True)
set_option maxHeartbeats 4000000 in
theorem c_X11_handsOn {E : JE} {l : Launch} (a1 : Int) (a2 : Int) (h : JH) : jMt E l 39 [.inr (.inr (.inl 0)), .inl a1, .inl a2] 229 jr0 h (k_X11_handsOn a1 a2 h) := by
  refine jMt0 (nL := 4) (ls := [.inr (.inr (.inl 0)), .inl a1, .inl a2, .inr (.inr (.inr ()))]) (by decide +kernel) (by decide +kernel) (by decide +kernel) rfl rfl ?_
  have f0 : jfr w_X11_handsOn h h := jfr_rf _ _
  refine jGo_blk qX11_handsOn_0 ?_
  refine st_cs (na := 2) (st := [.inl 4, .inl a1]) rfl rfl rfl (c_X11_within a1 4 h) rfl ?_
  rintro _ _ _ ⟨rfl, rfl, t1, rfl, ht1, zt1⟩ kt1
  replace kt1 : -2147483648 ≤ t1 ∧ t1 ≤ 2147483647 := kt1
  replace ht1 : 0 ≤ t1 ∧ t1 ≤ 1 := ht1
  replace zt1 : (t1 = 1 ∧ 0 ≤ a1 ∧ a1 < (4 : Int)) ∨ (t1 = 0 ∧ ¬ (0 ≤ a1 ∧ a1 < (4 : Int))) := zt1
  refine And.intro (fun c3 => ?_) (fun c3 => ?_)
  · replace c3 : ¬ t1 = 0 := c3
    show jGo E l 39 229 229 _ 12 [.inr (.inr (.inl 0)), .inl a1, .inl a2, .inr (.inr (.inr ()))] [] 229 jr0 h
    refine jGo_blk qX11_handsOn_12 ?_
    refine st_cs (na := 3) (st := [.inl 2000, .inl 0, .inl a2]) rfl rfl rfl (c_X11_outside a2 0 2000 h) rfl ?_
    rintro _ _ _ ⟨rfl, rfl, t4, rfl, ht4, zt4⟩ kt4
    replace kt4 : -2147483648 ≤ t4 ∧ t4 ≤ 2147483647 := kt4
    replace ht4 : -6 ≤ t4 ∧ t4 ≤ 0 := ht4
    replace zt4 : (t4 = -4 ∧ a2 < (0 : Int)) ∨ (t4 = -6 ∧ (0 : Int) ≤ a2 ∧ (2000 : Int) < a2) ∨ (t4 = 0 ∧ (0 : Int) ≤ a2 ∧ a2 ≤ (2000 : Int)) := zt4
    show jGo E l 39 229 229 _ 20 [.inr (.inr (.inl 0)), .inl a1, .inl a2, .inr (.inr (.inr ()))] [.inl t4] 229 jr0 h
    refine jGo_blk qX11_handsOn_20 ?_
    refine And.intro (fun c6 => ?_) (fun c6 => ?_)
    · replace c6 : t4 = 0 := c6
      show jGo E l 39 229 229 _ 33 [.inr (.inr (.inl 0)), .inl a1, .inl a2, .inl t4] [] 229 jr0 h
      refine jGo_blk qX11_handsOn_33 ?_
      refine st_gr jo_0 jr_0_2 ?_
      refine st_cv (na := 2) (st := [.inl a2, .inl a1, .inr (.inr (.inl 2))]) jo_2 rfl rfl rfl (c_X1_handsOfDay a1 a2 h (by omega) (by omega)) rfl ?_
      rintro _ _ _ ⟨rfl, rfl, t7, rfl, ht7, zt7⟩ kt7
      replace kt7 : -2147483648 ≤ t7 ∧ t7 ≤ 2147483647 := kt7
      replace ht7 : 0 ≤ t7 ∧ t7 ≤ 400 := ht7
      show jGo E l 39 229 229 _ 42 [.inr (.inr (.inl 0)), .inl a1, .inl a2, .inl t4] [.inl t7] 229 jr0 h
      refine jGo_blk qX11_handsOn_42 ?_
      exact st_r0 (ls := []) ⟨rfl, rfl, f0, t7, rfl, (by omega), trivial⟩
    · replace c6 : ¬ t4 = 0 := by first | exact c6 | exact Int.not_le.mp c6 | exact Int.not_lt.mp c6 | exact Decidable.not_not.mp c6
      refine st_cv (na := 1) (st := [.inl t4, .inr (.inr (.inl 0))]) jo_0 rfl rfl rfl (c_X11_refused t4 h (by omega)) rfl ?_
      rintro _ _ g10 ⟨rfl, ft9, t9, rfl, ht9, zt9⟩ kt9
      replace kt9 : -2147483648 ≤ t9 ∧ t9 ≤ 2147483647 := kt9
      replace ht9 : -7 ≤ t9 ∧ t9 ≤ -1 := ht9
      have fg10 : jfr w_X11_handsOn h g10 := jfr_tr f0 ft9 (fun i k q => by unfold w_X11_refused at q; unfold w_X11_handsOn; omega)
      replace zt9 : t9 = t4 := zt9
      show jGo E l 39 229 229 _ 42 [.inr (.inr (.inl 0)), .inl a1, .inl a2, .inl t4] [.inl t9] 229 jr0 g10
      refine jGo_blk qX11_handsOn_42 ?_
      exact st_r0 (ls := []) ⟨rfl, rfl, fg10, t9, rfl, (by omega), trivial⟩
  · replace c3 : t1 = 0 := by first | exact c3 | exact Int.not_le.mp c3 | exact Int.not_lt.mp c3 | exact Decidable.not_not.mp c3
    show jGo E l 39 229 229 _ 20 [.inr (.inr (.inl 0)), .inl a1, .inl a2, .inr (.inr (.inr ()))] [.inl (-1)] 229 jr0 h
    refine jGo_blk qX11_handsOn_20 ?_
    refine And.intro (fun c11 => ?_) (fun c11 => ?_)
    · replace c11 : (-1 : Int) = 0 := c11
      exfalso; omega
    · replace c11 : ¬ (-1 : Int) = 0 := by first | exact c11 | exact Int.not_le.mp c11 | exact Int.not_lt.mp c11 | exact Decidable.not_not.mp c11
      refine st_cv (na := 1) (st := [.inl (-1), .inr (.inr (.inl 0))]) jo_0 rfl rfl rfl (c_X11_refused (-1) h (by omega)) rfl ?_
      rintro _ _ g13 ⟨rfl, ft12, t12, rfl, ht12, zt12⟩ kt12
      replace kt12 : -2147483648 ≤ t12 ∧ t12 ≤ 2147483647 := kt12
      replace ht12 : -7 ≤ t12 ∧ t12 ≤ -1 := ht12
      have fg13 : jfr w_X11_handsOn h g13 := jfr_tr f0 ft12 (fun i k q => by unfold w_X11_refused at q; unfold w_X11_handsOn; omega)
      replace zt12 : t12 = (-1 : Int) := zt12
      show jGo E l 39 229 229 _ 42 [.inr (.inr (.inl 0)), .inl a1, .inl a2, .inl (-1)] [.inl t12] 229 jr0 g13
      refine jGo_blk qX11_handsOn_42 ?_
      exact st_r0 (ls := []) ⟨rfl, rfl, fg13, t12, rfl, (by omega), trivial⟩

def k_X12_handsAt (a1 : Int) (a2 : Int) (h : JH) (v : Option JV) (r' g : JH) : Prop := r' = jr0 ∧ h = g ∧ ∃ x : Int, v = some (.inl x) ∧ (0 ≤ x ∧ x ≤ 400) ∧ (True)
set_option maxHeartbeats 4000000 in
theorem c_X12_handsAt {E : JE} {l : Launch} (a1 : Int) (a2 : Int) (h : JH) (p1 : 0 ≤ a1 ∧ a1 ≤ 3) (p2 : 0 ≤ a2 ∧ a2 ≤ 2400) : jMt E l 40 [.inr (.inr (.inl 176)), .inl a1, .inl a2] 229 jr0 h (k_X12_handsAt a1 a2 h) := by
  refine jMt0 (nL := 4) (ls := [.inr (.inr (.inl 176)), .inl a1, .inl a2, .inr (.inr (.inr ()))]) (by decide +kernel) (by decide +kernel) (by decide +kernel) rfl rfl ?_
  refine jGo_blk qX12_handsAt_0 ?_
  refine st_gr jo_176 jr_176_2 ?_
  refine st_ai jo_178 (show 0 ≤ a1 by omega) (show a1 < ((4 : Nat) : Int) by omega) (fun v1 ev1 b2 => ?_)
  replace ev1 : v1 = h 178 a1 := ev1
  replace b2 := (jba_178 a1 _).1 b2
  refine And.intro (fun c3 => ?_) (fun c3 => ?_)
  · replace c3 : v1 < 0 := c3
    show jGo E l 40 229 229 _ 41 [.inr (.inr (.inl 176)), .inl a1, .inl a2, .inl v1] [] 229 jr0 h
    refine jGo_blk qX12_handsAt_41 ?_
    refine st_gr jo_176 jr_176_1 ?_
    refine st_ai jo_177 (show 0 ≤ a1 by omega) (show a1 < ((4 : Nat) : Int) by omega) (fun v4 ev4 b5 => ?_)
    replace ev4 : v4 = h 177 a1 := ev4
    replace b5 := (jba_177 a1 _).1 b5
    show jGo E l 40 229 229 _ 47 [.inr (.inr (.inl 176)), .inl a1, .inl a2, .inl v1] [.inl v4] 229 jr0 h
    refine jGo_blk qX12_handsAt_47 ?_
    exact st_r0 (ls := []) ⟨rfl, rfl, rfl, v4, rfl, (by omega), trivial⟩
  · replace c3 : 0 ≤ v1 := by first | exact c3 | exact Int.not_le.mp c3 | exact Int.not_lt.mp c3 | exact Decidable.not_not.mp c3
    refine st_gr jo_176 jr_176_3 ?_
    refine st_ai jo_179 (show 0 ≤ v1 by omega) (show v1 < ((4 : Nat) : Int) by omega) (fun v6 ev6 b7 => ?_)
    replace ev6 : v6 = h 179 v1 := ev6
    replace b7 := (jba_179 v1 _).1 b7
    refine And.intro (fun c8 => ?_) (fun c8 => ?_)
    · replace c8 : v6 ≤ 0 := c8
      show jGo E l 40 229 229 _ 41 [.inr (.inr (.inl 176)), .inl a1, .inl a2, .inl v1] [] 229 jr0 h
      refine jGo_blk qX12_handsAt_41 ?_
      refine st_gr jo_176 jr_176_1 ?_
      refine st_ai jo_177 (show 0 ≤ a1 by omega) (show a1 < ((4 : Nat) : Int) by omega) (fun v9 ev9 b10 => ?_)
      replace ev9 : v9 = h 177 a1 := ev9
      replace b10 := (jba_177 a1 _).1 b10
      show jGo E l 40 229 229 _ 47 [.inr (.inr (.inl 176)), .inl a1, .inl a2, .inl v1] [.inl v9] 229 jr0 h
      refine jGo_blk qX12_handsAt_47 ?_
      exact st_r0 (ls := []) ⟨rfl, rfl, rfl, v9, rfl, (by omega), trivial⟩
    · replace c8 : 0 < v6 := by first | exact c8 | exact Int.not_le.mp c8 | exact Int.not_lt.mp c8 | exact Decidable.not_not.mp c8
      refine st_gr jo_176 jr_176_4 ?_
      have e11 : jw32 (30 * v1) = 30 * v1 := j32e (by omega) (by omega)
      refine st_gr jo_176 jr_176_3 ?_
      refine st_ai jo_179 (show 0 ≤ v1 by omega) (show v1 < ((4 : Nat) : Int) by omega) (fun v12 ev12 b13 => ?_)
      replace ev12 : v12 = h 179 v1 := ev12
      replace b13 := (jba_179 v1 _).1 b13
      refine And.intro (show v12 ≠ 0 by omega) ?_
      have e14 : True ∧ 0 ≤ a2.tmod v12 ∧ a2.tmod v12 < v12 := ⟨trivial, (jmd (by omega) (by omega)).2⟩
      have e15 : jw32 ((jw32 (30 * v1)) + (a2.tmod v12)) = (jw32 (30 * v1)) + (a2.tmod v12) := j32e (by omega) (by omega)
      refine st_ai jo_180 (show 0 ≤ jw32 ((jw32 (30 * v1)) + (a2.tmod v12)) by omega) (show jw32 ((jw32 (30 * v1)) + (a2.tmod v12)) < ((120 : Nat) : Int) by omega) (fun v16 ev16 b17 => ?_)
      replace ev16 : v16 = h 180 (jw32 ((jw32 (30 * v1)) + (a2.tmod v12))) := ev16
      replace b17 := (jba_180 (jw32 ((jw32 (30 * v1)) + (a2.tmod v12))) _).1 b17
      show jGo E l 40 229 229 _ 47 [.inr (.inr (.inl 176)), .inl a1, .inl a2, .inl v1] [.inl v16] 229 jr0 h
      refine jGo_blk qX12_handsAt_47 ?_
      exact st_r0 (ls := []) ⟨rfl, rfl, rfl, v16, rfl, (by omega), trivial⟩

def w_X12_handsOn (i k : Int) : Prop := (i = 219)
def k_X12_handsOn (a1 : Int) (a2 : Int) (h : JH) (v : Option JV) (r' g : JH) : Prop := r' = jr0 ∧ jfr w_X12_handsOn h g ∧ ∃ x : Int, v = some (.inl x) ∧ (-7 ≤ x ∧ x ≤ 400) ∧ (True)
set_option maxHeartbeats 4000000 in
theorem c_X12_handsOn {E : JE} {l : Launch} (a1 : Int) (a2 : Int) (h : JH) : jMt E l 41 [.inr (.inr (.inl 176)), .inl a1, .inl a2] 229 jr0 h (k_X12_handsOn a1 a2 h) := by
  refine jMt0 (nL := 3) (ls := [.inr (.inr (.inl 176)), .inl a1, .inl a2]) (by decide +kernel) (by decide +kernel) (by decide +kernel) rfl rfl ?_
  have f0 : jfr w_X12_handsOn h h := jfr_rf _ _
  refine jGo_blk qX12_handsOn_0 ?_
  refine st_cs (na := 3) (st := [.inl 3, .inl 0, .inl a1]) rfl rfl rfl (c_X12_in a1 0 3 h) rfl ?_
  rintro _ _ _ ⟨rfl, rfl, t1, rfl, ht1, zt1⟩ kt1
  replace kt1 : -2147483648 ≤ t1 ∧ t1 ≤ 2147483647 := kt1
  replace ht1 : 0 ≤ t1 ∧ t1 ≤ 1 := ht1
  replace zt1 : (t1 = 1 ∧ (0 : Int) ≤ a1 ∧ a1 ≤ (3 : Int)) ∨ (t1 = 0 ∧ ¬ ((0 : Int) ≤ a1 ∧ a1 ≤ (3 : Int))) := zt1
  refine And.intro (fun c3 => ?_) (fun c3 => ?_)
  · replace c3 : ¬ t1 = 0 := c3
    show jGo E l 41 229 229 _ 15 [.inr (.inr (.inl 176)), .inl a1, .inl a2] [] 229 jr0 h
    refine jGo_blk qX12_handsOn_15 ?_
    refine And.intro (fun c4 => ?_) (fun c4 => ?_)
    · replace c4 : 0 ≤ a2 := c4
      show jGo E l 41 229 229 _ 26 [.inr (.inr (.inl 176)), .inl a1, .inl a2] [] 229 jr0 h
      refine jGo_blk qX12_handsOn_26 ?_
      refine And.intro (fun c5 => ?_) (fun c5 => ?_)
      · replace c5 : a2 ≤ 2000 := c5
        show jGo E l 41 229 229 _ 42 [.inr (.inr (.inl 176)), .inl a1, .inl a2] [] 229 jr0 h
        refine jGo_blk qX12_handsOn_42 ?_
        refine st_cv (na := 2) (st := [.inl a2, .inl a1, .inr (.inr (.inl 176))]) jo_176 rfl rfl rfl (c_X12_handsAt a1 a2 h (by omega) (by omega)) rfl ?_
        rintro _ _ _ ⟨rfl, rfl, t6, rfl, ht6, zt6⟩ kt6
        replace kt6 : -2147483648 ≤ t6 ∧ t6 ≤ 2147483647 := kt6
        replace ht6 : 0 ≤ t6 ∧ t6 ≤ 400 := ht6
        show jGo E l 41 229 229 _ 48 [.inr (.inr (.inl 176)), .inl a1, .inl a2] [.inl t6] 229 jr0 h
        refine jGo_blk qX12_handsOn_48 ?_
        exact st_r0 (ls := []) ⟨rfl, rfl, f0, t6, rfl, (by omega), trivial⟩
      · replace c5 : 2000 < a2 := by first | exact c5 | exact Int.not_le.mp c5 | exact Int.not_lt.mp c5 | exact Decidable.not_not.mp c5
        refine st_cv (na := 1) (st := [.inl (-6), .inr (.inr (.inl 176))]) jo_176 rfl rfl rfl (c_X12_refuse (-6) h (by omega)) rfl ?_
        rintro _ _ g9 ⟨rfl, ft8, t8, rfl, ht8, zt8⟩ kt8
        replace kt8 : -2147483648 ≤ t8 ∧ t8 ≤ 2147483647 := kt8
        replace ht8 : -7 ≤ t8 ∧ t8 ≤ -1 := ht8
        have fg9 : jfr w_X12_handsOn h g9 := jfr_tr f0 ft8 (fun i k q => by unfold w_X12_refuse at q; unfold w_X12_handsOn; omega)
        replace zt8 : t8 = (-6 : Int) := zt8
        show jGo E l 41 229 229 _ 48 [.inr (.inr (.inl 176)), .inl a1, .inl a2] [.inl t8] 229 jr0 g9
        refine jGo_blk qX12_handsOn_48 ?_
        exact st_r0 (ls := []) ⟨rfl, rfl, fg9, t8, rfl, (by omega), trivial⟩
    · replace c4 : a2 < 0 := by first | exact c4 | exact Int.not_le.mp c4 | exact Int.not_lt.mp c4 | exact Decidable.not_not.mp c4
      refine st_cv (na := 1) (st := [.inl (-4), .inr (.inr (.inl 176))]) jo_176 rfl rfl rfl (c_X12_refuse (-4) h (by omega)) rfl ?_
      rintro _ _ g11 ⟨rfl, ft10, t10, rfl, ht10, zt10⟩ kt10
      replace kt10 : -2147483648 ≤ t10 ∧ t10 ≤ 2147483647 := kt10
      replace ht10 : -7 ≤ t10 ∧ t10 ≤ -1 := ht10
      have fg11 : jfr w_X12_handsOn h g11 := jfr_tr f0 ft10 (fun i k q => by unfold w_X12_refuse at q; unfold w_X12_handsOn; omega)
      replace zt10 : t10 = (-4 : Int) := zt10
      exact st_r0 (ls := []) ⟨rfl, rfl, fg11, t10, rfl, (by omega), trivial⟩
  · replace c3 : t1 = 0 := by first | exact c3 | exact Int.not_le.mp c3 | exact Int.not_lt.mp c3 | exact Decidable.not_not.mp c3
    refine st_cv (na := 1) (st := [.inl (-1), .inr (.inr (.inl 176))]) jo_176 rfl rfl rfl (c_X12_refuse (-1) h (by omega)) rfl ?_
    rintro _ _ g13 ⟨rfl, ft12, t12, rfl, ht12, zt12⟩ kt12
    replace kt12 : -2147483648 ≤ t12 ∧ t12 ≤ 2147483647 := kt12
    replace ht12 : -7 ≤ t12 ∧ t12 ≤ -1 := ht12
    have fg13 : jfr w_X12_handsOn h g13 := jfr_tr f0 ft12 (fun i k q => by unfold w_X12_refuse at q; unfold w_X12_handsOn; omega)
    replace zt12 : t12 = (-1 : Int) := zt12
    exact st_r0 (ls := []) ⟨rfl, rfl, fg13, t12, rfl, (by omega), trivial⟩

def k_X2_slotOf (a0 : Int) (a1 : Int) (h : JH) (v : Option JV) (r' g : JH) : Prop := r' = jr0 ∧ h = g ∧ ∃ x : Int, v = some (.inl x) ∧ (0 ≤ x ∧ x ≤ 9) ∧ (True)
set_option maxHeartbeats 4000000 in
theorem c_X2_slotOf {E : JE} {l : Launch} (a0 : Int) (a1 : Int) (h : JH) (p1 : 0 ≤ a1 ∧ a1 ≤ 3) : jMt E l 42 [.inl a0, .inl a1] 229 jr0 h (k_X2_slotOf a0 a1 h) := by
  refine jMt0 (nL := 2) (ls := [.inl a0, .inl a1]) (by decide +kernel) (by decide +kernel) (by decide +kernel) rfl rfl ?_
  refine jGo_blk qX2_slotOf_0 ?_
  refine And.intro (fun c1 => ?_) (And.intro (fun c1 => ?_) (And.intro (fun c1 => ?_) (And.intro (fun c1 => ?_) (trivial))))
  · replace c1 : a0 < 0 ∨ 2 < a0 := c1
    show jGo E l 42 229 229 _ 37 [.inl a0, .inl a1] [] 229 jr0 h
    refine jGo_blk qX2_slotOf_37 ?_
    exact st_r0 (ls := []) ⟨rfl, rfl, rfl, 9, rfl, (by omega), trivial⟩
  · replace c1 : a0 = 0 := c1
    show jGo E l 42 229 229 _ 28 [.inl a0, .inl a1] [] 229 jr0 h
    refine jGo_blk qX2_slotOf_28 ?_
    exact st_r0 (ls := []) ⟨rfl, rfl, rfl, a1, rfl, (by omega), trivial⟩
  · replace c1 : a0 = 1 := c1
    show jGo E l 42 229 229 _ 30 [.inl a0, .inl a1] [] 229 jr0 h
    refine jGo_blk qX2_slotOf_30 ?_
    have e2 : jw32 (4 + a1) = 4 + a1 := j32e (by omega) (by omega)
    exact st_r0 (ls := []) ⟨rfl, rfl, rfl, jw32 (4 + a1), rfl, (by omega), trivial⟩
  · replace c1 : a0 = 2 := c1
    show jGo E l 42 229 229 _ 34 [.inl a0, .inl a1] [] 229 jr0 h
    refine jGo_blk qX2_slotOf_34 ?_
    exact st_r0 (ls := []) ⟨rfl, rfl, rfl, 8, rfl, (by omega), trivial⟩

def w_X2_insert (i k : Int) : Prop := (12 ≤ i ∧ i ≤ 14) ∨ (i = 11 ∧ k = 0)
def k_X2_insert (a1 : Int) (a2 : Int) (a3 : Int) (h : JH) (v : Option JV) (r' g : JH) : Prop := r' = jr0 ∧ jfr w_X2_insert h g ∧ v = none ∧ (True)
set_option maxHeartbeats 4000000 in
theorem c_X2_insert {E : JE} {l : Launch} (a1 : Int) (a2 : Int) (a3 : Int) (h : JH) (p1 : 0 ≤ a1 ∧ a1 ≤ 9) (p2 : 0 ≤ a2 ∧ a2 ≤ 200) (p3 : 0 ≤ a3 ∧ a3 ≤ 2000) (q0 : h 11 0 ≤ 39) : jMt E l 43 [.inr (.inr (.inl 11)), .inl a1, .inl a2, .inl a3] 229 jr0 h (k_X2_insert a1 a2 a3 h) := by
  refine jMt0 (nL := 5) (ls := [.inr (.inr (.inl 11)), .inl a1, .inl a2, .inl a3, .inr (.inr (.inr ()))]) (by decide +kernel) (by decide +kernel) (by decide +kernel) rfl rfl ?_
  have f0 : jfr w_X2_insert h h := jfr_rf _ _
  have key : ∀ N : Nat, (∀ (x4 : Int) (g : JH), (0 ≤ x4 ∧ x4 ≤ 39) → (g 11 0 = h 11 0) → jfr w_X2_insert h g → (x4 - 0) < (N : Int) → jGo E l 43 229 229 (jRK (k_X2_insert a1 a2 a3 h)) 6 [.inr (.inr (.inl 11)), .inl a1, .inl a2, .inl a3, .inl x4] [] 229 jr0 g) := by
    intro N
    induction N with
    | zero => exact fun _ _ hi hx0 _ hN => absurd hN (by omega)
    | succ N ih =>
      intro x4 g hi hx0 hf hN
      refine jGo_blk qX2_insert_6 ?_
      refine And.intro (fun c1 => ?_) (fun c1 => ?_)
      · replace c1 : x4 ≤ 0 := c1
        show jGo E l 43 229 229 _ 78 [.inr (.inr (.inl 11)), .inl a1, .inl a2, .inl a3, .inl x4] [] 229 jr0 g
        refine jGo_blk qX2_insert_78 ?_
        refine st_gr jo_11 jr_11_1 ?_
        refine st_si jo_12 (show 0 ≤ x4 by omega) (show x4 < ((40 : Nat) : Int) by omega) (fun hx => (jba_12 _ _).2 (show 0 ≤ a1 ∧ a1 ≤ 9 by omega)) (fun g2 eg2 => ?_)
        replace eg2 : g2 = jup g 12 x4 a1 := eg2
        have fg2 : jfr w_X2_insert h g2 := jfr_up hf eg2 (by unfold w_X2_insert; omega)
        have e3 : g2 12 x4 = a1 := jup_s eg2
        refine st_gr jo_11 jr_11_2 ?_
        refine st_si jo_13 (show 0 ≤ x4 by omega) (show x4 < ((40 : Nat) : Int) by omega) (fun hx => (jba_13 _ _).2 (show 0 ≤ a2 ∧ a2 ≤ 200 by omega)) (fun g4 eg4 => ?_)
        replace eg4 : g4 = jup g2 13 x4 a2 := eg4
        have fg4 : jfr w_X2_insert h g4 := jfr_up fg2 eg4 (by unfold w_X2_insert; omega)
        have e5 : g4 13 x4 = a2 := jup_s eg4
        refine st_gr jo_11 jr_11_3 ?_
        refine st_si jo_14 (show 0 ≤ x4 by omega) (show x4 < ((40 : Nat) : Int) by omega) (fun hx => (jba_14 _ _).2 (show 0 ≤ a3 ∧ a3 ≤ 2000 by omega)) (fun g6 eg6 => ?_)
        replace eg6 : g6 = jup g4 14 x4 a3 := eg6
        have fg6 : jfr w_X2_insert h g6 := jfr_up fg4 eg6 (by unfold w_X2_insert; omega)
        have e7 : g6 14 x4 = a3 := jup_s eg6
        refine st_gi jo_11 (fun v8 ev8 b9 => ?_)
        replace ev8 : v8 = g6 11 0 := ev8
        replace b9 := (jbf_2_0 jo_11 _).1 b9
        have e10 : g6 11 0 = g4 11 0 := jup_o eg6 (by omega)
        have e11 : g4 11 0 = g2 11 0 := jup_o eg4 (by omega)
        have e12 : g2 11 0 = g 11 0 := jup_o eg2 (by omega)
        have e13 : jw32 (v8 + 1) = v8 + 1 := j32e (by omega) (by omega)
        refine st_pi jo_11 (fun hx => (jbf_2_0 jo_11 _).2 (show 0 ≤ jw32 (v8 + 1) ∧ jw32 (v8 + 1) ≤ 40 by omega)) (fun g14 eg14 => ?_)
        replace eg14 : g14 = jup g6 11 0 (jw32 (v8 + 1)) := eg14
        have fg14 : jfr w_X2_insert h g14 := jfr_up fg6 eg14 (by unfold w_X2_insert; omega)
        have e15 : g14 11 0 = jw32 (v8 + 1) := jup_s eg14
        exact ⟨rfl, rfl, fg14, rfl, trivial⟩
      · replace c1 : 0 < x4 := by first | exact c1 | exact Int.not_le.mp c1 | exact Int.not_lt.mp c1 | exact Decidable.not_not.mp c1
        refine st_gr jo_11 jr_11_3 ?_
        have e16 : jw32 (x4 - 1) = x4 - 1 := j32e (by omega) (by omega)
        refine st_ai jo_14 (show 0 ≤ jw32 (x4 - 1) by omega) (show jw32 (x4 - 1) < ((40 : Nat) : Int) by omega) (fun v17 ev17 b18 => ?_)
        replace ev17 : v17 = g 14 (jw32 (x4 - 1)) := ev17
        replace b18 := (jba_14 (jw32 (x4 - 1)) _).1 b18
        refine And.intro (fun c19 => ?_) (fun c19 => ?_)
        · replace c19 : v17 ≤ a3 := c19
          show jGo E l 43 229 229 _ 78 [.inr (.inr (.inl 11)), .inl a1, .inl a2, .inl a3, .inl x4] [] 229 jr0 g
          refine jGo_blk qX2_insert_78 ?_
          refine st_gr jo_11 jr_11_1 ?_
          refine st_si jo_12 (show 0 ≤ x4 by omega) (show x4 < ((40 : Nat) : Int) by omega) (fun hx => (jba_12 _ _).2 (show 0 ≤ a1 ∧ a1 ≤ 9 by omega)) (fun g20 eg20 => ?_)
          replace eg20 : g20 = jup g 12 x4 a1 := eg20
          have fg20 : jfr w_X2_insert h g20 := jfr_up hf eg20 (by unfold w_X2_insert; omega)
          have e21 : g20 12 x4 = a1 := jup_s eg20
          refine st_gr jo_11 jr_11_2 ?_
          refine st_si jo_13 (show 0 ≤ x4 by omega) (show x4 < ((40 : Nat) : Int) by omega) (fun hx => (jba_13 _ _).2 (show 0 ≤ a2 ∧ a2 ≤ 200 by omega)) (fun g22 eg22 => ?_)
          replace eg22 : g22 = jup g20 13 x4 a2 := eg22
          have fg22 : jfr w_X2_insert h g22 := jfr_up fg20 eg22 (by unfold w_X2_insert; omega)
          have e23 : g22 13 x4 = a2 := jup_s eg22
          refine st_gr jo_11 jr_11_3 ?_
          refine st_si jo_14 (show 0 ≤ x4 by omega) (show x4 < ((40 : Nat) : Int) by omega) (fun hx => (jba_14 _ _).2 (show 0 ≤ a3 ∧ a3 ≤ 2000 by omega)) (fun g24 eg24 => ?_)
          replace eg24 : g24 = jup g22 14 x4 a3 := eg24
          have fg24 : jfr w_X2_insert h g24 := jfr_up fg22 eg24 (by unfold w_X2_insert; omega)
          have e25 : g24 14 x4 = a3 := jup_s eg24
          refine st_gi jo_11 (fun v26 ev26 b27 => ?_)
          replace ev26 : v26 = g24 11 0 := ev26
          replace b27 := (jbf_2_0 jo_11 _).1 b27
          have e28 : g24 11 0 = g22 11 0 := jup_o eg24 (by omega)
          have e29 : g22 11 0 = g20 11 0 := jup_o eg22 (by omega)
          have e30 : g20 11 0 = g 11 0 := jup_o eg20 (by omega)
          have e31 : jw32 (v26 + 1) = v26 + 1 := j32e (by omega) (by omega)
          refine st_pi jo_11 (fun hx => (jbf_2_0 jo_11 _).2 (show 0 ≤ jw32 (v26 + 1) ∧ jw32 (v26 + 1) ≤ 40 by omega)) (fun g32 eg32 => ?_)
          replace eg32 : g32 = jup g24 11 0 (jw32 (v26 + 1)) := eg32
          have fg32 : jfr w_X2_insert h g32 := jfr_up fg24 eg32 (by unfold w_X2_insert; omega)
          have e33 : g32 11 0 = jw32 (v26 + 1) := jup_s eg32
          exact ⟨rfl, rfl, fg32, rfl, trivial⟩
        · replace c19 : a3 < v17 := by first | exact c19 | exact Int.not_le.mp c19 | exact Int.not_lt.mp c19 | exact Decidable.not_not.mp c19
          refine st_gr jo_11 jr_11_1 ?_
          refine st_gr jo_11 jr_11_1 ?_
          have e34 : jw32 (x4 - 1) = x4 - 1 := j32e (by omega) (by omega)
          refine st_ai jo_12 (show 0 ≤ jw32 (x4 - 1) by omega) (show jw32 (x4 - 1) < ((40 : Nat) : Int) by omega) (fun v35 ev35 b36 => ?_)
          replace ev35 : v35 = g 12 (jw32 (x4 - 1)) := ev35
          replace b36 := (jba_12 (jw32 (x4 - 1)) _).1 b36
          refine st_si jo_12 (show 0 ≤ x4 by omega) (show x4 < ((40 : Nat) : Int) by omega) (fun hx => (jba_12 _ _).2 (show 0 ≤ v35 ∧ v35 ≤ 9 by omega)) (fun g37 eg37 => ?_)
          replace eg37 : g37 = jup g 12 x4 v35 := eg37
          have fg37 : jfr w_X2_insert h g37 := jfr_up hf eg37 (by unfold w_X2_insert; omega)
          have e38 : g37 12 x4 = v35 := jup_s eg37
          refine st_gr jo_11 jr_11_2 ?_
          refine st_gr jo_11 jr_11_2 ?_
          have e39 : jw32 (x4 - 1) = x4 - 1 := j32e (by omega) (by omega)
          refine st_ai jo_13 (show 0 ≤ jw32 (x4 - 1) by omega) (show jw32 (x4 - 1) < ((40 : Nat) : Int) by omega) (fun v40 ev40 b41 => ?_)
          replace ev40 : v40 = g37 13 (jw32 (x4 - 1)) := ev40
          replace b41 := (jba_13 (jw32 (x4 - 1)) _).1 b41
          refine st_si jo_13 (show 0 ≤ x4 by omega) (show x4 < ((40 : Nat) : Int) by omega) (fun hx => (jba_13 _ _).2 (show 0 ≤ v40 ∧ v40 ≤ 200 by omega)) (fun g42 eg42 => ?_)
          replace eg42 : g42 = jup g37 13 x4 v40 := eg42
          have fg42 : jfr w_X2_insert h g42 := jfr_up fg37 eg42 (by unfold w_X2_insert; omega)
          have e43 : g42 13 x4 = v40 := jup_s eg42
          refine st_gr jo_11 jr_11_3 ?_
          refine st_gr jo_11 jr_11_3 ?_
          have e44 : jw32 (x4 - 1) = x4 - 1 := j32e (by omega) (by omega)
          refine st_ai jo_14 (show 0 ≤ jw32 (x4 - 1) by omega) (show jw32 (x4 - 1) < ((40 : Nat) : Int) by omega) (fun v45 ev45 b46 => ?_)
          replace ev45 : v45 = g42 14 (jw32 (x4 - 1)) := ev45
          replace b46 := (jba_14 (jw32 (x4 - 1)) _).1 b46
          refine st_si jo_14 (show 0 ≤ x4 by omega) (show x4 < ((40 : Nat) : Int) by omega) (fun hx => (jba_14 _ _).2 (show 0 ≤ v45 ∧ v45 ≤ 2000 by omega)) (fun g47 eg47 => ?_)
          replace eg47 : g47 = jup g42 14 x4 v45 := eg47
          have fg47 : jfr w_X2_insert h g47 := jfr_up fg42 eg47 (by unfold w_X2_insert; omega)
          have e48 : g47 14 x4 = v45 := jup_s eg47
          have e49 : jw32 (x4 + (-1)) = x4 + (-1) := j32e (by omega) (by omega)
          show jGo E l 43 229 229 _ 6 [.inr (.inr (.inl 11)), .inl a1, .inl a2, .inl a3, .inl (jw32 (x4 + (-1)))] [] 229 jr0 g47
          have e50 : g47 11 0 = g42 11 0 := jup_o eg47 (by omega)
          have e51 : g42 11 0 = g37 11 0 := jup_o eg42 (by omega)
          have e52 : g37 11 0 = g 11 0 := jup_o eg37 (by omega)
          exact ih (jw32 (x4 + (-1))) g47 (by omega) (by omega) fg47 (by omega)
  refine jGo_blk qX2_insert_0 ?_
  refine st_gi jo_11 (fun v53 ev53 b54 => ?_)
  replace ev53 : v53 = h 11 0 := ev53
  replace b54 := (jbf_2_0 jo_11 _).1 b54
  show jGo E l 43 229 229 _ 6 [.inr (.inr (.inl 11)), .inl a1, .inl a2, .inl a3, .inl v53] [] 229 jr0 h
  exact (key 1000000000000) v53 h (by omega) (by omega) f0 (by omega)

def w_X11_decree (i k : Int) : Prop := (i = 1) ∨ (12 ≤ i ∧ i ≤ 14) ∨ (i = 11 ∧ k = 0) ∨ (i = 111 ∧ 9 ≤ k ∧ k ≤ 11)
def k_X11_decree (a1 : Int) (a2 : Int) (a3 : Int) (a4 : Int) (h : JH) (v : Option JV) (r' g : JH) : Prop := r' = jr0 ∧ jfr w_X11_decree h g ∧ ∃ x : Int, v = some (.inl x) ∧ (-7 ≤ x ∧ x ≤ 39) ∧ (True)
set_option maxHeartbeats 4000000 in
theorem c_X11_decree {E : JE} {l : Launch} (a1 : Int) (a2 : Int) (a3 : Int) (a4 : Int) (h : JH) : jMt E l 44 [.inr (.inr (.inl 0)), .inl a1, .inl a2, .inl a3, .inl a4] 229 jr0 h (k_X11_decree a1 a2 a3 a4 h) := by
  refine jMt0 (nL := 5) (ls := [.inr (.inr (.inl 0)), .inl a1, .inl a2, .inl a3, .inl a4]) (by decide +kernel) (by decide +kernel) (by decide +kernel) rfl rfl ?_
  have f0 : jfr w_X11_decree h h := jfr_rf _ _
  refine jGo_blk qX11_decree_0 ?_
  refine st_cs (na := 2) (st := [.inl 4, .inl a1]) rfl rfl rfl (c_X11_within a1 4 h) rfl ?_
  rintro _ _ _ ⟨rfl, rfl, t1, rfl, ht1, zt1⟩ kt1
  replace kt1 : -2147483648 ≤ t1 ∧ t1 ≤ 2147483647 := kt1
  replace ht1 : 0 ≤ t1 ∧ t1 ≤ 1 := ht1
  replace zt1 : (t1 = 1 ∧ 0 ≤ a1 ∧ a1 < (4 : Int)) ∨ (t1 = 0 ∧ ¬ (0 ≤ a1 ∧ a1 < (4 : Int))) := zt1
  refine And.intro (fun c3 => ?_) (fun c3 => ?_)
  · replace c3 : t1 = 0 := c3
    show jGo E l 44 229 229 _ 16 [.inr (.inr (.inl 0)), .inl a1, .inl a2, .inl a3, .inl a4] [] 229 jr0 h
    refine jGo_blk qX11_decree_16 ?_
    refine st_cv (na := 1) (st := [.inl (-1), .inr (.inr (.inl 0))]) jo_0 rfl rfl rfl (c_X11_refused (-1) h (by omega)) rfl ?_
    rintro _ _ g5 ⟨rfl, ft4, t4, rfl, ht4, zt4⟩ kt4
    replace kt4 : -2147483648 ≤ t4 ∧ t4 ≤ 2147483647 := kt4
    replace ht4 : -7 ≤ t4 ∧ t4 ≤ -1 := ht4
    have fg5 : jfr w_X11_decree h g5 := jfr_tr f0 ft4 (fun i k q => by unfold w_X11_refused at q; unfold w_X11_decree; omega)
    replace zt4 : t4 = (-1 : Int) := zt4
    exact st_r0 (ls := []) ⟨rfl, rfl, fg5, t4, rfl, (by omega), trivial⟩
  · replace c3 : ¬ t1 = 0 := by first | exact c3 | exact Int.not_le.mp c3 | exact Int.not_lt.mp c3 | exact Decidable.not_not.mp c3
    refine st_cs (na := 2) (st := [.inl 4, .inl a2]) rfl rfl rfl (c_X11_within a2 4 h) rfl ?_
    rintro _ _ _ ⟨rfl, rfl, t6, rfl, ht6, zt6⟩ kt6
    replace kt6 : -2147483648 ≤ t6 ∧ t6 ≤ 2147483647 := kt6
    replace ht6 : 0 ≤ t6 ∧ t6 ≤ 1 := ht6
    replace zt6 : (t6 = 1 ∧ 0 ≤ a2 ∧ a2 < (4 : Int)) ∨ (t6 = 0 ∧ ¬ (0 ≤ a2 ∧ a2 < (4 : Int))) := zt6
    refine And.intro (fun c8 => ?_) (fun c8 => ?_)
    · replace c8 : ¬ t6 = 0 := c8
      show jGo E l 44 229 229 _ 22 [.inr (.inr (.inl 0)), .inl a1, .inl a2, .inl a3, .inl a4] [] 229 jr0 h
      refine jGo_blk qX11_decree_22 ?_
      refine st_xi (by decide) jx_k3 (jx_l3 E) (show 0 ≤ a1 by omega) (show a1 < ((4 : Nat) : Int) by omega) (fun v9 ev9 => ?_)
      have bv9 : 0 ≤ v9 ∧ v9 ≤ 1 := by rw [ev9]; exact jx_w3 E a1 (by omega) (by omega)
      replace ev9 : v9 = jxv E (-3) a1 := ev9
      refine And.intro (fun c10 => ?_) (fun c10 => ?_)
      · replace c10 : a3 < v9 := c10
        show jGo E l 44 229 229 _ 40 [.inr (.inr (.inl 0)), .inl a1, .inl a2, .inl a3, .inl a4] [] 229 jr0 h
        refine jGo_blk qX11_decree_40 ?_
        refine st_cv (na := 1) (st := [.inl (-4), .inr (.inr (.inl 0))]) jo_0 rfl rfl rfl (c_X11_refused (-4) h (by omega)) rfl ?_
        rintro _ _ g12 ⟨rfl, ft11, t11, rfl, ht11, zt11⟩ kt11
        replace kt11 : -2147483648 ≤ t11 ∧ t11 ≤ 2147483647 := kt11
        replace ht11 : -7 ≤ t11 ∧ t11 ≤ -1 := ht11
        have fg12 : jfr w_X11_decree h g12 := jfr_tr f0 ft11 (fun i k q => by unfold w_X11_refused at q; unfold w_X11_decree; omega)
        replace zt11 : t11 = (-4 : Int) := zt11
        exact st_r0 (ls := []) ⟨rfl, rfl, fg12, t11, rfl, (by omega), trivial⟩
      · replace c10 : v9 ≤ a3 := by first | exact c10 | exact Int.not_le.mp c10 | exact Int.not_lt.mp c10 | exact Decidable.not_not.mp c10
        refine st_gi jo_0 (fun v13 ev13 b14 => ?_)
        replace ev13 : v13 = h 0 0 := ev13
        replace b14 := (jbf_11_0 jo_0 _).1 b14
        refine And.intro (fun c15 => ?_) (fun c15 => ?_)
        · replace c15 : v13 ≤ a4 := c15
          show jGo E l 44 229 229 _ 47 [.inr (.inr (.inl 0)), .inl a1, .inl a2, .inl a3, .inl a4] [] 229 jr0 h
          refine jGo_blk qX11_decree_47 ?_
          refine st_xi (by decide) jx_k4 (jx_l4 E) (show 0 ≤ a1 by omega) (show a1 < ((4 : Nat) : Int) by omega) (fun v16 ev16 => ?_)
          have bv16 : 9 ≤ v16 ∧ v16 ≤ 200 := by rw [ev16]; exact jx_w4 E a1 (by omega) (by omega)
          replace ev16 : v16 = jxv E (-4) a1 := ev16
          refine And.intro (fun c17 => ?_) (fun c17 => ?_)
          · replace c17 : v16 < a3 := c17
            show jGo E l 44 229 229 _ 76 [.inr (.inr (.inl 0)), .inl a1, .inl a2, .inl a3, .inl a4] [] 229 jr0 h
            refine jGo_blk qX11_decree_76 ?_
            refine st_cv (na := 1) (st := [.inl (-6), .inr (.inr (.inl 0))]) jo_0 rfl rfl rfl (c_X11_refused (-6) h (by omega)) rfl ?_
            rintro _ _ g19 ⟨rfl, ft18, t18, rfl, ht18, zt18⟩ kt18
            replace kt18 : -2147483648 ≤ t18 ∧ t18 ≤ 2147483647 := kt18
            replace ht18 : -7 ≤ t18 ∧ t18 ≤ -1 := ht18
            have fg19 : jfr w_X11_decree h g19 := jfr_tr f0 ft18 (fun i k q => by unfold w_X11_refused at q; unfold w_X11_decree; omega)
            replace zt18 : t18 = (-6 : Int) := zt18
            exact st_r0 (ls := []) ⟨rfl, rfl, fg19, t18, rfl, (by omega), trivial⟩
          · replace c17 : a3 ≤ v16 := by first | exact c17 | exact Int.not_le.mp c17 | exact Int.not_lt.mp c17 | exact Decidable.not_not.mp c17
            refine And.intro (fun c20 => ?_) (fun c20 => ?_)
            · replace c20 : 2000 < a4 := c20
              show jGo E l 44 229 229 _ 76 [.inr (.inr (.inl 0)), .inl a1, .inl a2, .inl a3, .inl a4] [] 229 jr0 h
              refine jGo_blk qX11_decree_76 ?_
              refine st_cv (na := 1) (st := [.inl (-6), .inr (.inr (.inl 0))]) jo_0 rfl rfl rfl (c_X11_refused (-6) h (by omega)) rfl ?_
              rintro _ _ g22 ⟨rfl, ft21, t21, rfl, ht21, zt21⟩ kt21
              replace kt21 : -2147483648 ≤ t21 ∧ t21 ≤ 2147483647 := kt21
              replace ht21 : -7 ≤ t21 ∧ t21 ≤ -1 := ht21
              have fg22 : jfr w_X11_decree h g22 := jfr_tr f0 ft21 (fun i k q => by unfold w_X11_refused at q; unfold w_X11_decree; omega)
              replace zt21 : t21 = (-6 : Int) := zt21
              exact st_r0 (ls := []) ⟨rfl, rfl, fg22, t21, rfl, (by omega), trivial⟩
            · replace c20 : a4 ≤ 2000 := by first | exact c20 | exact Int.not_le.mp c20 | exact Int.not_lt.mp c20 | exact Decidable.not_not.mp c20
              refine st_gr jo_0 jr_0_3 ?_
              refine st_gi jo_11 (fun v23 ev23 b24 => ?_)
              replace ev23 : v23 = h 11 0 := ev23
              replace b24 := (jbf_2_0 jo_11 _).1 b24
              refine And.intro (fun c25 => ?_) (fun c25 => ?_)
              · replace c25 : v23 < 40 := c25
                show jGo E l 44 229 229 _ 83 [.inr (.inr (.inl 0)), .inl a1, .inl a2, .inl a3, .inl a4] [] 229 jr0 h
                refine jGo_blk qX11_decree_83 ?_
                refine st_gr jo_0 jr_0_11 ?_
                refine st_cv (na := 0) (st := [.inr (.inr (.inl 111))]) jo_111 rfl rfl rfl (c_X7_forget h) rfl ?_
                rintro _ _ g27 ⟨rfl, ft26, rfl, zt26⟩ kt26
                have fg27 : jfr w_X11_decree h g27 := jfr_tr f0 ft26 (fun i k q => by unfold w_X7_forget at q; unfold w_X11_decree; omega)
                refine st_gr jo_0 jr_0_3 ?_
                refine st_cs (na := 2) (st := [.inl a2, .inl a1, .inr (.inr (.inl 11))]) rfl rfl rfl (c_X2_slotOf a1 a2 g27 (by omega)) rfl ?_
                rintro _ _ _ ⟨rfl, rfl, t28, rfl, ht28, zt28⟩ kt28
                replace kt28 : -2147483648 ≤ t28 ∧ t28 ≤ 2147483647 := kt28
                replace ht28 : 0 ≤ t28 ∧ t28 ≤ 9 := ht28
                have e30 : g27 11 0 = h 11 0 := ft26 11 0 (by unfold w_X7_forget; omega)
                refine st_cv (na := 3) (st := [.inl a4, .inl a3, .inl t28, .inr (.inr (.inl 11))]) jo_11 rfl rfl rfl (c_X2_insert t28 a3 a4 g27 (by omega) (by omega) (by omega) (by omega)) rfl ?_
                rintro _ _ g32 ⟨rfl, ft31, rfl, zt31⟩ kt31
                have fg32 : jfr w_X11_decree h g32 := jfr_tr fg27 ft31 (fun i k q => by unfold w_X2_insert at q; unfold w_X11_decree; omega)
                refine st_gr jo_0 jr_0_3 ?_
                refine st_gi jo_11 (fun v33 ev33 b34 => ?_)
                replace ev33 : v33 = g32 11 0 := ev33
                replace b34 := (jbf_2_0 jo_11 _).1 b34
                have e35 : jw32 (v33 - 1) = v33 - 1 := j32e (by omega) (by omega)
                exact st_r0 (ls := []) ⟨rfl, rfl, fg32, jw32 (v33 - 1), rfl, (by omega), trivial⟩
              · replace c25 : 40 ≤ v23 := by first | exact c25 | exact Int.not_le.mp c25 | exact Int.not_lt.mp c25 | exact Decidable.not_not.mp c25
                show jGo E l 44 229 229 _ 76 [.inr (.inr (.inl 0)), .inl a1, .inl a2, .inl a3, .inl a4] [] 229 jr0 h
                refine jGo_blk qX11_decree_76 ?_
                refine st_cv (na := 1) (st := [.inl (-6), .inr (.inr (.inl 0))]) jo_0 rfl rfl rfl (c_X11_refused (-6) h (by omega)) rfl ?_
                rintro _ _ g37 ⟨rfl, ft36, t36, rfl, ht36, zt36⟩ kt36
                replace kt36 : -2147483648 ≤ t36 ∧ t36 ≤ 2147483647 := kt36
                replace ht36 : -7 ≤ t36 ∧ t36 ≤ -1 := ht36
                have fg37 : jfr w_X11_decree h g37 := jfr_tr f0 ft36 (fun i k q => by unfold w_X11_refused at q; unfold w_X11_decree; omega)
                replace zt36 : t36 = (-6 : Int) := zt36
                exact st_r0 (ls := []) ⟨rfl, rfl, fg37, t36, rfl, (by omega), trivial⟩
        · replace c15 : a4 < v13 := by first | exact c15 | exact Int.not_le.mp c15 | exact Int.not_lt.mp c15 | exact Decidable.not_not.mp c15
          show jGo E l 44 229 229 _ 40 [.inr (.inr (.inl 0)), .inl a1, .inl a2, .inl a3, .inl a4] [] 229 jr0 h
          refine jGo_blk qX11_decree_40 ?_
          refine st_cv (na := 1) (st := [.inl (-4), .inr (.inr (.inl 0))]) jo_0 rfl rfl rfl (c_X11_refused (-4) h (by omega)) rfl ?_
          rintro _ _ g39 ⟨rfl, ft38, t38, rfl, ht38, zt38⟩ kt38
          replace kt38 : -2147483648 ≤ t38 ∧ t38 ≤ 2147483647 := kt38
          replace ht38 : -7 ≤ t38 ∧ t38 ≤ -1 := ht38
          have fg39 : jfr w_X11_decree h g39 := jfr_tr f0 ft38 (fun i k q => by unfold w_X11_refused at q; unfold w_X11_decree; omega)
          replace zt38 : t38 = (-4 : Int) := zt38
          exact st_r0 (ls := []) ⟨rfl, rfl, fg39, t38, rfl, (by omega), trivial⟩
    · replace c8 : t6 = 0 := by first | exact c8 | exact Int.not_le.mp c8 | exact Int.not_lt.mp c8 | exact Decidable.not_not.mp c8
      show jGo E l 44 229 229 _ 16 [.inr (.inr (.inl 0)), .inl a1, .inl a2, .inl a3, .inl a4] [] 229 jr0 h
      refine jGo_blk qX11_decree_16 ?_
      refine st_cv (na := 1) (st := [.inl (-1), .inr (.inr (.inl 0))]) jo_0 rfl rfl rfl (c_X11_refused (-1) h (by omega)) rfl ?_
      rintro _ _ g41 ⟨rfl, ft40, t40, rfl, ht40, zt40⟩ kt40
      replace kt40 : -2147483648 ≤ t40 ∧ t40 ≤ 2147483647 := kt40
      replace ht40 : -7 ≤ t40 ∧ t40 ≤ -1 := ht40
      have fg41 : jfr w_X11_decree h g41 := jfr_tr f0 ft40 (fun i k q => by unfold w_X11_refused at q; unfold w_X11_decree; omega)
      replace zt40 : t40 = (-1 : Int) := zt40
      exact st_r0 (ls := []) ⟨rfl, rfl, fg41, t40, rfl, (by omega), trivial⟩
