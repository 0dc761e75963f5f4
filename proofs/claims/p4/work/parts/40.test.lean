def k_X11_within (a0 : Int) (a1 : Int) (h : JH) (v : Option JV) (r' g : JH) : Prop := r' = jr0 ∧ h = g ∧ ∃ x : Int, v = some (.inl x) ∧ (0 ≤ x ∧ x ≤ 1) ∧ ((x = 1 ∧ 0 ≤ a0 ∧ a0 < a1) ∨ (x = 0 ∧ ¬ (0 ≤ a0 ∧ a0 < a1)))
set_option maxHeartbeats 4000000 in
theorem c_X11_within {E : JE} {l : Launch} (a0 : Int) (a1 : Int) (h : JH) : jMt E l 14 [.inl a0, .inl a1] 229 jr0 h (k_X11_within a0 a1 h) := by
  refine jMt0 (nL := 2) (ls := [.inl a0, .inl a1]) (by decide +kernel) (by decide +kernel) (by decide +kernel) rfl rfl ?_
  refine jGo_blk qX11_within_0 ?_
  refine And.intro (fun c1 => ?_) (fun c1 => ?_)
  · have c1 : a0 < 0 := c1
    show jGo E l 14 229 229 _ 13 [.inl a0, .inl a1] [] 229 jr0 h
    refine jGo_blk qX11_within_13 ?_
    show jGo E l 14 229 229 _ 14 [.inl a0, .inl a1] [.inl 0] 229 jr0 h
    refine jGo_blk qX11_within_14 ?_
    exact st_r1 (ls := []) (by omega) ⟨rfl, rfl, rfl, 0, rfl, (by omega), (by omega)⟩
  · have c1 : 0 ≤ a0 := by first | exact c1 | exact Int.not_le.mp c1 | exact Int.not_lt.mp c1 | exact Decidable.not_not.mp c1
    refine And.intro (fun c2 => ?_) (fun c2 => ?_)
    · have c2 : a1 ≤ a0 := c2
      show jGo E l 14 229 229 _ 13 [.inl a0, .inl a1] [] 229 jr0 h
      refine jGo_blk qX11_within_13 ?_
      show jGo E l 14 229 229 _ 14 [.inl a0, .inl a1] [.inl 0] 229 jr0 h
      refine jGo_blk qX11_within_14 ?_
      exact st_r1 (ls := []) (by omega) ⟨rfl, rfl, rfl, 0, rfl, (by omega), (by omega)⟩
    · have c2 : a0 < a1 := by first | exact c2 | exact Int.not_le.mp c2 | exact Int.not_lt.mp c2 | exact Decidable.not_not.mp c2
      show jGo E l 14 229 229 _ 14 [.inl a0, .inl a1] [.inl 1] 229 jr0 h
      refine jGo_blk qX11_within_14 ?_
      exact st_r1 (ls := []) (by omega) ⟨rfl, rfl, rfl, 1, rfl, (by omega), (by omega)⟩

def k_X11_outside (a0 : Int) (a1 : Int) (a2 : Int) (h : JH) (v : Option JV) (r' g : JH) : Prop := r' = jr0 ∧ h = g ∧ ∃ x : Int, v = some (.inl x) ∧ (-6 ≤ x ∧ x ≤ 0) ∧ ((x = -4 ∧ a0 < a1) ∨ (x = -6 ∧ a1 ≤ a0 ∧ a2 < a0) ∨ (x = 0 ∧ a1 ≤ a0 ∧ a0 ≤ a2))
set_option maxHeartbeats 4000000 in
theorem c_X11_outside {E : JE} {l : Launch} (a0 : Int) (a1 : Int) (a2 : Int) (h : JH) : jMt E l 15 [.inl a0, .inl a1, .inl a2] 229 jr0 h (k_X11_outside a0 a1 a2 h) := by
  refine jMt0 (nL := 3) (ls := [.inl a0, .inl a1, .inl a2]) (by decide +kernel) (by decide +kernel) (by decide +kernel) rfl rfl ?_
  refine jGo_blk qX11_outside_0 ?_
  refine And.intro (fun c1 => ?_) (fun c1 => ?_)
  · have c1 : a1 ≤ a0 := c1
    show jGo E l 15 229 229 _ 10 [.inl a0, .inl a1, .inl a2] [] 229 jr0 h
    refine jGo_blk qX11_outside_10 ?_
    refine And.intro (fun c2 => ?_) (fun c2 => ?_)
    · have c2 : a0 ≤ a2 := c2
      show jGo E l 15 229 229 _ 20 [.inl a0, .inl a1, .inl a2] [] 229 jr0 h
      refine jGo_blk qX11_outside_20 ?_
      show jGo E l 15 229 229 _ 21 [.inl a0, .inl a1, .inl a2] [.inl 0] 229 jr0 h
      refine jGo_blk qX11_outside_21 ?_
      exact st_r0 (ls := []) ⟨rfl, rfl, rfl, 0, rfl, (by omega), (by omega)⟩
    · have c2 : a2 < a0 := by first | exact c2 | exact Int.not_le.mp c2 | exact Int.not_lt.mp c2 | exact Decidable.not_not.mp c2
      show jGo E l 15 229 229 _ 21 [.inl a0, .inl a1, .inl a2] [.inl (-6)] 229 jr0 h
      refine jGo_blk qX11_outside_21 ?_
      exact st_r0 (ls := []) ⟨rfl, rfl, rfl, (-6), rfl, (by omega), (by omega)⟩
  · have c1 : a0 < a1 := by first | exact c1 | exact Int.not_le.mp c1 | exact Int.not_lt.mp c1 | exact Decidable.not_not.mp c1
    show jGo E l 15 229 229 _ 21 [.inl a0, .inl a1, .inl a2] [.inl (-4)] 229 jr0 h
    refine jGo_blk qX11_outside_21 ?_
    exact st_r0 (ls := []) ⟨rfl, rfl, rfl, (-4), rfl, (by omega), (by omega)⟩

def w_X7_forget (i k : Int) : Prop := (i = 111 ∧ 9 ≤ k ∧ k ≤ 11)
def k_X7_forget (h : JH) (v : Option JV) (r' g : JH) : Prop := r' = jr0 ∧ jfr w_X7_forget h g ∧ v = none ∧ (True)
set_option maxHeartbeats 4000000 in
theorem c_X7_forget {E : JE} {l : Launch} (h : JH) : jMt E l 17 [.inr (.inr (.inl 111))] 229 jr0 h (k_X7_forget h) := by
  refine jMt0 (nL := 1) (ls := [.inr (.inr (.inl 111))]) (by decide +kernel) (by decide +kernel) (by decide +kernel) rfl rfl ?_
  have f0 : jfr w_X7_forget h h := jfr_rf _ _
  refine jGo_blk qX7_forget_0 ?_
  refine st_pi jo_111 (fun hx => (jbf_7_9 jo_111 _).2 (show 0 ≤ 0 ∧ 0 ≤ 1 by omega)) (fun g1 eg1 => ?_)
  have eg1 : g1 = jup h 111 9 0 := eg1
  have fg1 : jfr w_X7_forget h g1 := jfr_up f0 eg1 (by unfold w_X7_forget; omega)
  have e2 : g1 111 9 = 0 := jup_s eg1
  refine st_pi jo_111 (fun hx => (jbf_7_10 jo_111 _).2 (show 0 ≤ 0 ∧ 0 ≤ 1 by omega)) (fun g3 eg3 => ?_)
  have eg3 : g3 = jup g1 111 10 0 := eg3
  have fg3 : jfr w_X7_forget h g3 := jfr_up fg1 eg3 (by unfold w_X7_forget; omega)
  have e4 : g3 111 10 = 0 := jup_s eg3
  refine st_pi jo_111 (fun hx => (jbf_7_11 jo_111 _).2 (show 0 ≤ 0 ∧ 0 ≤ 1 by omega)) (fun g5 eg5 => ?_)
  have eg5 : g5 = jup g3 111 11 0 := eg5
  have fg5 : jfr w_X7_forget h g5 := jfr_up fg3 eg5 (by unfold w_X7_forget; omega)
  have e6 : g5 111 11 = 0 := jup_s eg5
  exact ⟨rfl, rfl, fg5, rfl, trivial⟩

def w_X11_refused (i k : Int) : Prop := (i = 1)
def k_X11_refused (a1 : Int) (h : JH) (v : Option JV) (r' g : JH) : Prop := r' = jr0 ∧ jfr w_X11_refused h g ∧ ∃ x : Int, v = some (.inl x) ∧ (-7 ≤ x ∧ x ≤ -1) ∧ (x = a1)
set_option maxHeartbeats 4000000 in
theorem c_X11_refused {E : JE} {l : Launch} (a1 : Int) (h : JH) (p1 : -7 ≤ a1 ∧ a1 ≤ -1) : jMt E l 16 [.inr (.inr (.inl 0)), .inl a1] 229 jr0 h (k_X11_refused a1 h) := by
  refine jMt0 (nL := 2) (ls := [.inr (.inr (.inl 0)), .inl a1]) (by decide +kernel) (by decide +kernel) (by decide +kernel) rfl rfl ?_
  have f0 : jfr w_X11_refused h h := jfr_rf _ _
  refine jGo_blk qX11_refused_0 ?_
  refine st_gr jo_0 jr_0_1 ?_
  have e1 : jw32 (-a1) = -a1 := j32e (by omega) (by omega)
  refine st_ai jo_1 (show 0 ≤ jw32 (-a1) by omega) (show jw32 (-a1) < ((8 : Nat) : Int) by omega) (fun v2 ev2 b3 => ?_)
  have ev2 : v2 = h 1 (jw32 (-a1)) := ev2
  refine st_si jo_1 (show 0 ≤ jw32 (-a1) by omega) (show jw32 (-a1) < ((8 : Nat) : Int) by omega) (fun hx => (jba_1 _ _).2 hx) (fun g4 eg4 => ?_)
  have eg4 : g4 = jup h 1 (jw32 (-a1)) (jw32 (v2 + 1)) := eg4
  have fg4 : jfr w_X11_refused h g4 := jfr_up f0 eg4 (by unfold w_X11_refused; omega)
  exact st_r0 (ls := []) ⟨rfl, rfl, fg4, a1, rfl, (by omega), (by omega)⟩

def w_X11_hands (i k : Int) : Prop := (i = 1) ∨ (i = 3) ∨ (i = 111 ∧ 9 ≤ k ∧ k ≤ 11)
def k_X11_hands (a1 : Int) (a2 : Int) (h : JH) (v : Option JV) (r' g : JH) : Prop := r' = jr0 ∧ jfr w_X11_hands h g ∧ ∃ x : Int, v = some (.inl x) ∧ (-7 ≤ x ∧ x ≤ 400) ∧ (True)
set_option maxHeartbeats 4000000 in
theorem c_X11_hands {E : JE} {l : Launch} (a1 : Int) (a2 : Int) (h : JH) : jMt E l 18 [.inr (.inr (.inl 0)), .inl a1, .inl a2] 229 jr0 h (k_X11_hands a1 a2 h) := by
  refine jMt0 (nL := 5) (ls := [.inr (.inr (.inl 0)), .inl a1, .inl a2, .inr (.inr (.inr ())), .inr (.inr (.inr ()))]) (by decide +kernel) (by decide +kernel) (by decide +kernel) rfl rfl ?_
  have f0 : jfr w_X11_hands h h := jfr_rf _ _
  refine jGo_blk qX11_hands_0 ?_
  refine st_cs (na := 2) (st := [.inl 4, .inl a1]) rfl rfl rfl (c_X11_within a1 4 h) rfl ?_
  rintro _ _ _ ⟨rfl, rfl, x1, rfl, hx1, zx1⟩ kx1
  have kx1 : -2147483648 ≤ x1 ∧ x1 ≤ 2147483647 := kx1
  have hx1 : 0 ≤ x1 ∧ x1 ≤ 1 := hx1
  have zx1 : (x1 = 1 ∧ 0 ≤ a1 ∧ a1 < 4) ∨ (x1 = 0 ∧ ¬ (0 ≤ a1 ∧ a1 < 4)) := zx1
  refine And.intro (fun c3 => ?_) (fun c3 => ?_)
  · have c3 : ¬ x1 = 0 := c3
    show jGo E l 18 229 229 _ 12 [.inr (.inr (.inl 0)), .inl a1, .inl a2, .inr (.inr (.inr ())), .inr (.inr (.inr ()))] [] 229 jr0 h
    refine jGo_blk qX11_hands_12 ?_
    refine st_cs (na := 3) (st := [.inl 400, .inl 0, .inl a2]) rfl rfl rfl (c_X11_outside a2 0 400 h) rfl ?_
    rintro _ _ _ ⟨rfl, rfl, x4, rfl, hx4, zx4⟩ kx4
    have kx4 : -2147483648 ≤ x4 ∧ x4 ≤ 2147483647 := kx4
    have hx4 : -6 ≤ x4 ∧ x4 ≤ 0 := hx4
    have zx4 : (x4 = -4 ∧ a2 < 0) ∨ (x4 = -6 ∧ 0 ≤ a2 ∧ 400 < a2) ∨ (x4 = 0 ∧ 0 ≤ a2 ∧ a2 ≤ 400) := zx4
    show jGo E l 18 229 229 _ 20 [.inr (.inr (.inl 0)), .inl a1, .inl a2, .inr (.inr (.inr ())), .inr (.inr (.inr ()))] [.inl x4] 229 jr0 h
    refine jGo_blk qX11_hands_20 ?_
    refine And.intro (fun c6 => ?_) (fun c6 => ?_)
    · have c6 : x4 = 0 := c6
      show jGo E l 18 229 229 _ 31 [.inr (.inr (.inl 0)), .inl a1, .inl a2, .inl x4, .inr (.inr (.inr ()))] [] 229 jr0 h
      refine jGo_blk qX11_hands_31 ?_
      refine st_gr jo_0 jr_0_11 ?_
      refine st_cv (na := 0) (st := [.inr (.inr (.inl 111))]) jo_111 rfl rfl rfl (c_X7_forget h) rfl ?_
      rintro _ _ g8 ⟨rfl, fx7, rfl, zx7⟩ kx7
      have fg8 : jfr w_X11_hands h g8 := jfr_tr f0 fx7 (fun i k q => by unfold w_X7_forget at q; unfold w_X11_hands; omega)
      refine st_gr jo_0 jr_0_2 ?_
      refine st_gr jo_2 jr_2_0 ?_
      refine st_ai jo_3 (show 0 ≤ a1 by omega) (show a1 < ((4 : Nat) : Int) by omega) (fun v9 ev9 b10 => ?_)
      have ev9 : v9 = g8 3 a1 := ev9
      have b10 := (jba_3 a1 _).1 b10
      refine st_gr jo_0 jr_0_2 ?_
      refine st_gr jo_2 jr_2_0 ?_
      refine st_si jo_3 (show 0 ≤ a1 by omega) (show a1 < ((4 : Nat) : Int) by omega) (fun hx => (jba_3 _ _).2 (show 0 ≤ a2 ∧ a2 ≤ 400 by omega)) (fun g11 eg11 => ?_)
      have eg11 : g11 = jup g8 3 a1 a2 := eg11
      have fg11 : jfr w_X11_hands h g11 := jfr_up fg8 eg11 (by unfold w_X11_hands; omega)
      exact st_r0 (ls := []) ⟨rfl, rfl, fg11, v9, rfl, (by omega), trivial⟩
    · have c6 : ¬ x4 = 0 := by first | exact c6 | exact Int.not_le.mp c6 | exact Int.not_lt.mp c6 | exact Decidable.not_not.mp c6
      refine st_cv (na := 1) (st := [.inl x4, .inr (.inr (.inl 0))]) jo_0 rfl rfl rfl (c_X11_refused x4 h (by omega)) rfl ?_
      rintro _ _ g13 ⟨rfl, fx12, x12, rfl, hx12, zx12⟩ kx12
      have kx12 : -2147483648 ≤ x12 ∧ x12 ≤ 2147483647 := kx12
      have hx12 : -7 ≤ x12 ∧ x12 ≤ -1 := hx12
      have fg13 : jfr w_X11_hands h g13 := jfr_tr f0 fx12 (fun i k q => by unfold w_X11_refused at q; unfold w_X11_hands; omega)
      have zx12 : x12 = x4 := zx12
      exact st_r0 (ls := []) ⟨rfl, rfl, fg13, x12, rfl, (by omega), trivial⟩
  · have c3 : x1 = 0 := by first | exact c3 | exact Int.not_le.mp c3 | exact Int.not_lt.mp c3 | exact Decidable.not_not.mp c3
    show jGo E l 18 229 229 _ 20 [.inr (.inr (.inl 0)), .inl a1, .inl a2, .inr (.inr (.inr ())), .inr (.inr (.inr ()))] [.inl (-1)] 229 jr0 h
    refine jGo_blk qX11_hands_20 ?_
    refine And.intro (fun c14 => ?_) (fun c14 => ?_)
    · have c14 : (-1) = 0 := c14
      exfalso; omega
    · have c14 : ¬ (-1) = 0 := by first | exact c14 | exact Int.not_le.mp c14 | exact Int.not_lt.mp c14 | exact Decidable.not_not.mp c14
      refine st_cv (na := 1) (st := [.inl (-1), .inr (.inr (.inl 0))]) jo_0 rfl rfl rfl (c_X11_refused (-1) h (by omega)) rfl ?_
      rintro _ _ g16 ⟨rfl, fx15, x15, rfl, hx15, zx15⟩ kx15
      have kx15 : -2147483648 ≤ x15 ∧ x15 ≤ 2147483647 := kx15
      have hx15 : -7 ≤ x15 ∧ x15 ≤ -1 := hx15
      have fg16 : jfr w_X11_hands h g16 := jfr_tr f0 fx15 (fun i k q => by unfold w_X11_refused at q; unfold w_X11_hands; omega)
      have zx15 : x15 = (-1) := zx15
      exact st_r0 (ls := []) ⟨rfl, rfl, fg16, x15, rfl, (by omega), trivial⟩

def k_X12_in (a0 : Int) (a1 : Int) (a2 : Int) (h : JH) (v : Option JV) (r' g : JH) : Prop := r' = jr0 ∧ h = g ∧ ∃ x : Int, v = some (.inl x) ∧ (0 ≤ x ∧ x ≤ 1) ∧ ((x = 1 ∧ a1 ≤ a0 ∧ a0 ≤ a2) ∨ (x = 0 ∧ ¬ (a1 ≤ a0 ∧ a0 ≤ a2)))
set_option maxHeartbeats 4000000 in
theorem c_X12_in {E : JE} {l : Launch} (a0 : Int) (a1 : Int) (a2 : Int) (h : JH) : jMt E l 19 [.inl a0, .inl a1, .inl a2] 229 jr0 h (k_X12_in a0 a1 a2 h) := by
  refine jMt0 (nL := 3) (ls := [.inl a0, .inl a1, .inl a2]) (by decide +kernel) (by decide +kernel) (by decide +kernel) rfl rfl ?_
  refine jGo_blk qX12_in_0 ?_
  refine And.intro (fun c1 => ?_) (fun c1 => ?_)
  · have c1 : a0 < a1 := c1
    show jGo E l 19 229 229 _ 14 [.inl a0, .inl a1, .inl a2] [] 229 jr0 h
    refine jGo_blk qX12_in_14 ?_
    show jGo E l 19 229 229 _ 15 [.inl a0, .inl a1, .inl a2] [.inl 0] 229 jr0 h
    refine jGo_blk qX12_in_15 ?_
    exact st_r1 (ls := []) (by omega) ⟨rfl, rfl, rfl, 0, rfl, (by omega), (by omega)⟩
  · have c1 : a1 ≤ a0 := by first | exact c1 | exact Int.not_le.mp c1 | exact Int.not_lt.mp c1 | exact Decidable.not_not.mp c1
    refine And.intro (fun c2 => ?_) (fun c2 => ?_)
    · have c2 : a2 < a0 := c2
      show jGo E l 19 229 229 _ 14 [.inl a0, .inl a1, .inl a2] [] 229 jr0 h
      refine jGo_blk qX12_in_14 ?_
      show jGo E l 19 229 229 _ 15 [.inl a0, .inl a1, .inl a2] [.inl 0] 229 jr0 h
      refine jGo_blk qX12_in_15 ?_
      exact st_r1 (ls := []) (by omega) ⟨rfl, rfl, rfl, 0, rfl, (by omega), (by omega)⟩
    · have c2 : a0 ≤ a2 := by first | exact c2 | exact Int.not_le.mp c2 | exact Int.not_lt.mp c2 | exact Decidable.not_not.mp c2
      show jGo E l 19 229 229 _ 15 [.inl a0, .inl a1, .inl a2] [.inl 1] 229 jr0 h
      refine jGo_blk qX12_in_15 ?_
      exact st_r1 (ls := []) (by omega) ⟨rfl, rfl, rfl, 1, rfl, (by omega), (by omega)⟩

def w_X12_refuse (i k : Int) : Prop := (i = 219)
def k_X12_refuse (a1 : Int) (h : JH) (v : Option JV) (r' g : JH) : Prop := r' = jr0 ∧ jfr w_X12_refuse h g ∧ ∃ x : Int, v = some (.inl x) ∧ (-7 ≤ x ∧ x ≤ -1) ∧ (x = a1)
set_option maxHeartbeats 4000000 in
theorem c_X12_refuse {E : JE} {l : Launch} (a1 : Int) (h : JH) (p1 : -7 ≤ a1 ∧ a1 ≤ -1) : jMt E l 20 [.inr (.inr (.inl 176)), .inl a1] 229 jr0 h (k_X12_refuse a1 h) := by
  refine jMt0 (nL := 2) (ls := [.inr (.inr (.inl 176)), .inl a1]) (by decide +kernel) (by decide +kernel) (by decide +kernel) rfl rfl ?_
  have f0 : jfr w_X12_refuse h h := jfr_rf _ _
  refine jGo_blk qX12_refuse_0 ?_
  refine st_gr jo_176 jr_176_50 ?_
  have e1 : jw32 (-a1) = -a1 := j32e (by omega) (by omega)
  refine st_ai jo_219 (show 0 ≤ jw32 (-a1) by omega) (show jw32 (-a1) < ((8 : Nat) : Int) by omega) (fun v2 ev2 b3 => ?_)
  have ev2 : v2 = h 219 (jw32 (-a1)) := ev2
  refine st_si jo_219 (show 0 ≤ jw32 (-a1) by omega) (show jw32 (-a1) < ((8 : Nat) : Int) by omega) (fun hx => (jba_219 _ _).2 hx) (fun g4 eg4 => ?_)
  have eg4 : g4 = jup h 219 (jw32 (-a1)) (jw32 (v2 + 1)) := eg4
  have fg4 : jfr w_X12_refuse h g4 := jfr_up f0 eg4 (by unfold w_X12_refuse; omega)
  exact st_r0 (ls := []) ⟨rfl, rfl, fg4, a1, rfl, (by omega), (by omega)⟩

def w_X12_hands (i k : Int) : Prop := (i = 177) ∨ (i = 219)
def k_X12_hands (a1 : Int) (a2 : Int) (h : JH) (v : Option JV) (r' g : JH) : Prop := r' = jr0 ∧ jfr w_X12_hands h g ∧ ∃ x : Int, v = some (.inl x) ∧ (-7 ≤ x ∧ x ≤ 400) ∧ (True)
set_option maxHeartbeats 4000000 in
theorem c_X12_hands {E : JE} {l : Launch} (a1 : Int) (a2 : Int) (h : JH) : jMt E l 21 [.inr (.inr (.inl 176)), .inl a1, .inl a2] 229 jr0 h (k_X12_hands a1 a2 h) := by
  refine jMt0 (nL := 4) (ls := [.inr (.inr (.inl 176)), .inl a1, .inl a2, .inr (.inr (.inr ()))]) (by decide +kernel) (by decide +kernel) (by decide +kernel) rfl rfl ?_
  have f0 : jfr w_X12_hands h h := jfr_rf _ _
  refine jGo_blk qX12_hands_0 ?_
  refine st_cs (na := 3) (st := [.inl 3, .inl 0, .inl a1]) rfl rfl rfl (c_X12_in a1 0 3 h) rfl ?_
  rintro _ _ _ ⟨rfl, rfl, x1, rfl, hx1, zx1⟩ kx1
  have kx1 : -2147483648 ≤ x1 ∧ x1 ≤ 2147483647 := kx1
  have hx1 : 0 ≤ x1 ∧ x1 ≤ 1 := hx1
  have zx1 : (x1 = 1 ∧ 0 ≤ a1 ∧ a1 ≤ 3) ∨ (x1 = 0 ∧ ¬ (0 ≤ a1 ∧ a1 ≤ 3)) := zx1
  refine And.intro (fun c3 => ?_) (fun c3 => ?_)
  · have c3 : ¬ x1 = 0 := c3
    show jGo E l 21 229 229 _ 15 [.inr (.inr (.inl 176)), .inl a1, .inl a2, .inr (.inr (.inr ()))] [] 229 jr0 h
    refine jGo_blk qX12_hands_15 ?_
    refine And.intro (fun c4 => ?_) (fun c4 => ?_)
    · have c4 : 0 ≤ a2 := c4
      show jGo E l 21 229 229 _ 26 [.inr (.inr (.inl 176)), .inl a1, .inl a2, .inr (.inr (.inr ()))] [] 229 jr0 h
      refine jGo_blk qX12_hands_26 ?_
      refine And.intro (fun c5 => ?_) (fun c5 => ?_)
      · have c5 : a2 ≤ 400 := c5
        show jGo E l 21 229 229 _ 40 [.inr (.inr (.inl 176)), .inl a1, .inl a2, .inr (.inr (.inr ()))] [] 229 jr0 h
        refine jGo_blk qX12_hands_40 ?_
        refine st_gr jo_176 jr_176_1 ?_
        refine st_ai jo_177 (show 0 ≤ a1 by omega) (show a1 < ((4 : Nat) : Int) by omega) (fun v6 ev6 b7 => ?_)
        have ev6 : v6 = h 177 a1 := ev6
        have b7 := (jba_177 a1 _).1 b7
        refine st_gr jo_176 jr_176_1 ?_
        refine st_si jo_177 (show 0 ≤ a1 by omega) (show a1 < ((4 : Nat) : Int) by omega) (fun hx => (jba_177 _ _).2 (show 0 ≤ a2 ∧ a2 ≤ 400 by omega)) (fun g8 eg8 => ?_)
        have eg8 : g8 = jup h 177 a1 a2 := eg8
        have fg8 : jfr w_X12_hands h g8 := jfr_up f0 eg8 (by unfold w_X12_hands; omega)
        exact st_r0 (ls := []) ⟨rfl, rfl, fg8, v6, rfl, (by omega), trivial⟩
      · have c5 : 400 < a2 := by first | exact c5 | exact Int.not_le.mp c5 | exact Int.not_lt.mp c5 | exact Decidable.not_not.mp c5
        refine st_cv (na := 1) (st := [.inl (-6), .inr (.inr (.inl 176))]) jo_176 rfl rfl rfl (c_X12_refuse (-6) h (by omega)) rfl ?_
        rintro _ _ g10 ⟨rfl, fx9, x9, rfl, hx9, zx9⟩ kx9
        have kx9 : -2147483648 ≤ x9 ∧ x9 ≤ 2147483647 := kx9
        have hx9 : -7 ≤ x9 ∧ x9 ≤ -1 := hx9
        have fg10 : jfr w_X12_hands h g10 := jfr_tr f0 fx9 (fun i k q => by unfold w_X12_refuse at q; unfold w_X12_hands; omega)
        have zx9 : x9 = (-6) := zx9
        exact st_r0 (ls := []) ⟨rfl, rfl, fg10, x9, rfl, (by omega), trivial⟩
    · have c4 : a2 < 0 := by first | exact c4 | exact Int.not_le.mp c4 | exact Int.not_lt.mp c4 | exact Decidable.not_not.mp c4
      refine st_cv (na := 1) (st := [.inl (-4), .inr (.inr (.inl 176))]) jo_176 rfl rfl rfl (c_X12_refuse (-4) h (by omega)) rfl ?_
      rintro _ _ g12 ⟨rfl, fx11, x11, rfl, hx11, zx11⟩ kx11
      have kx11 : -2147483648 ≤ x11 ∧ x11 ≤ 2147483647 := kx11
      have hx11 : -7 ≤ x11 ∧ x11 ≤ -1 := hx11
      have fg12 : jfr w_X12_hands h g12 := jfr_tr f0 fx11 (fun i k q => by unfold w_X12_refuse at q; unfold w_X12_hands; omega)
      have zx11 : x11 = (-4) := zx11
      exact st_r0 (ls := []) ⟨rfl, rfl, fg12, x11, rfl, (by omega), trivial⟩
  · have c3 : x1 = 0 := by first | exact c3 | exact Int.not_le.mp c3 | exact Int.not_lt.mp c3 | exact Decidable.not_not.mp c3
    refine st_cv (na := 1) (st := [.inl (-1), .inr (.inr (.inl 176))]) jo_176 rfl rfl rfl (c_X12_refuse (-1) h (by omega)) rfl ?_
    rintro _ _ g14 ⟨rfl, fx13, x13, rfl, hx13, zx13⟩ kx13
    have kx13 : -2147483648 ≤ x13 ∧ x13 ≤ 2147483647 := kx13
    have hx13 : -7 ≤ x13 ∧ x13 ≤ -1 := hx13
    have fg14 : jfr w_X12_hands h g14 := jfr_tr f0 fx13 (fun i k q => by unfold w_X12_refuse at q; unfold w_X12_hands; omega)
    have zx13 : x13 = (-1) := zx13
    exact st_r0 (ls := []) ⟨rfl, rfl, fg14, x13, rfl, (by omega), trivial⟩

def w_X11_row (i k : Int) : Prop := (i = 1) ∨ (6 ≤ i ∧ i ≤ 10) ∨ (i = 111 ∧ 9 ≤ k ∧ k ≤ 11)
def k_X11_row (a1 : Int) (a2 : Int) (h : JH) (v : Option JV) (r' g : JH) : Prop := r' = jr0 ∧ jfr w_X11_row h g ∧ ∃ x : Int, v = some (.inl x) ∧ (-7 ≤ x ∧ x ≤ 30) ∧ (True)
set_option maxHeartbeats 4000000 in
theorem c_X11_row {E : JE} {l : Launch} (a1 : Int) (a2 : Int) (h : JH) : jMt E l 24 [.inr (.inr (.inl 0)), .inl a1, .inl a2] 229 jr0 h (k_X11_row a1 a2 h) := by
  refine jMt0 (nL := 4) (ls := [.inr (.inr (.inl 0)), .inl a1, .inl a2, .inr (.inr (.inr ()))]) (by decide +kernel) (by decide +kernel) (by decide +kernel) rfl rfl ?_
  have f0 : jfr w_X11_row h h := jfr_rf _ _
  refine jGo_blk qX11_row_0 ?_
  refine st_cs (na := 2) (st := [.inl 4, .inl a1]) rfl rfl rfl (c_X11_within a1 4 h) rfl ?_
  rintro _ _ _ ⟨rfl, rfl, x1, rfl, hx1, zx1⟩ kx1
  have kx1 : -2147483648 ≤ x1 ∧ x1 ≤ 2147483647 := kx1
  have hx1 : 0 ≤ x1 ∧ x1 ≤ 1 := hx1
  have zx1 : (x1 = 1 ∧ 0 ≤ a1 ∧ a1 < 4) ∨ (x1 = 0 ∧ ¬ (0 ≤ a1 ∧ a1 < 4)) := zx1
  refine And.intro (fun c3 => ?_) (fun c3 => ?_)
  · have c3 : ¬ x1 = 0 := c3
    show jGo E l 24 229 229 _ 12 [.inr (.inr (.inl 0)), .inl a1, .inl a2, .inr (.inr (.inr ()))] [] 229 jr0 h
    refine jGo_blk qX11_row_12 ?_
    refine st_cs (na := 3) (st := [.inl 30, .inl 0, .inl a2]) rfl rfl rfl (c_X11_outside a2 0 30 h) rfl ?_
    rintro _ _ _ ⟨rfl, rfl, x4, rfl, hx4, zx4⟩ kx4
    have kx4 : -2147483648 ≤ x4 ∧ x4 ≤ 2147483647 := kx4
    have hx4 : -6 ≤ x4 ∧ x4 ≤ 0 := hx4
    have zx4 : (x4 = -4 ∧ a2 < 0) ∨ (x4 = -6 ∧ 0 ≤ a2 ∧ 30 < a2) ∨ (x4 = 0 ∧ 0 ≤ a2 ∧ a2 ≤ 30) := zx4
    show jGo E l 24 229 229 _ 19 [.inr (.inr (.inl 0)), .inl a1, .inl a2, .inr (.inr (.inr ()))] [.inl x4] 229 jr0 h
    refine jGo_blk qX11_row_19 ?_
    refine And.intro (fun c6 => ?_) (fun c6 => ?_)
    · have c6 : x4 = 0 := c6
      show jGo E l 24 229 229 _ 30 [.inr (.inr (.inl 0)), .inl a1, .inl a2, .inl x4] [] 229 jr0 h
      refine jGo_blk qX11_row_30 ?_
      refine st_gr jo_0 jr_0_11 ?_
      refine st_cv (na := 0) (st := [.inr (.inr (.inl 111))]) jo_111 rfl rfl rfl (c_X7_forget h) rfl ?_
      rintro _ _ g8 ⟨rfl, fx7, rfl, zx7⟩ kx7
      have fg8 : jfr w_X11_row h g8 := jfr_tr f0 fx7 (fun i k q => by unfold w_X7_forget at q; unfold w_X11_row; omega)
      refine st_gr jo_0 jr_0_2 ?_
      refine st_gr jo_2 jr_2_2 ?_
      refine st_ar jo_5 (by decide) (show 0 ≤ a1 by omega) (show a1 < ((4 : Nat) : Int) by omega) (fun u9 eu9 => ?_)
      have eu9 : u9 = jr0 5 a1 := eu9
      have qu9 : u9 = 6 + a1 := eu9.trans (jrow_5 a1 (by omega) (by omega)).1
      have ou9 : jF 229 u9 1 30 := by rw [eu9]; exact (jrow_5 a1 (by omega) (by omega)).2.1
      have wu9 : ∀ j v : Int, jbd u9 j v ↔ (0 ≤ v ∧ v ≤ 400) := by rw [eu9]; exact (jrow_5 a1 (by omega) (by omega)).2.2
      refine st_cs (na := 2) (st := [.inl 0, .inr (.inr (.inl u9))]) rfl rfl rfl (c_fill u9 0 g8 ou9 (by decide) (fun k hx => (wu9 _ _).2 (by omega))) rfl ?_
      rintro _ _ g11 ⟨rfl, fx10, rfl, zx10⟩ kx10
      have fg11 : jfr w_X11_row h g11 := jfr_tr fg8 fx10 (fun i k q => by unfold w_fill at q; unfold w_X11_row; omega)
      refine st_gr jo_0 jr_0_2 ?_
      refine st_gr jo_2 jr_2_3 ?_
      refine st_si jo_10 (show 0 ≤ a1 by omega) (show a1 < ((4 : Nat) : Int) by omega) (fun hx => (jba_10 _ _).2 (show -1 ≤ a2 ∧ a2 ≤ 30 by omega)) (fun g12 eg12 => ?_)
      have eg12 : g12 = jup g11 10 a1 a2 := eg12
      have fg12 : jfr w_X11_row h g12 := jfr_up fg11 eg12 (by unfold w_X11_row; omega)
      exact st_r0 (ls := []) ⟨rfl, rfl, fg12, a2, rfl, (by omega), trivial⟩
    · have c6 : ¬ x4 = 0 := by first | exact c6 | exact Int.not_le.mp c6 | exact Int.not_lt.mp c6 | exact Decidable.not_not.mp c6
      refine st_cv (na := 1) (st := [.inl x4, .inr (.inr (.inl 0))]) jo_0 rfl rfl rfl (c_X11_refused x4 h (by omega)) rfl ?_
      rintro _ _ g14 ⟨rfl, fx13, x13, rfl, hx13, zx13⟩ kx13
      have kx13 : -2147483648 ≤ x13 ∧ x13 ≤ 2147483647 := kx13
      have hx13 : -7 ≤ x13 ∧ x13 ≤ -1 := hx13
      have fg14 : jfr w_X11_row h g14 := jfr_tr f0 fx13 (fun i k q => by unfold w_X11_refused at q; unfold w_X11_row; omega)
      have zx13 : x13 = x4 := zx13
      exact st_r0 (ls := []) ⟨rfl, rfl, fg14, x13, rfl, (by omega), trivial⟩
  · have c3 : x1 = 0 := by first | exact c3 | exact Int.not_le.mp c3 | exact Int.not_lt.mp c3 | exact Decidable.not_not.mp c3
    show jGo E l 24 229 229 _ 19 [.inr (.inr (.inl 0)), .inl a1, .inl a2, .inr (.inr (.inr ()))] [.inl (-1)] 229 jr0 h
    refine jGo_blk qX11_row_19 ?_
    refine And.intro (fun c15 => ?_) (fun c15 => ?_)
    · have c15 : (-1) = 0 := c15
      exfalso; omega
    · have c15 : ¬ (-1) = 0 := by first | exact c15 | exact Int.not_le.mp c15 | exact Int.not_lt.mp c15 | exact Decidable.not_not.mp c15
      refine st_cv (na := 1) (st := [.inl (-1), .inr (.inr (.inl 0))]) jo_0 rfl rfl rfl (c_X11_refused (-1) h (by omega)) rfl ?_
      rintro _ _ g17 ⟨rfl, fx16, x16, rfl, hx16, zx16⟩ kx16
      have kx16 : -2147483648 ≤ x16 ∧ x16 ≤ 2147483647 := kx16
      have hx16 : -7 ≤ x16 ∧ x16 ≤ -1 := hx16
      have fg17 : jfr w_X11_row h g17 := jfr_tr f0 fx16 (fun i k q => by unfold w_X11_refused at q; unfold w_X11_row; omega)
      have zx16 : x16 = (-1) := zx16
      exact st_r0 (ls := []) ⟨rfl, rfl, fg17, x16, rfl, (by omega), trivial⟩

def w_X12_row (i k : Int) : Prop := (179 ≤ i ∧ i ≤ 180) ∨ (i = 219)
def k_X12_row (a1 : Int) (a2 : Int) (h : JH) (v : Option JV) (r' g : JH) : Prop := r' = jr0 ∧ jfr w_X12_row h g ∧ ∃ x : Int, v = some (.inl x) ∧ (-7 ≤ x ∧ x ≤ 30) ∧ (True)
set_option maxHeartbeats 4000000 in
theorem c_X12_row {E : JE} {l : Launch} (a1 : Int) (a2 : Int) (h : JH) : jMt E l 25 [.inr (.inr (.inl 176)), .inl a1, .inl a2] 229 jr0 h (k_X12_row a1 a2 h) := by
  refine jMt0 (nL := 4) (ls := [.inr (.inr (.inl 176)), .inl a1, .inl a2, .inr (.inr (.inr ()))]) (by decide +kernel) (by decide +kernel) (by decide +kernel) rfl rfl ?_
  have f0 : jfr w_X12_row h h := jfr_rf _ _
  have key : ∀ N : Nat, (∀ (x3 : Int) (g : JH), (0 ≤ a1 ∧ a1 ≤ 3 ∧ 0 ≤ a2 ∧ a2 ≤ 30 ∧ 0 ≤ x3 ∧ x3 ≤ 30) → jfr w_X12_row h g → (30 - x3) < (N : Int) → jGo E l 25 229 229 (jRK (k_X12_row a1 a2 h)) 48 [.inr (.inr (.inl 176)), .inl a1, .inl a2, .inl x3] [] 229 jr0 g) := by
    intro N
    induction N with
    | zero => exact fun _ _ hi _ hN => absurd hN (by omega)
    | succ N ih =>
      intro x3 g hi hf hN
      refine jGo_blk qX12_row_48 ?_
      refine And.intro (fun c1 => ?_) (fun c1 => ?_)
      · have c1 : a2 ≤ x3 := c1
        show jGo E l 25 229 229 _ 71 [.inr (.inr (.inl 176)), .inl a1, .inl a2, .inl x3] [] 229 jr0 g
        refine jGo_blk qX12_row_71 ?_
        exact st_r0 (ls := []) ⟨rfl, rfl, hf, a2, rfl, (by omega), trivial⟩
      · have c1 : x3 < a2 := by first | exact c1 | exact Int.not_le.mp c1 | exact Int.not_lt.mp c1 | exact Decidable.not_not.mp c1
        refine st_gr jo_176 jr_176_4 ?_
        have e2 : jw32 (30 * a1) = 30 * a1 := j32e (by omega) (by omega)
        have e3 : jw32 ((jw32 (30 * a1)) + x3) = (jw32 (30 * a1)) + x3 := j32e (by omega) (by omega)
        refine st_si jo_180 (show 0 ≤ jw32 ((jw32 (30 * a1)) + x3) by omega) (show jw32 ((jw32 (30 * a1)) + x3) < ((120 : Nat) : Int) by omega) (fun hx => (jba_180 _ _).2 (show 0 ≤ 0 ∧ 0 ≤ 400 by omega)) (fun g4 eg4 => ?_)
        have eg4 : g4 = jup g 180 (jw32 ((jw32 (30 * a1)) + x3)) 0 := eg4
        have fg4 : jfr w_X12_row h g4 := jfr_up hf eg4 (by unfold w_X12_row; omega)
        have e5 : jw32 (x3 + 1) = x3 + 1 := j32e (by omega) (by omega)
        show jGo E l 25 229 229 _ 48 [.inr (.inr (.inl 176)), .inl a1, .inl a2, .inl (jw32 (x3 + 1))] [] 229 jr0 g4
        exact ih (jw32 (x3 + 1)) g4 (by omega) fg4 (by omega)
  refine jGo_blk qX12_row_0 ?_
  refine st_cs (na := 3) (st := [.inl 3, .inl 0, .inl a1]) rfl rfl rfl (c_X12_in a1 0 3 h) rfl ?_
  rintro _ _ _ ⟨rfl, rfl, x6, rfl, hx6, zx6⟩ kx6
  have kx6 : -2147483648 ≤ x6 ∧ x6 ≤ 2147483647 := kx6
  have hx6 : 0 ≤ x6 ∧ x6 ≤ 1 := hx6
  have zx6 : (x6 = 1 ∧ 0 ≤ a1 ∧ a1 ≤ 3) ∨ (x6 = 0 ∧ ¬ (0 ≤ a1 ∧ a1 ≤ 3)) := zx6
  refine And.intro (fun c8 => ?_) (fun c8 => ?_)
  · have c8 : ¬ x6 = 0 := c8
    show jGo E l 25 229 229 _ 15 [.inr (.inr (.inl 176)), .inl a1, .inl a2, .inr (.inr (.inr ()))] [] 229 jr0 h
    refine jGo_blk qX12_row_15 ?_
    refine And.intro (fun c9 => ?_) (fun c9 => ?_)
    · have c9 : 0 ≤ a2 := c9
      show jGo E l 25 229 229 _ 26 [.inr (.inr (.inl 176)), .inl a1, .inl a2, .inr (.inr (.inr ()))] [] 229 jr0 h
      refine jGo_blk qX12_row_26 ?_
      refine And.intro (fun c10 => ?_) (fun c10 => ?_)
      · have c10 : a2 ≤ 30 := c10
        show jGo E l 25 229 229 _ 39 [.inr (.inr (.inl 176)), .inl a1, .inl a2, .inr (.inr (.inr ()))] [] 229 jr0 h
        refine jGo_blk qX12_row_39 ?_
        refine st_gr jo_176 jr_176_3 ?_
        refine st_si jo_179 (show 0 ≤ a1 by omega) (show a1 < ((4 : Nat) : Int) by omega) (fun hx => (jba_179 _ _).2 (show -1 ≤ a2 ∧ a2 ≤ 30 by omega)) (fun g11 eg11 => ?_)
        have eg11 : g11 = jup h 179 a1 a2 := eg11
        have fg11 : jfr w_X12_row h g11 := jfr_up f0 eg11 (by unfold w_X12_row; omega)
        show jGo E l 25 229 229 _ 48 [.inr (.inr (.inl 176)), .inl a1, .inl a2, .inl 0] [] 229 jr0 g11
        exact (key 1000000000000) 0 g11 (by omega) fg11 (by omega)
      · have c10 : 30 < a2 := by first | exact c10 | exact Int.not_le.mp c10 | exact Int.not_lt.mp c10 | exact Decidable.not_not.mp c10
        refine st_cv (na := 1) (st := [.inl (-6), .inr (.inr (.inl 176))]) jo_176 rfl rfl rfl (c_X12_refuse (-6) h (by omega)) rfl ?_
        rintro _ _ g13 ⟨rfl, fx12, x12, rfl, hx12, zx12⟩ kx12
        have kx12 : -2147483648 ≤ x12 ∧ x12 ≤ 2147483647 := kx12
        have hx12 : -7 ≤ x12 ∧ x12 ≤ -1 := hx12
        have fg13 : jfr w_X12_row h g13 := jfr_tr f0 fx12 (fun i k q => by unfold w_X12_refuse at q; unfold w_X12_row; omega)
        have zx12 : x12 = (-6) := zx12
        exact st_r0 (ls := []) ⟨rfl, rfl, fg13, x12, rfl, (by omega), trivial⟩
    · have c9 : a2 < 0 := by first | exact c9 | exact Int.not_le.mp c9 | exact Int.not_lt.mp c9 | exact Decidable.not_not.mp c9
      refine st_cv (na := 1) (st := [.inl (-4), .inr (.inr (.inl 176))]) jo_176 rfl rfl rfl (c_X12_refuse (-4) h (by omega)) rfl ?_
      rintro _ _ g15 ⟨rfl, fx14, x14, rfl, hx14, zx14⟩ kx14
      have kx14 : -2147483648 ≤ x14 ∧ x14 ≤ 2147483647 := kx14
      have hx14 : -7 ≤ x14 ∧ x14 ≤ -1 := hx14
      have fg15 : jfr w_X12_row h g15 := jfr_tr f0 fx14 (fun i k q => by unfold w_X12_refuse at q; unfold w_X12_row; omega)
      have zx14 : x14 = (-4) := zx14
      exact st_r0 (ls := []) ⟨rfl, rfl, fg15, x14, rfl, (by omega), trivial⟩
  · have c8 : x6 = 0 := by first | exact c8 | exact Int.not_le.mp c8 | exact Int.not_lt.mp c8 | exact Decidable.not_not.mp c8
    refine st_cv (na := 1) (st := [.inl (-1), .inr (.inr (.inl 176))]) jo_176 rfl rfl rfl (c_X12_refuse (-1) h (by omega)) rfl ?_
    rintro _ _ g17 ⟨rfl, fx16, x16, rfl, hx16, zx16⟩ kx16
    have kx16 : -2147483648 ≤ x16 ∧ x16 ≤ 2147483647 := kx16
    have hx16 : -7 ≤ x16 ∧ x16 ≤ -1 := hx16
    have fg17 : jfr w_X12_row h g17 := jfr_tr f0 fx16 (fun i k q => by unfold w_X12_refuse at q; unfold w_X12_row; omega)
    have zx16 : x16 = (-1) := zx16
    exact st_r0 (ls := []) ⟨rfl, rfl, fg17, x16, rfl, (by omega), trivial⟩
