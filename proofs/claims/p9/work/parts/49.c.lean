def w_X12_raft (i k : Int) : Prop := (i = 181) ∨ (202 ≤ i ∧ i ≤ 203) ∨ (i = 219)
def k_X12_raft (a1 : Int) (a2 : Int) (h : JH) (v : Option JV) (r' g : JH) : Prop := r' = jr0 ∧ jfr w_X12_raft h g ∧ ∃ x : Int, v = some (.inl x) ∧ (-7 ≤ x ∧ x ≤ 1) ∧ (True)
set_option maxHeartbeats 4000000 in
theorem c_X12_raft {E : JE} {l : Launch} (a1 : Int) (a2 : Int) (h : JH) : jMt E l 66 [.inr (.inr (.inl 176)), .inl a1, .inl a2] 229 jr0 h (k_X12_raft a1 a2 h) := by
  refine jMt0 (nL := 3) (ls := [.inr (.inr (.inl 176)), .inl a1, .inl a2]) (by decide +kernel) (by decide +kernel) (by decide +kernel) rfl rfl ?_
  have f0 : jfr w_X12_raft h h := jfr_rf _ _
  refine jGo_blk qX12_raft_0 ?_
  refine st_cs (na := 3) (st := [.inl 5, .inl 0, .inl a1]) rfl rfl rfl (c_X12_in a1 0 5 h) rfl ?_
  rintro _ _ _ ⟨rfl, rfl, t1, rfl, ht1, zt1⟩ kt1
  replace kt1 : -2147483648 ≤ t1 ∧ t1 ≤ 2147483647 := kt1
  replace ht1 : 0 ≤ t1 ∧ t1 ≤ 1 := ht1
  replace zt1 : (t1 = 1 ∧ (0 : Int) ≤ a1 ∧ a1 ≤ (5 : Int)) ∨ (t1 = 0 ∧ ¬ ((0 : Int) ≤ a1 ∧ a1 ≤ (5 : Int))) := zt1
  refine And.intro (fun c3 => ?_) (fun c3 => ?_)
  · replace c3 : ¬ t1 = 0 := c3
    show jGo E l 66 229 229 _ 15 [.inr (.inr (.inl 176)), .inl a1, .inl a2] [] 229 jr0 h
    refine jGo_blk qX12_raft_15 ?_
    refine st_gr jo_176 jr_176_28 ?_
    refine st_ai jo_202 (show 0 ≤ a1 by omega) (show a1 < ((6 : Nat) : Int) by omega) (fun v4 ev4 b5 => ?_)
    replace ev4 : v4 = h 202 a1 := ev4
    replace b5 := (jba_202 a1 _).1 b5
    refine And.intro (fun c6 => ?_) (fun c6 => ?_)
    · replace c6 : v4 < 0 := c6
      show jGo E l 66 229 229 _ 31 [.inr (.inr (.inl 176)), .inl a1, .inl a2] [] 229 jr0 h
      refine jGo_blk qX12_raft_31 ?_
      refine And.intro (fun c7 => ?_) (fun c7 => ?_)
      · replace c7 : 1 ≤ a2 := c7
        show jGo E l 66 229 229 _ 43 [.inr (.inr (.inl 176)), .inl a1, .inl a2] [] 229 jr0 h
        refine jGo_blk qX12_raft_43 ?_
        refine And.intro (fun c8 => ?_) (fun c8 => ?_)
        · replace c8 : a2 ≤ 1000 := c8
          show jGo E l 66 229 229 _ 57 [.inr (.inr (.inl 176)), .inl a1, .inl a2] [] 229 jr0 h
          refine jGo_blk qX12_raft_57 ?_
          refine st_gr jo_176 jr_176_5 ?_
          refine st_ai jo_181 (show 0 ≤ 0 by omega) (show 0 < ((6 : Nat) : Int) by omega) (fun v9 ev9 b10 => ?_)
          replace ev9 : v9 = h 181 0 := ev9
          replace b10 := (jba_181 0 _).1 b10
          refine And.intro (fun c11 => ?_) (fun c11 => ?_)
          · replace c11 : a2 ≤ v9 := c11
            show jGo E l 66 229 229 _ 74 [.inr (.inr (.inl 176)), .inl a1, .inl a2] [] 229 jr0 h
            refine jGo_blk qX12_raft_74 ?_
            refine st_gr jo_176 jr_176_5 ?_
            refine st_ai jo_181 (show 0 ≤ 0 by omega) (show 0 < ((6 : Nat) : Int) by omega) (fun v12 ev12 b13 => ?_)
            replace ev12 : v12 = h 181 0 := ev12
            replace b13 := (jba_181 0 _).1 b13
            have e14 : jw32 (v12 - a2) = v12 - a2 := j32e (by omega) (by omega)
            refine st_si jo_181 (show 0 ≤ 0 by omega) (show 0 < ((6 : Nat) : Int) by omega) (fun hx => (jba_181 _ _).2 hx) (fun g15 eg15 => ?_)
            replace eg15 : g15 = jup h 181 0 (jw32 (v12 - a2)) := eg15
            have fg15 : jfr w_X12_raft h g15 := jfr_up f0 eg15 (by unfold w_X12_raft; omega)
            have e16 : g15 181 0 = jw32 (v12 - a2) := jup_s eg15
            refine st_gr jo_176 jr_176_28 ?_
            refine st_si jo_202 (show 0 ≤ a1 by omega) (show a1 < ((6 : Nat) : Int) by omega) (fun hx => (jba_202 _ _).2 (show (-1 ≤ 100 ∧ 100 ≤ 15) ∨ 100 = 100 by omega)) (fun g17 eg17 => ?_)
            replace eg17 : g17 = jup g15 202 a1 100 := eg17
            have fg17 : jfr w_X12_raft h g17 := jfr_up fg15 eg17 (by unfold w_X12_raft; omega)
            have e18 : g17 202 a1 = 100 := jup_s eg17
            refine st_gr jo_176 jr_176_29 ?_
            refine st_si jo_203 (show 0 ≤ a1 by omega) (show a1 < ((6 : Nat) : Int) by omega) (fun hx => (jba_203 _ _).2 hx) (fun g19 eg19 => ?_)
            replace eg19 : g19 = jup g17 203 a1 a2 := eg19
            have fg19 : jfr w_X12_raft h g19 := jfr_up fg17 eg19 (by unfold w_X12_raft; omega)
            have e20 : g19 203 a1 = a2 := jup_s eg19
            exact st_r0 (ls := []) ⟨rfl, rfl, fg19, 1, rfl, (by omega), trivial⟩
          · replace c11 : v9 < a2 := by first | exact c11 | exact Int.not_le.mp c11 | exact Int.not_lt.mp c11 | exact Decidable.not_not.mp c11
            refine st_cv (na := 1) (st := [.inl (-3), .inr (.inr (.inl 176))]) jo_176 rfl rfl rfl (c_X12_refuse (-3) h (by omega)) rfl ?_
            rintro _ _ g22 ⟨rfl, ft21, t21, rfl, ht21, zt21⟩ kt21
            replace kt21 : -2147483648 ≤ t21 ∧ t21 ≤ 2147483647 := kt21
            replace ht21 : -7 ≤ t21 ∧ t21 ≤ -1 := ht21
            have fg22 : jfr w_X12_raft h g22 := jfr_tr f0 ft21 (fun i k q => by unfold w_X12_refuse at q; unfold w_X12_raft; omega)
            replace zt21 : t21 = (-3 : Int) := zt21
            exact st_r0 (ls := []) ⟨rfl, rfl, fg22, t21, rfl, (by omega), trivial⟩
        · replace c8 : 1000 < a2 := by first | exact c8 | exact Int.not_le.mp c8 | exact Int.not_lt.mp c8 | exact Decidable.not_not.mp c8
          refine st_cv (na := 1) (st := [.inl (-6), .inr (.inr (.inl 176))]) jo_176 rfl rfl rfl (c_X12_refuse (-6) h (by omega)) rfl ?_
          rintro _ _ g24 ⟨rfl, ft23, t23, rfl, ht23, zt23⟩ kt23
          replace kt23 : -2147483648 ≤ t23 ∧ t23 ≤ 2147483647 := kt23
          replace ht23 : -7 ≤ t23 ∧ t23 ≤ -1 := ht23
          have fg24 : jfr w_X12_raft h g24 := jfr_tr f0 ft23 (fun i k q => by unfold w_X12_refuse at q; unfold w_X12_raft; omega)
          replace zt23 : t23 = (-6 : Int) := zt23
          exact st_r0 (ls := []) ⟨rfl, rfl, fg24, t23, rfl, (by omega), trivial⟩
      · replace c7 : a2 < 1 := by first | exact c7 | exact Int.not_le.mp c7 | exact Int.not_lt.mp c7 | exact Decidable.not_not.mp c7
        refine st_cv (na := 1) (st := [.inl (-4), .inr (.inr (.inl 176))]) jo_176 rfl rfl rfl (c_X12_refuse (-4) h (by omega)) rfl ?_
        rintro _ _ g26 ⟨rfl, ft25, t25, rfl, ht25, zt25⟩ kt25
        replace kt25 : -2147483648 ≤ t25 ∧ t25 ≤ 2147483647 := kt25
        replace ht25 : -7 ≤ t25 ∧ t25 ≤ -1 := ht25
        have fg26 : jfr w_X12_raft h g26 := jfr_tr f0 ft25 (fun i k q => by unfold w_X12_refuse at q; unfold w_X12_raft; omega)
        replace zt25 : t25 = (-4 : Int) := zt25
        exact st_r0 (ls := []) ⟨rfl, rfl, fg26, t25, rfl, (by omega), trivial⟩
    · replace c6 : 0 ≤ v4 := by first | exact c6 | exact Int.not_le.mp c6 | exact Int.not_lt.mp c6 | exact Decidable.not_not.mp c6
      refine st_cv (na := 1) (st := [.inl (-3), .inr (.inr (.inl 176))]) jo_176 rfl rfl rfl (c_X12_refuse (-3) h (by omega)) rfl ?_
      rintro _ _ g28 ⟨rfl, ft27, t27, rfl, ht27, zt27⟩ kt27
      replace kt27 : -2147483648 ≤ t27 ∧ t27 ≤ 2147483647 := kt27
      replace ht27 : -7 ≤ t27 ∧ t27 ≤ -1 := ht27
      have fg28 : jfr w_X12_raft h g28 := jfr_tr f0 ft27 (fun i k q => by unfold w_X12_refuse at q; unfold w_X12_raft; omega)
      replace zt27 : t27 = (-3 : Int) := zt27
      exact st_r0 (ls := []) ⟨rfl, rfl, fg28, t27, rfl, (by omega), trivial⟩
  · replace c3 : t1 = 0 := by first | exact c3 | exact Int.not_le.mp c3 | exact Int.not_lt.mp c3 | exact Decidable.not_not.mp c3
    refine st_cv (na := 1) (st := [.inl (-1), .inr (.inr (.inl 176))]) jo_176 rfl rfl rfl (c_X12_refuse (-1) h (by omega)) rfl ?_
    rintro _ _ g30 ⟨rfl, ft29, t29, rfl, ht29, zt29⟩ kt29
    replace kt29 : -2147483648 ≤ t29 ∧ t29 ≤ 2147483647 := kt29
    replace ht29 : -7 ≤ t29 ∧ t29 ≤ -1 := ht29
    have fg30 : jfr w_X12_raft h g30 := jfr_tr f0 ft29 (fun i k q => by unfold w_X12_refuse at q; unfold w_X12_raft; omega)
    replace zt29 : t29 = (-1 : Int) := zt29
    exact st_r0 (ls := []) ⟨rfl, rfl, fg30, t29, rfl, (by omega), trivial⟩

def w_X10_store_29 (i k : Int) : Prop := (i = 30)
def k_X10_store_29 (a1 : Int) (a2 : Int) (h : JH) (v : Option JV) (r' g : JH) : Prop := r' = jr0 ∧ jfr w_X10_store_29 h g ∧ ∃ x : Int, v = some (.inl x) ∧ (True) ∧ (True)
set_option maxHeartbeats 4000000 in
theorem c_X10_store_29 {E : JE} {l : Launch} (a1 : Int) (a2 : Int) (h : JH) (p1 : 0 ≤ a1 ∧ a1 ≤ 5) : jMt E l 68 [.inr (.inr (.inl 29)), .inl a1, .inl a2] 229 jr0 h (k_X10_store_29 a1 a2 h) := by
  refine jMt0 (nL := 4) (ls := [.inr (.inr (.inl 29)), .inl a1, .inl a2, .inr (.inr (.inr ()))]) (by decide +kernel) (by decide +kernel) (by decide +kernel) rfl rfl ?_
  have f0 : jfr w_X10_store_29 h h := jfr_rf _ _
  refine jGo_blk qX10_store_0 ?_
  refine st_gr jo_29 jr_29_0 ?_
  refine st_ai jo_30 (show 0 ≤ a1 by omega) (show a1 < ((6 : Nat) : Int) by omega) (fun v1 ev1 b2 => ?_)
  replace ev1 : v1 = h 30 a1 := ev1
  replace b2 := (jba_30 a1 _).1 b2
  refine st_m0 rfl (fun v3 m1v3 m2v3 m3v3 => ?_)
  replace m1v3 : v3 ≤ a2 := m1v3; replace m2v3 : v3 ≤ jw32 (1000000 - v1) := m2v3; replace m3v3 : v3 = a2 ∨ v3 = jw32 (1000000 - v1) := m3v3
  refine st_gr jo_29 jr_29_0 ?_
  refine st_ai jo_30 (show 0 ≤ a1 by omega) (show a1 < ((6 : Nat) : Int) by omega) (fun v4 ev4 b5 => ?_)
  replace ev4 : v4 = h 30 a1 := ev4
  replace b5 := (jba_30 a1 _).1 b5
  refine st_si jo_30 (show 0 ≤ a1 by omega) (show a1 < ((6 : Nat) : Int) by omega) (fun hx => (jba_30 _ _).2 hx) (fun g6 eg6 => ?_)
  replace eg6 : g6 = jup h 30 a1 (jw32 (v4 + v3)) := eg6
  have fg6 : jfr w_X10_store_29 h g6 := jfr_up f0 eg6 (by unfold w_X10_store_29; omega)
  have e7 : g6 30 a1 = jw32 (v4 + v3) := jup_s eg6
  exact st_r0 (ls := []) ⟨rfl, rfl, fg6, v3, rfl, trivial, trivial⟩

def w_X11_unraft (i k : Int) : Prop := (i = 1) ∨ (30 ≤ i ∧ i ≤ 32) ∨ (i = 111 ∧ 9 ≤ k ∧ k ≤ 11)
def k_X11_unraft (a1 : Int) (h : JH) (v : Option JV) (r' g : JH) : Prop := r' = jr0 ∧ jfr w_X11_unraft h g ∧ ∃ x : Int, v = some (.inl x) ∧ (True) ∧ (True)
set_option maxHeartbeats 4000000 in
theorem c_X11_unraft {E : JE} {l : Launch} (a1 : Int) (h : JH) : jMt E l 69 [.inr (.inr (.inl 0)), .inl a1] 229 jr0 h (k_X11_unraft a1 h) := by
  refine jMt0 (nL := 4) (ls := [.inr (.inr (.inl 0)), .inl a1, .inr (.inr (.inr ())), .inr (.inr (.inr ()))]) (by decide +kernel) (by decide +kernel) (by decide +kernel) rfl rfl ?_
  have f0 : jfr w_X11_unraft h h := jfr_rf _ _
  refine jGo_blk qX11_unraft_0 ?_
  refine st_cs (na := 2) (st := [.inl 6, .inl a1]) rfl rfl rfl (c_X11_within a1 6 h) rfl ?_
  rintro _ _ _ ⟨rfl, rfl, t1, rfl, ht1, zt1⟩ kt1
  replace kt1 : -2147483648 ≤ t1 ∧ t1 ≤ 2147483647 := kt1
  replace ht1 : 0 ≤ t1 ∧ t1 ≤ 1 := ht1
  replace zt1 : (t1 = 1 ∧ 0 ≤ a1 ∧ a1 < (6 : Int)) ∨ (t1 = 0 ∧ ¬ (0 ≤ a1 ∧ a1 < (6 : Int))) := zt1
  refine And.intro (fun c3 => ?_) (fun c3 => ?_)
  · replace c3 : ¬ t1 = 0 := c3
    show jGo E l 69 229 229 _ 13 [.inr (.inr (.inl 0)), .inl a1, .inr (.inr (.inr ())), .inr (.inr (.inr ()))] [] 229 jr0 h
    refine jGo_blk qX11_unraft_13 ?_
    refine st_gr jo_0 jr_0_5 ?_
    refine st_gr jo_29 jr_29_1 ?_
    refine st_ai jo_31 (show 0 ≤ a1 by omega) (show a1 < ((6 : Nat) : Int) by omega) (fun v4 ev4 b5 => ?_)
    replace ev4 : v4 = h 31 a1 := ev4
    replace b5 := (jba_31 a1 _).1 b5
    refine And.intro (fun c6 => ?_) (fun c6 => ?_)
    · replace c6 : ¬ v4 = (-1) := c6
      show jGo E l 69 229 229 _ 31 [.inr (.inr (.inl 0)), .inl a1, .inr (.inr (.inr ())), .inr (.inr (.inr ()))] [] 229 jr0 h
      refine jGo_blk qX11_unraft_31 ?_
      refine st_gr jo_0 jr_0_5 ?_
      refine st_gr jo_29 jr_29_1 ?_
      refine st_ai jo_31 (show 0 ≤ a1 by omega) (show a1 < ((6 : Nat) : Int) by omega) (fun v7 ev7 b8 => ?_)
      replace ev7 : v7 = h 31 a1 := ev7
      replace b8 := (jba_31 a1 _).1 b8
      refine And.intro (fun c9 => ?_) (fun c9 => ?_)
      · replace c9 : v7 = (-2) := c9
        show jGo E l 69 229 229 _ 50 [.inr (.inr (.inl 0)), .inl a1, .inr (.inr (.inr ())), .inr (.inr (.inr ()))] [] 229 jr0 h
        refine jGo_blk qX11_unraft_50 ?_
        show jGo E l 69 229 229 _ 51 [.inr (.inr (.inl 0)), .inl a1, .inr (.inr (.inr ())), .inr (.inr (.inr ()))] [.inl 0] 229 jr0 h
        refine jGo_blk qX11_unraft_51 ?_
        refine And.intro (fun c10 => ?_) (fun c10 => ?_)
        · replace c10 : (0 : Int) = 0 := c10
          show jGo E l 69 229 229 _ 62 [.inr (.inr (.inl 0)), .inl a1, .inl 0, .inr (.inr (.inr ()))] [] 229 jr0 h
          refine jGo_blk qX11_unraft_62 ?_
          refine st_gr jo_0 jr_0_11 ?_
          refine st_cv (na := 0) (st := [.inr (.inr (.inl 111))]) jo_111 rfl rfl rfl (c_X7_forget h) rfl ?_
          rintro _ _ g12 ⟨rfl, ft11, rfl, zt11⟩ kt11
          have fg12 : jfr w_X11_unraft h g12 := jfr_tr f0 ft11 (fun i k q => by unfold w_X7_forget at q; unfold w_X11_unraft; omega)
          refine st_gr jo_0 jr_0_5 ?_
          refine st_gr jo_29 jr_29_2 ?_
          refine st_ai jo_32 (show 0 ≤ a1 by omega) (show a1 < ((6 : Nat) : Int) by omega) (fun v13 ev13 b14 => ?_)
          replace ev13 : v13 = g12 32 a1 := ev13
          replace b14 := (jba_32 a1 _).1 b14
          refine st_gr jo_0 jr_0_5 ?_
          refine st_gr jo_29 jr_29_1 ?_
          refine st_si jo_31 (show 0 ≤ a1 by omega) (show a1 < ((6 : Nat) : Int) by omega) (fun hx => (jba_31 _ _).2 (show -2 ≤ (-1) ∧ (-1) ≤ 15 by omega)) (fun g15 eg15 => ?_)
          replace eg15 : g15 = jup g12 31 a1 (-1) := eg15
          have fg15 : jfr w_X11_unraft h g15 := jfr_up fg12 eg15 (by unfold w_X11_unraft; omega)
          have e16 : g15 31 a1 = (-1) := jup_s eg15
          refine st_gr jo_0 jr_0_5 ?_
          refine st_gr jo_29 jr_29_2 ?_
          refine st_si jo_32 (show 0 ≤ a1 by omega) (show a1 < ((6 : Nat) : Int) by omega) (fun hx => (jba_32 _ _).2 hx) (fun g17 eg17 => ?_)
          replace eg17 : g17 = jup g15 32 a1 0 := eg17
          have fg17 : jfr w_X11_unraft h g17 := jfr_up fg15 eg17 (by unfold w_X11_unraft; omega)
          have e18 : g17 32 a1 = 0 := jup_s eg17
          refine st_gr jo_0 jr_0_5 ?_
          refine st_cv (na := 2) (st := [.inl v13, .inl 0, .inr (.inr (.inl 29))]) jo_29 rfl rfl rfl (c_X10_store_29 0 v13 g17 (by omega)) rfl ?_
          rintro _ _ g20 ⟨rfl, ft19, t19, rfl, ht19, zt19⟩ kt19
          replace kt19 : -2147483648 ≤ t19 ∧ t19 ≤ 2147483647 := kt19
          have fg20 : jfr w_X11_unraft h g20 := jfr_tr fg17 ft19 (fun i k q => by unfold w_X10_store_29 at q; unfold w_X11_unraft; omega)
          exact st_r0 (ls := []) ⟨rfl, rfl, fg20, v13, rfl, trivial, trivial⟩
        · replace c10 : ¬ (0 : Int) = 0 := by first | exact c10 | exact Int.not_le.mp c10 | exact Int.not_lt.mp c10 | exact Decidable.not_not.mp c10
          exfalso; omega
      · replace c9 : ¬ v7 = (-2) := by first | exact c9 | exact Int.not_le.mp c9 | exact Int.not_lt.mp c9 | exact Decidable.not_not.mp c9
        show jGo E l 69 229 229 _ 51 [.inr (.inr (.inl 0)), .inl a1, .inr (.inr (.inr ())), .inr (.inr (.inr ()))] [.inl (-2)] 229 jr0 h
        refine jGo_blk qX11_unraft_51 ?_
        refine And.intro (fun c21 => ?_) (fun c21 => ?_)
        · replace c21 : (-2 : Int) = 0 := c21
          exfalso; omega
        · replace c21 : ¬ (-2 : Int) = 0 := by first | exact c21 | exact Int.not_le.mp c21 | exact Int.not_lt.mp c21 | exact Decidable.not_not.mp c21
          refine st_cv (na := 1) (st := [.inl (-2), .inr (.inr (.inl 0))]) jo_0 rfl rfl rfl (c_X11_refused (-2) h (by omega)) rfl ?_
          rintro _ _ g23 ⟨rfl, ft22, t22, rfl, ht22, zt22⟩ kt22
          replace kt22 : -2147483648 ≤ t22 ∧ t22 ≤ 2147483647 := kt22
          replace ht22 : -7 ≤ t22 ∧ t22 ≤ -1 := ht22
          have fg23 : jfr w_X11_unraft h g23 := jfr_tr f0 ft22 (fun i k q => by unfold w_X11_refused at q; unfold w_X11_unraft; omega)
          replace zt22 : t22 = (-2 : Int) := zt22
          exact st_r0 (ls := []) ⟨rfl, rfl, fg23, t22, rfl, trivial, trivial⟩
    · replace c6 : v4 = (-1) := by first | exact c6 | exact Int.not_le.mp c6 | exact Int.not_lt.mp c6 | exact Decidable.not_not.mp c6
      show jGo E l 69 229 229 _ 51 [.inr (.inr (.inl 0)), .inl a1, .inr (.inr (.inr ())), .inr (.inr (.inr ()))] [.inl (-3)] 229 jr0 h
      refine jGo_blk qX11_unraft_51 ?_
      refine And.intro (fun c24 => ?_) (fun c24 => ?_)
      · replace c24 : (-3 : Int) = 0 := c24
        exfalso; omega
      · replace c24 : ¬ (-3 : Int) = 0 := by first | exact c24 | exact Int.not_le.mp c24 | exact Int.not_lt.mp c24 | exact Decidable.not_not.mp c24
        refine st_cv (na := 1) (st := [.inl (-3), .inr (.inr (.inl 0))]) jo_0 rfl rfl rfl (c_X11_refused (-3) h (by omega)) rfl ?_
        rintro _ _ g26 ⟨rfl, ft25, t25, rfl, ht25, zt25⟩ kt25
        replace kt25 : -2147483648 ≤ t25 ∧ t25 ≤ 2147483647 := kt25
        replace ht25 : -7 ≤ t25 ∧ t25 ≤ -1 := ht25
        have fg26 : jfr w_X11_unraft h g26 := jfr_tr f0 ft25 (fun i k q => by unfold w_X11_refused at q; unfold w_X11_unraft; omega)
        replace zt25 : t25 = (-3 : Int) := zt25
        exact st_r0 (ls := []) ⟨rfl, rfl, fg26, t25, rfl, trivial, trivial⟩
  · replace c3 : t1 = 0 := by first | exact c3 | exact Int.not_le.mp c3 | exact Int.not_lt.mp c3 | exact Decidable.not_not.mp c3
    show jGo E l 69 229 229 _ 51 [.inr (.inr (.inl 0)), .inl a1, .inr (.inr (.inr ())), .inr (.inr (.inr ()))] [.inl (-1)] 229 jr0 h
    refine jGo_blk qX11_unraft_51 ?_
    refine And.intro (fun c27 => ?_) (fun c27 => ?_)
    · replace c27 : (-1 : Int) = 0 := c27
      exfalso; omega
    · replace c27 : ¬ (-1 : Int) = 0 := by first | exact c27 | exact Int.not_le.mp c27 | exact Int.not_lt.mp c27 | exact Decidable.not_not.mp c27
      refine st_cv (na := 1) (st := [.inl (-1), .inr (.inr (.inl 0))]) jo_0 rfl rfl rfl (c_X11_refused (-1) h (by omega)) rfl ?_
      rintro _ _ g29 ⟨rfl, ft28, t28, rfl, ht28, zt28⟩ kt28
      replace kt28 : -2147483648 ≤ t28 ∧ t28 ≤ 2147483647 := kt28
      replace ht28 : -7 ≤ t28 ∧ t28 ≤ -1 := ht28
      have fg29 : jfr w_X11_unraft h g29 := jfr_tr f0 ft28 (fun i k q => by unfold w_X11_refused at q; unfold w_X11_unraft; omega)
      replace zt28 : t28 = (-1 : Int) := zt28
      exact st_r0 (ls := []) ⟨rfl, rfl, fg29, t28, rfl, trivial, trivial⟩

def w_X12_unraft (i k : Int) : Prop := (i = 181) ∨ (202 ≤ i ∧ i ≤ 203) ∨ (i = 219)
def k_X12_unraft (a1 : Int) (h : JH) (v : Option JV) (r' g : JH) : Prop := r' = jr0 ∧ jfr w_X12_unraft h g ∧ ∃ x : Int, v = some (.inl x) ∧ (True) ∧ (True)
set_option maxHeartbeats 4000000 in
theorem c_X12_unraft {E : JE} {l : Launch} (a1 : Int) (h : JH) : jMt E l 70 [.inr (.inr (.inl 176)), .inl a1] 229 jr0 h (k_X12_unraft a1 h) := by
  refine jMt0 (nL := 3) (ls := [.inr (.inr (.inl 176)), .inl a1, .inr (.inr (.inr ()))]) (by decide +kernel) (by decide +kernel) (by decide +kernel) rfl rfl ?_
  have f0 : jfr w_X12_unraft h h := jfr_rf _ _
  refine jGo_blk qX12_unraft_0 ?_
  refine st_cs (na := 3) (st := [.inl 5, .inl 0, .inl a1]) rfl rfl rfl (c_X12_in a1 0 5 h) rfl ?_
  rintro _ _ _ ⟨rfl, rfl, t1, rfl, ht1, zt1⟩ kt1
  replace kt1 : -2147483648 ≤ t1 ∧ t1 ≤ 2147483647 := kt1
  replace ht1 : 0 ≤ t1 ∧ t1 ≤ 1 := ht1
  replace zt1 : (t1 = 1 ∧ (0 : Int) ≤ a1 ∧ a1 ≤ (5 : Int)) ∨ (t1 = 0 ∧ ¬ ((0 : Int) ≤ a1 ∧ a1 ≤ (5 : Int))) := zt1
  refine And.intro (fun c3 => ?_) (fun c3 => ?_)
  · replace c3 : ¬ t1 = 0 := c3
    show jGo E l 70 229 229 _ 15 [.inr (.inr (.inl 176)), .inl a1, .inr (.inr (.inr ()))] [] 229 jr0 h
    refine jGo_blk qX12_unraft_15 ?_
    refine st_gr jo_176 jr_176_28 ?_
    refine st_ai jo_202 (show 0 ≤ a1 by omega) (show a1 < ((6 : Nat) : Int) by omega) (fun v4 ev4 b5 => ?_)
    replace ev4 : v4 = h 202 a1 := ev4
    replace b5 := (jba_202 a1 _).1 b5
    refine And.intro (fun c6 => ?_) (fun c6 => ?_)
    · replace c6 : 0 ≤ v4 := c6
      show jGo E l 70 229 229 _ 31 [.inr (.inr (.inl 176)), .inl a1, .inr (.inr (.inr ()))] [] 229 jr0 h
      refine jGo_blk qX12_unraft_31 ?_
      refine st_gr jo_176 jr_176_28 ?_
      refine st_ai jo_202 (show 0 ≤ a1 by omega) (show a1 < ((6 : Nat) : Int) by omega) (fun v7 ev7 b8 => ?_)
      replace ev7 : v7 = h 202 a1 := ev7
      replace b8 := (jba_202 a1 _).1 b8
      refine And.intro (fun c9 => ?_) (fun c9 => ?_)
      · replace c9 : 100 ≤ v7 := c9
        show jGo E l 70 229 229 _ 49 [.inr (.inr (.inl 176)), .inl a1, .inr (.inr (.inr ()))] [] 229 jr0 h
        refine jGo_blk qX12_unraft_49 ?_
        refine st_gr jo_176 jr_176_29 ?_
        refine st_ai jo_203 (show 0 ≤ a1 by omega) (show a1 < ((6 : Nat) : Int) by omega) (fun v10 ev10 b11 => ?_)
        replace ev10 : v10 = h 203 a1 := ev10
        replace b11 := (jba_203 a1 _).1 b11
        refine st_gr jo_176 jr_176_5 ?_
        refine st_gr jo_176 jr_176_5 ?_
        refine st_ai jo_181 (show 0 ≤ 0 by omega) (show 0 < ((6 : Nat) : Int) by omega) (fun v12 ev12 b13 => ?_)
        replace ev12 : v12 = h 181 0 := ev12
        replace b13 := (jba_181 0 _).1 b13
        refine And.intro (fun c14 => ?_) (fun c14 => ?_)
        · replace c14 : v10 ≤ jw32 (1000000 - v12) := c14
          show jGo E l 70 229 229 _ 79 [.inr (.inr (.inl 176)), .inl a1, .inl v10] [.inl 0, .inr (.inr (.inl 181))] 229 jr0 h
          refine jGo_blk qX12_unraft_79 ?_
          refine st_gr jo_176 jr_176_5 ?_
          refine st_ai jo_181 (show 0 ≤ 0 by omega) (show 0 < ((6 : Nat) : Int) by omega) (fun v15 ev15 b16 => ?_)
          replace ev15 : v15 = h 181 0 := ev15
          replace b16 := (jba_181 0 _).1 b16
          show jGo E l 70 229 229 _ 87 [.inr (.inr (.inl 176)), .inl a1, .inl v10] [.inl (jw32 (v15 + v10)), .inl 0, .inr (.inr (.inl 181))] 229 jr0 h
          refine jGo_blk qX12_unraft_87 ?_
          refine st_si jo_181 (show 0 ≤ 0 by omega) (show 0 < ((6 : Nat) : Int) by omega) (fun hx => (jba_181 _ _).2 hx) (fun g17 eg17 => ?_)
          replace eg17 : g17 = jup h 181 0 (jw32 (v15 + v10)) := eg17
          have fg17 : jfr w_X12_unraft h g17 := jfr_up f0 eg17 (by unfold w_X12_unraft; omega)
          have e18 : g17 181 0 = jw32 (v15 + v10) := jup_s eg17
          refine st_gr jo_176 jr_176_28 ?_
          refine st_si jo_202 (show 0 ≤ a1 by omega) (show a1 < ((6 : Nat) : Int) by omega) (fun hx => (jba_202 _ _).2 (show (-1 ≤ (-1) ∧ (-1) ≤ 15) ∨ (-1) = 100 by omega)) (fun g19 eg19 => ?_)
          replace eg19 : g19 = jup g17 202 a1 (-1) := eg19
          have fg19 : jfr w_X12_unraft h g19 := jfr_up fg17 eg19 (by unfold w_X12_unraft; omega)
          have e20 : g19 202 a1 = (-1) := jup_s eg19
          refine st_gr jo_176 jr_176_29 ?_
          refine st_si jo_203 (show 0 ≤ a1 by omega) (show a1 < ((6 : Nat) : Int) by omega) (fun hx => (jba_203 _ _).2 hx) (fun g21 eg21 => ?_)
          replace eg21 : g21 = jup g19 203 a1 0 := eg21
          have fg21 : jfr w_X12_unraft h g21 := jfr_up fg19 eg21 (by unfold w_X12_unraft; omega)
          have e22 : g21 203 a1 = 0 := jup_s eg21
          exact st_r0 (ls := []) ⟨rfl, rfl, fg21, v10, rfl, trivial, trivial⟩
        · replace c14 : jw32 (1000000 - v12) < v10 := by first | exact c14 | exact Int.not_le.mp c14 | exact Int.not_lt.mp c14 | exact Decidable.not_not.mp c14
          show jGo E l 70 229 229 _ 87 [.inr (.inr (.inl 176)), .inl a1, .inl v10] [.inl 1000000, .inl 0, .inr (.inr (.inl 181))] 229 jr0 h
          refine jGo_blk qX12_unraft_87 ?_
          refine st_si jo_181 (show 0 ≤ 0 by omega) (show 0 < ((6 : Nat) : Int) by omega) (fun hx => (jba_181 _ _).2 hx) (fun g23 eg23 => ?_)
          replace eg23 : g23 = jup h 181 0 1000000 := eg23
          have fg23 : jfr w_X12_unraft h g23 := jfr_up f0 eg23 (by unfold w_X12_unraft; omega)
          have e24 : g23 181 0 = 1000000 := jup_s eg23
          refine st_gr jo_176 jr_176_28 ?_
          refine st_si jo_202 (show 0 ≤ a1 by omega) (show a1 < ((6 : Nat) : Int) by omega) (fun hx => (jba_202 _ _).2 (show (-1 ≤ (-1) ∧ (-1) ≤ 15) ∨ (-1) = 100 by omega)) (fun g25 eg25 => ?_)
          replace eg25 : g25 = jup g23 202 a1 (-1) := eg25
          have fg25 : jfr w_X12_unraft h g25 := jfr_up fg23 eg25 (by unfold w_X12_unraft; omega)
          have e26 : g25 202 a1 = (-1) := jup_s eg25
          refine st_gr jo_176 jr_176_29 ?_
          refine st_si jo_203 (show 0 ≤ a1 by omega) (show a1 < ((6 : Nat) : Int) by omega) (fun hx => (jba_203 _ _).2 hx) (fun g27 eg27 => ?_)
          replace eg27 : g27 = jup g25 203 a1 0 := eg27
          have fg27 : jfr w_X12_unraft h g27 := jfr_up fg25 eg27 (by unfold w_X12_unraft; omega)
          have e28 : g27 203 a1 = 0 := jup_s eg27
          exact st_r0 (ls := []) ⟨rfl, rfl, fg27, v10, rfl, trivial, trivial⟩
      · replace c9 : v7 < 100 := by first | exact c9 | exact Int.not_le.mp c9 | exact Int.not_lt.mp c9 | exact Decidable.not_not.mp c9
        refine st_cv (na := 1) (st := [.inl (-2), .inr (.inr (.inl 176))]) jo_176 rfl rfl rfl (c_X12_refuse (-2) h (by omega)) rfl ?_
        rintro _ _ g30 ⟨rfl, ft29, t29, rfl, ht29, zt29⟩ kt29
        replace kt29 : -2147483648 ≤ t29 ∧ t29 ≤ 2147483647 := kt29
        replace ht29 : -7 ≤ t29 ∧ t29 ≤ -1 := ht29
        have fg30 : jfr w_X12_unraft h g30 := jfr_tr f0 ft29 (fun i k q => by unfold w_X12_refuse at q; unfold w_X12_unraft; omega)
        replace zt29 : t29 = (-2 : Int) := zt29
        exact st_r0 (ls := []) ⟨rfl, rfl, fg30, t29, rfl, trivial, trivial⟩
    · replace c6 : v4 < 0 := by first | exact c6 | exact Int.not_le.mp c6 | exact Int.not_lt.mp c6 | exact Decidable.not_not.mp c6
      refine st_cv (na := 1) (st := [.inl (-3), .inr (.inr (.inl 176))]) jo_176 rfl rfl rfl (c_X12_refuse (-3) h (by omega)) rfl ?_
      rintro _ _ g32 ⟨rfl, ft31, t31, rfl, ht31, zt31⟩ kt31
      replace kt31 : -2147483648 ≤ t31 ∧ t31 ≤ 2147483647 := kt31
      replace ht31 : -7 ≤ t31 ∧ t31 ≤ -1 := ht31
      have fg32 : jfr w_X12_unraft h g32 := jfr_tr f0 ft31 (fun i k q => by unfold w_X12_refuse at q; unfold w_X12_unraft; omega)
      replace zt31 : t31 = (-3 : Int) := zt31
      exact st_r0 (ls := []) ⟨rfl, rfl, fg32, t31, rfl, trivial, trivial⟩
  · replace c3 : t1 = 0 := by first | exact c3 | exact Int.not_le.mp c3 | exact Int.not_lt.mp c3 | exact Decidable.not_not.mp c3
    refine st_cv (na := 1) (st := [.inl (-1), .inr (.inr (.inl 176))]) jo_176 rfl rfl rfl (c_X12_refuse (-1) h (by omega)) rfl ?_
    rintro _ _ g34 ⟨rfl, ft33, t33, rfl, ht33, zt33⟩ kt33
    replace kt33 : -2147483648 ≤ t33 ∧ t33 ≤ 2147483647 := kt33
    replace ht33 : -7 ≤ t33 ∧ t33 ≤ -1 := ht33
    have fg34 : jfr w_X12_unraft h g34 := jfr_tr f0 ft33 (fun i k q => by unfold w_X12_refuse at q; unfold w_X12_unraft; omega)
    replace zt33 : t33 = (-1 : Int) := zt33
    exact st_r0 (ls := []) ⟨rfl, rfl, fg34, t33, rfl, trivial, trivial⟩

def w_X10_lineUp_29 (i k : Int) : Prop := (i = 34) ∨ (i = 29 ∧ k = 6)
def k_X10_lineUp_29 (h : JH) (v : Option JV) (r' g : JH) : Prop := r' = jr0 ∧ jfr w_X10_lineUp_29 h g ∧ v = none ∧ (True)
set_option maxHeartbeats 4000000 in
theorem c_X10_lineUp_29 {E : JE} {l : Launch} (h : JH) : jMt E l 71 [.inr (.inr (.inl 29))] 229 jr0 h (k_X10_lineUp_29 h) := by
  refine jMt0 (nL := 3) (ls := [.inr (.inr (.inl 29)), .inr (.inr (.inr ())), .inr (.inr (.inr ()))]) (by decide +kernel) (by decide +kernel) (by decide +kernel) rfl rfl ?_
  have f0 : jfr w_X10_lineUp_29 h h := jfr_rf _ _
  have key : ∀ N : Nat, (∀ (x1 : Int) (x2 : JV) (g : JH), (0 ≤ x1 ∧ x1 ≤ 16) → (0 ≤ g 29 6 ∧ g 29 6 ≤ x1) → jfr w_X10_lineUp_29 h g → (16 - x1) * 1000000 + 999999 < (N : Int) → jGo E l 71 229 229 (jRK (k_X10_lineUp_29 h)) 7 [.inr (.inr (.inl 29)), .inl x1, x2] [] 229 jr0 g) ∧
      (∀ (x1 : Int) (x2 : Int) (g : JH), (0 ≤ x1 ∧ x1 ≤ 15 ∧ 0 ≤ x2 ∧ x2 ≤ 16) → (x2 ≤ g 29 6 ∧ g 29 6 ≤ x1 ∧ x1 < g 29 4) → jfr w_X10_lineUp_29 h g → (16 - x1) * 1000000 + (x2 - 0) < (N : Int) → jGo E l 71 229 229 (jRK (k_X10_lineUp_29 h)) 32 [.inr (.inr (.inl 29)), .inl x1, .inl x2] [] 229 jr0 g) := by
    intro N
    induction N with
    | zero => exact ⟨fun _ _ _ hi hx0 _ hN => absurd hN (by omega), fun _ _ _ hi hx0 _ hN => absurd hN (by omega)⟩
    | succ N ih =>
      refine ⟨?_, ?_⟩
      · intro x1 x2 g hi hx0 hf hN
        refine jGo_blk qX10_lineUp_7 ?_
        refine st_gi jo_29 (fun v1 ev1 b2 => ?_)
        replace ev1 : v1 = g 29 4 := ev1
        replace b2 := (jbf_10_4 jo_29 _).1 b2
        refine And.intro (fun c3 => ?_) (fun c3 => ?_)
        · replace c3 : v1 ≤ x1 := c3
          show jGo E l 71 229 229 _ 107 [.inr (.inr (.inl 29)), .inl x1, x2] [] 229 jr0 g
          refine jGo_blk qX10_lineUp_107 ?_
          exact ⟨rfl, rfl, hf, rfl, trivial⟩
        · replace c3 : x1 < v1 := by first | exact c3 | exact Int.not_le.mp c3 | exact Int.not_lt.mp c3 | exact Decidable.not_not.mp c3
          refine st_gr jo_29 jr_29_3 ?_
          refine st_ar jo_33 (by decide) (show 0 ≤ x1 by omega) (show x1 < ((16 : Nat) : Int) by omega) (fun u4 eu4 => ?_)
          replace eu4 : u4 = jr0 33 x1 := eu4
          have qu4 : u4 = 36 + 3 * x1 := eu4.trans (jhul_33 x1 (by omega) (by omega)).1
          have hu4 : jHl u4 := by rw [eu4]; exact (jhul_33 x1 (by omega) (by omega)).2
          refine st_cv (na := 0) (st := [.inr (.inr (.inl u4))]) hu4.1 rfl rfl rfl (c_X4_isUnderWay u4 g hu4) rfl ?_
          rintro _ _ _ ⟨rfl, rfl, t5, rfl, ht5, zt5⟩ kt5
          replace kt5 : -2147483648 ≤ t5 ∧ t5 ≤ 2147483647 := kt5
          replace ht5 : 0 ≤ t5 ∧ t5 ≤ 1 := ht5
          refine And.intro (fun c7 => ?_) (fun c7 => ?_)
          · replace c7 : t5 = 0 := c7
            show jGo E l 71 229 229 _ 101 [.inr (.inr (.inl 29)), .inl x1, x2] [] 229 jr0 g
            refine jGo_blk qX10_lineUp_101 ?_
            have e8 : jw32 (x1 + 1) = x1 + 1 := j32e (by omega) (by omega)
            show jGo E l 71 229 229 _ 7 [.inr (.inr (.inl 29)), .inl (jw32 (x1 + 1)), x2] [] 229 jr0 g
            exact ih.1 (jw32 (x1 + 1)) x2 g (by omega) (by omega) hf (by omega)
          · replace c7 : ¬ t5 = 0 := by first | exact c7 | exact Int.not_le.mp c7 | exact Int.not_lt.mp c7 | exact Decidable.not_not.mp c7
            refine st_gi jo_29 (fun v9 ev9 b10 => ?_)
            replace ev9 : v9 = g 29 6 := ev9
            replace b10 := (jbf_10_6 jo_29 _).1 b10
            show jGo E l 71 229 229 _ 32 [.inr (.inr (.inl 29)), .inl x1, .inl v9] [] 229 jr0 g
            exact ih.2 x1 v9 g (by omega) (by omega) hf (by omega)
      · intro x1 x2 g hi hx0 hf hN
        refine jGo_blk qX10_lineUp_32 ?_
        refine And.intro (fun c11 => ?_) (fun c11 => ?_)
        · replace c11 : x2 ≤ 0 := c11
          show jGo E l 71 229 229 _ 84 [.inr (.inr (.inl 29)), .inl x1, .inl x2] [] 229 jr0 g
          refine jGo_blk qX10_lineUp_84 ?_
          refine st_gr jo_29 jr_29_5 ?_
          refine st_si jo_34 (show 0 ≤ x2 by omega) (show x2 < ((16 : Nat) : Int) by omega) (fun hx => (jba_34 _ _).2 (show 0 ≤ x1 ∧ x1 ≤ 15 by omega)) (fun g12 eg12 => ?_)
          replace eg12 : g12 = jup g 34 x2 x1 := eg12
          have fg12 : jfr w_X10_lineUp_29 h g12 := jfr_up hf eg12 (by unfold w_X10_lineUp_29; omega)
          have e13 : g12 34 x2 = x1 := jup_s eg12
          refine st_gi jo_29 (fun v14 ev14 b15 => ?_)
          replace ev14 : v14 = g12 29 6 := ev14
          replace b15 := (jbf_10_6 jo_29 _).1 b15
          have e16 : g12 29 6 = g 29 6 := jup_o eg12 (by omega)
          have e17 : jw32 (v14 + 1) = v14 + 1 := j32e (by omega) (by omega)
          refine st_pi jo_29 (fun hx => (jbf_10_6 jo_29 _).2 (show 0 ≤ jw32 (v14 + 1) ∧ jw32 (v14 + 1) ≤ 16 by omega)) (fun g18 eg18 => ?_)
          replace eg18 : g18 = jup g12 29 6 (jw32 (v14 + 1)) := eg18
          have fg18 : jfr w_X10_lineUp_29 h g18 := jfr_up fg12 eg18 (by unfold w_X10_lineUp_29; omega)
          have e19 : g18 29 6 = jw32 (v14 + 1) := jup_s eg18
          show jGo E l 71 229 229 _ 101 [.inr (.inr (.inl 29)), .inl x1, .inl x2] [] 229 jr0 g18
          refine jGo_blk qX10_lineUp_101 ?_
          have e20 : jw32 (x1 + 1) = x1 + 1 := j32e (by omega) (by omega)
          show jGo E l 71 229 229 _ 7 [.inr (.inr (.inl 29)), .inl (jw32 (x1 + 1)), .inl x2] [] 229 jr0 g18
          exact ih.1 (jw32 (x1 + 1)) (.inl x2) g18 (by omega) (by omega) fg18 (by omega)
        · replace c11 : 0 < x2 := by first | exact c11 | exact Int.not_le.mp c11 | exact Int.not_lt.mp c11 | exact Decidable.not_not.mp c11
          refine st_gr jo_29 jr_29_3 ?_
          refine st_gr jo_29 jr_29_5 ?_
          have e21 : jw32 (x2 - 1) = x2 - 1 := j32e (by omega) (by omega)
          refine st_ai jo_34 (show 0 ≤ jw32 (x2 - 1) by omega) (show jw32 (x2 - 1) < ((16 : Nat) : Int) by omega) (fun v22 ev22 b23 => ?_)
          replace ev22 : v22 = g 34 (jw32 (x2 - 1)) := ev22
          replace b23 := (jba_34 (jw32 (x2 - 1)) _).1 b23
          refine st_ar jo_33 (by decide) (show 0 ≤ v22 by omega) (show v22 < ((16 : Nat) : Int) by omega) (fun u24 eu24 => ?_)
          replace eu24 : u24 = jr0 33 v22 := eu24
          have qu24 : u24 = 36 + 3 * v22 := eu24.trans (jhul_33 v22 (by omega) (by omega)).1
          have hu24 : jHl u24 := by rw [eu24]; exact (jhul_33 v22 (by omega) (by omega)).2
          refine st_gi hu24.1 (fun v25 ev25 b26 => ?_)
          replace ev25 : v25 = g u24 1 := ev25
          replace b26 := (jbf_4_1 hu24.1 _).1 b26
          refine st_gr jo_29 jr_29_3 ?_
          refine st_ar jo_33 (by decide) (show 0 ≤ x1 by omega) (show x1 < ((16 : Nat) : Int) by omega) (fun u27 eu27 => ?_)
          replace eu27 : u27 = jr0 33 x1 := eu27
          have qu27 : u27 = 36 + 3 * x1 := eu27.trans (jhul_33 x1 (by omega) (by omega)).1
          have hu27 : jHl u27 := by rw [eu27]; exact (jhul_33 x1 (by omega) (by omega)).2
          refine st_gi hu27.1 (fun v28 ev28 b29 => ?_)
          replace ev28 : v28 = g u27 1 := ev28
          replace b29 := (jbf_4_1 hu27.1 _).1 b29
          refine And.intro (fun c30 => ?_) (fun c30 => ?_)
          · replace c30 : v28 ≤ v25 := c30
            show jGo E l 71 229 229 _ 84 [.inr (.inr (.inl 29)), .inl x1, .inl x2] [] 229 jr0 g
            refine jGo_blk qX10_lineUp_84 ?_
            refine st_gr jo_29 jr_29_5 ?_
            refine st_si jo_34 (show 0 ≤ x2 by omega) (show x2 < ((16 : Nat) : Int) by omega) (fun hx => (jba_34 _ _).2 (show 0 ≤ x1 ∧ x1 ≤ 15 by omega)) (fun g31 eg31 => ?_)
            replace eg31 : g31 = jup g 34 x2 x1 := eg31
            have fg31 : jfr w_X10_lineUp_29 h g31 := jfr_up hf eg31 (by unfold w_X10_lineUp_29; omega)
            have e32 : g31 34 x2 = x1 := jup_s eg31
            refine st_gi jo_29 (fun v33 ev33 b34 => ?_)
            replace ev33 : v33 = g31 29 6 := ev33
            replace b34 := (jbf_10_6 jo_29 _).1 b34
            have e35 : g31 29 6 = g 29 6 := jup_o eg31 (by omega)
            have e36 : jw32 (v33 + 1) = v33 + 1 := j32e (by omega) (by omega)
            refine st_pi jo_29 (fun hx => (jbf_10_6 jo_29 _).2 (show 0 ≤ jw32 (v33 + 1) ∧ jw32 (v33 + 1) ≤ 16 by omega)) (fun g37 eg37 => ?_)
            replace eg37 : g37 = jup g31 29 6 (jw32 (v33 + 1)) := eg37
            have fg37 : jfr w_X10_lineUp_29 h g37 := jfr_up fg31 eg37 (by unfold w_X10_lineUp_29; omega)
            have e38 : g37 29 6 = jw32 (v33 + 1) := jup_s eg37
            show jGo E l 71 229 229 _ 101 [.inr (.inr (.inl 29)), .inl x1, .inl x2] [] 229 jr0 g37
            refine jGo_blk qX10_lineUp_101 ?_
            have e39 : jw32 (x1 + 1) = x1 + 1 := j32e (by omega) (by omega)
            show jGo E l 71 229 229 _ 7 [.inr (.inr (.inl 29)), .inl (jw32 (x1 + 1)), .inl x2] [] 229 jr0 g37
            exact ih.1 (jw32 (x1 + 1)) (.inl x2) g37 (by omega) (by omega) fg37 (by omega)
          · replace c30 : v25 < v28 := by first | exact c30 | exact Int.not_le.mp c30 | exact Int.not_lt.mp c30 | exact Decidable.not_not.mp c30
            refine st_gr jo_29 jr_29_5 ?_
            refine st_gr jo_29 jr_29_5 ?_
            have e40 : jw32 (x2 - 1) = x2 - 1 := j32e (by omega) (by omega)
            refine st_ai jo_34 (show 0 ≤ jw32 (x2 - 1) by omega) (show jw32 (x2 - 1) < ((16 : Nat) : Int) by omega) (fun v41 ev41 b42 => ?_)
            replace ev41 : v41 = g 34 (jw32 (x2 - 1)) := ev41
            replace b42 := (jba_34 (jw32 (x2 - 1)) _).1 b42
            refine st_si jo_34 (show 0 ≤ x2 by omega) (show x2 < ((16 : Nat) : Int) by omega) (fun hx => (jba_34 _ _).2 (show 0 ≤ v41 ∧ v41 ≤ 15 by omega)) (fun g43 eg43 => ?_)
            replace eg43 : g43 = jup g 34 x2 v41 := eg43
            have fg43 : jfr w_X10_lineUp_29 h g43 := jfr_up hf eg43 (by unfold w_X10_lineUp_29; omega)
            have e44 : g43 34 x2 = v41 := jup_s eg43
            have e45 : jw32 (x2 + (-1)) = x2 + (-1) := j32e (by omega) (by omega)
            show jGo E l 71 229 229 _ 32 [.inr (.inr (.inl 29)), .inl x1, .inl (jw32 (x2 + (-1)))] [] 229 jr0 g43
            have e46 : g43 29 6 = g 29 6 := jup_o eg43 (by omega)
            have e47 : g43 29 6 = g 29 6 := jup_o eg43 (by omega)
            have e48 : g43 29 4 = g 29 4 := jup_o eg43 (by omega)
            exact ih.2 x1 (jw32 (x2 + (-1))) g43 (by omega) (by omega) fg43 (by omega)
  refine jGo_blk qX10_lineUp_0 ?_
  refine st_pi jo_29 (fun hx => (jbf_10_6 jo_29 _).2 (show 0 ≤ 0 ∧ 0 ≤ 16 by omega)) (fun g49 eg49 => ?_)
  replace eg49 : g49 = jup h 29 6 0 := eg49
  have fg49 : jfr w_X10_lineUp_29 h g49 := jfr_up f0 eg49 (by unfold w_X10_lineUp_29; omega)
  have e50 : g49 29 6 = 0 := jup_s eg49
  show jGo E l 71 229 229 _ 7 [.inr (.inr (.inl 29)), .inl 0, .inr (.inr (.inr ()))] [] 229 jr0 g49
  exact (key 1000000000000000000).1 0 (.inr (.inr (.inr ()))) g49 (by omega) (by omega) fg49 (by omega)

def w_X0_write_106 (i k : Int) : Prop := (i = 15) ∨ (107 ≤ i ∧ i ≤ 110) ∨ (i = 11 ∧ k = 5)
def k_X0_write_106 (a1 : Int) (a2 : Int) (h : JH) (v : Option JV) (r' g : JH) : Prop := r' = jr0 ∧ jfr w_X0_write_106 h g ∧ v = none ∧ (True)
set_option maxHeartbeats 4000000 in
theorem c_X0_write_106 {E : JE} {l : Launch} (a1 : Int) (a2 : Int) (h : JH) (p1 : 0 ≤ a1 ∧ a1 ≤ 0) (p2 : 0 ≤ a2 ∧ a2 ≤ 2400) : jMt E l 72 [.inr (.inr (.inl 106)), .inl a1, .inl a2, .inr (.inr (.inl 2)), .inr (.inr (.inl 11))] 229 jr0 h (k_X0_write_106 a1 a2 h) := by
  refine jMt0 (nL := 8) (ls := [.inr (.inr (.inl 106)), .inl a1, .inl a2, .inr (.inr (.inl 2)), .inr (.inr (.inl 11)), .inr (.inr (.inr ())), .inr (.inr (.inr ())), .inr (.inr (.inr ()))]) (by decide +kernel) (by decide +kernel) (by decide +kernel) rfl rfl ?_
  have f0 : jfr w_X0_write_106 h h := jfr_rf _ _
  have key : ∀ N : Nat, (∀ (x5 : Int) (x6 : Int) (x7 : JV) (g : JH), (0 ≤ x5 ∧ x5 ≤ 200 ∧ 0 ≤ x6 ∧ x6 ≤ 4) → jfr w_X0_write_106 h g → (4 - x6) < (N : Int) → jGo E l 72 229 229 (jRK (k_X0_write_106 a1 a2 h)) 61 [.inr (.inr (.inl 106)), .inl a1, .inl a2, .inr (.inr (.inl 2)), .inr (.inr (.inl 11)), .inl x5, .inl x6, x7] [] 229 jr0 g) := by
    intro N
    induction N with
    | zero => exact fun _ _ _ _ hi _ hN => absurd hN (by omega)
    | succ N ih =>
      intro x5 x6 x7 g hi hf hN
      refine jGo_blk qX0_write_61 ?_
      refine And.intro (fun c1 => ?_) (fun c1 => ?_)
      · replace c1 : 4 ≤ x6 := c1
        show jGo E l 72 229 229 _ 135 [.inr (.inr (.inl 106)), .inl a1, .inl a2, .inr (.inr (.inl 2)), .inr (.inr (.inl 11)), .inl x5, .inl x6, x7] [] 229 jr0 g
        refine jGo_blk qX0_write_135 ?_
        exact ⟨rfl, rfl, hf, rfl, trivial⟩
      · replace c1 : x6 < 4 := by first | exact c1 | exact Int.not_le.mp c1 | exact Int.not_lt.mp c1 | exact Decidable.not_not.mp c1
        refine st_cv (na := 2) (st := [.inl a2, .inl x6, .inr (.inr (.inl 2))]) jo_2 rfl rfl rfl (c_X1_handsOfDay x6 a2 g (by omega) (by omega)) rfl ?_
        rintro _ _ _ ⟨rfl, rfl, t2, rfl, ht2, zt2⟩ kt2
        replace kt2 : -2147483648 ≤ t2 ∧ t2 ≤ 2147483647 := kt2
        replace ht2 : 0 ≤ t2 ∧ t2 ≤ 400 := ht2
        replace zt2 : t2 = jHd g x6 a2 ∧ -1 ≤ g 4 x6 ∧ g 4 x6 ≤ 3 ∧ (g 4 x6 < 0 ∨ g 10 (g 4 x6) ≤ 30) := zt2
        refine st_gr jo_106 jr_106_0 ?_
        have e4 : jw32 (a1 * 4) = a1 * 4 := j32e (by omega) (by omega)
        have e5 : jw32 ((jw32 (a1 * 4)) + x6) = (jw32 (a1 * 4)) + x6 := j32e (by omega) (by omega)
        refine st_si jo_107 (show 0 ≤ jw32 ((jw32 (a1 * 4)) + x6) by omega) (show jw32 ((jw32 (a1 * 4)) + x6) < ((4 : Nat) : Int) by omega) (fun hx => (jba_107 _ _).2 (show 0 ≤ t2 ∧ t2 ≤ 400 by omega)) (fun g6 eg6 => ?_)
        replace eg6 : g6 = jup g 107 (jw32 ((jw32 (a1 * 4)) + x6)) t2 := eg6
        have fg6 : jfr w_X0_write_106 h g6 := jfr_up hf eg6 (by unfold w_X0_write_106; omega)
        have e7 : g6 107 (jw32 ((jw32 (a1 * 4)) + x6)) = t2 := jup_s eg6
        refine st_gr jo_106 jr_106_2 ?_
        refine st_ai jo_109 (show 0 ≤ a1 by omega) (show a1 < ((1 : Nat) : Int) by omega) (fun v8 ev8 b9 => ?_)
        replace ev8 : v8 = g6 109 a1 := ev8
        replace b9 := (jba_109 a1 _).1 b9
        refine st_cv (na := 2) (st := [.inl x6, .inl 0, .inr (.inr (.inl 11)), .inl t2, .inl v8, .inl a1, .inr (.inr (.inl 109))]) jo_11 rfl rfl rfl (c_X2_inForce 0 x6 g6 (by omega)) rfl ?_
        rintro _ _ _ ⟨rfl, rfl, t10, rfl, ht10, zt10⟩ kt10
        replace kt10 : -2147483648 ≤ t10 ∧ t10 ≤ 2147483647 := kt10
        replace ht10 : 0 ≤ t10 ∧ t10 ≤ 200 := ht10
        replace zt10 : t10 = g6 15 (jsl (0 : Int) x6) := zt10
        refine st_si jo_109 (show 0 ≤ a1 by omega) (show a1 < ((1 : Nat) : Int) by omega) (fun hx => (jba_109 _ _).2 hx) (fun g12 eg12 => ?_)
        replace eg12 : g12 = jup g6 109 a1 (jw32 (v8 + (jw32 (t2 * t10)))) := eg12
        have fg12 : jfr w_X0_write_106 h g12 := jfr_up fg6 eg12 (by unfold w_X0_write_106; omega)
        have e13 : g12 109 a1 = jw32 (v8 + (jw32 (t2 * t10))) := jup_s eg12
        refine st_gr jo_106 jr_106_3 ?_
        refine st_ai jo_110 (show 0 ≤ a1 by omega) (show a1 < ((1 : Nat) : Int) by omega) (fun v14 ev14 b15 => ?_)
        replace ev14 : v14 = g12 110 a1 := ev14
        replace b15 := (jba_110 a1 _).1 b15
        refine st_cv (na := 2) (st := [.inl x6, .inl 1, .inr (.inr (.inl 11)), .inl t2, .inl v14, .inl a1, .inr (.inr (.inl 110))]) jo_11 rfl rfl rfl (c_X2_inForce 1 x6 g12 (by omega)) rfl ?_
        rintro _ _ _ ⟨rfl, rfl, t16, rfl, ht16, zt16⟩ kt16
        replace kt16 : -2147483648 ≤ t16 ∧ t16 ≤ 2147483647 := kt16
        replace ht16 : 0 ≤ t16 ∧ t16 ≤ 200 := ht16
        replace zt16 : t16 = g12 15 (jsl (1 : Int) x6) := zt16
        refine st_si jo_110 (show 0 ≤ a1 by omega) (show a1 < ((1 : Nat) : Int) by omega) (fun hx => (jba_110 _ _).2 hx) (fun g18 eg18 => ?_)
        replace eg18 : g18 = jup g12 110 a1 (jw32 (v14 + (jw32 (t2 * t16)))) := eg18
        have fg18 : jfr w_X0_write_106 h g18 := jfr_up fg12 eg18 (by unfold w_X0_write_106; omega)
        have e19 : g18 110 a1 = jw32 (v14 + (jw32 (t2 * t16))) := jup_s eg18
        have e20 : jw32 (x6 + 1) = x6 + 1 := j32e (by omega) (by omega)
        show jGo E l 72 229 229 _ 61 [.inr (.inr (.inl 106)), .inl a1, .inl a2, .inr (.inr (.inl 2)), .inr (.inr (.inl 11)), .inl x5, .inl (jw32 (x6 + 1)), .inl t2] [] 229 jr0 g18
        exact ih x5 (jw32 (x6 + 1)) (.inl t2) g18 (by omega) fg18 (by omega)
  refine jGo_blk qX0_write_0 ?_
  refine st_cv (na := 1) (st := [.inl a2, .inr (.inr (.inl 11))]) jo_11 rfl rfl rfl (c_X2_goOnTo a2 h) rfl ?_
  rintro _ _ g22 ⟨rfl, ft21, rfl, zt21⟩ kt21
  have fg22 : jfr w_X0_write_106 h g22 := jfr_tr f0 ft21 (fun i k q => by unfold w_X2_goOnTo at q; unfold w_X0_write_106; omega)
  replace zt21 : (jCo h → jCo g22) ∧ h 11 5 ≤ g22 11 5 ∧ (∀ i : Int, h 11 5 ≤ i → i < g22 11 5 → h 14 i ≤ a2) ∧ (h 11 5 ≤ h 11 0 → g22 11 5 ≤ h 11 0) ∧ (h 11 0 ≤ g22 11 5 ∨ a2 < h 14 (g22 11 5)) := zt21
  refine st_cv (na := 2) (st := [.inl 0, .inl 2, .inr (.inr (.inl 11))]) jo_11 rfl rfl rfl (c_X2_inForce 2 0 g22 (by omega)) rfl ?_
  rintro _ _ _ ⟨rfl, rfl, t23, rfl, ht23, zt23⟩ kt23
  replace kt23 : -2147483648 ≤ t23 ∧ t23 ≤ 2147483647 := kt23
  replace ht23 : 0 ≤ t23 ∧ t23 ≤ 200 := ht23
  replace zt23 : t23 = g22 15 (jsl (2 : Int) (0 : Int)) := zt23
  refine st_gr jo_106 jr_106_1 ?_
  refine And.intro (fun c25 => ?_) (fun c25 => ?_)
  · replace c25 : t23 = 0 := c25
    show jGo E l 72 229 229 _ 36 [.inr (.inr (.inl 106)), .inl a1, .inl a2, .inr (.inr (.inl 2)), .inr (.inr (.inl 11)), .inl t23, .inr (.inr (.inr ())), .inr (.inr (.inr ()))] [.inl a1, .inr (.inr (.inl 108))] 229 jr0 g22
    refine jGo_blk qX0_write_36 ?_
    refine st_cv (na := 2) (st := [.inl 0, .inl 3, .inr (.inr (.inl 11)), .inl a1, .inr (.inr (.inl 108))]) jo_11 rfl rfl rfl (c_X2_inForce 3 0 g22 (by omega)) rfl ?_
    rintro _ _ _ ⟨rfl, rfl, t26, rfl, ht26, zt26⟩ kt26
    replace kt26 : -2147483648 ≤ t26 ∧ t26 ≤ 2147483647 := kt26
    replace ht26 : 0 ≤ t26 ∧ t26 ≤ 200 := ht26
    replace zt26 : t26 = g22 15 (jsl (3 : Int) (0 : Int)) := zt26
    show jGo E l 72 229 229 _ 43 [.inr (.inr (.inl 106)), .inl a1, .inl a2, .inr (.inr (.inl 2)), .inr (.inr (.inl 11)), .inl t23, .inr (.inr (.inr ())), .inr (.inr (.inr ()))] [.inl t26, .inl a1, .inr (.inr (.inl 108))] 229 jr0 g22
    refine jGo_blk qX0_write_43 ?_
    refine st_si jo_108 (show 0 ≤ a1 by omega) (show a1 < ((1 : Nat) : Int) by omega) (fun hx => (jba_108 _ _).2 (show 0 ≤ t26 ∧ t26 ≤ 200 by omega)) (fun g28 eg28 => ?_)
    replace eg28 : g28 = jup g22 108 a1 t26 := eg28
    have fg28 : jfr w_X0_write_106 h g28 := jfr_up fg22 eg28 (by unfold w_X0_write_106; omega)
    have e29 : g28 108 a1 = t26 := jup_s eg28
    refine st_gr jo_106 jr_106_2 ?_
    refine st_si jo_109 (show 0 ≤ a1 by omega) (show a1 < ((1 : Nat) : Int) by omega) (fun hx => (jba_109 _ _).2 hx) (fun g30 eg30 => ?_)
    replace eg30 : g30 = jup g28 109 a1 0 := eg30
    have fg30 : jfr w_X0_write_106 h g30 := jfr_up fg28 eg30 (by unfold w_X0_write_106; omega)
    have e31 : g30 109 a1 = 0 := jup_s eg30
    refine st_gr jo_106 jr_106_3 ?_
    refine st_si jo_110 (show 0 ≤ a1 by omega) (show a1 < ((1 : Nat) : Int) by omega) (fun hx => (jba_110 _ _).2 hx) (fun g32 eg32 => ?_)
    replace eg32 : g32 = jup g30 110 a1 0 := eg32
    have fg32 : jfr w_X0_write_106 h g32 := jfr_up fg30 eg32 (by unfold w_X0_write_106; omega)
    have e33 : g32 110 a1 = 0 := jup_s eg32
    show jGo E l 72 229 229 _ 61 [.inr (.inr (.inl 106)), .inl a1, .inl a2, .inr (.inr (.inl 2)), .inr (.inr (.inl 11)), .inl t23, .inl 0, .inr (.inr (.inr ()))] [] 229 jr0 g32
    exact (key 1000000000000) t23 0 (.inr (.inr (.inr ()))) g32 (by omega) fg32 (by omega)
  · replace c25 : ¬ t23 = 0 := by first | exact c25 | exact Int.not_le.mp c25 | exact Int.not_lt.mp c25 | exact Decidable.not_not.mp c25
    refine And.intro (show t23 ≠ 0 by omega) ?_
    have e34 : True ∧ 0 ≤ a2.tmod t23 ∧ a2.tmod t23 < t23 := ⟨trivial, (jmd (by omega) (by omega)).2⟩
    refine And.intro (fun c35 => ?_) (fun c35 => ?_)
    · replace c35 : ¬ a2.tmod t23 = 0 := c35
      show jGo E l 72 229 229 _ 36 [.inr (.inr (.inl 106)), .inl a1, .inl a2, .inr (.inr (.inl 2)), .inr (.inr (.inl 11)), .inl t23, .inr (.inr (.inr ())), .inr (.inr (.inr ()))] [.inl a1, .inr (.inr (.inl 108))] 229 jr0 g22
      refine jGo_blk qX0_write_36 ?_
      refine st_cv (na := 2) (st := [.inl 0, .inl 3, .inr (.inr (.inl 11)), .inl a1, .inr (.inr (.inl 108))]) jo_11 rfl rfl rfl (c_X2_inForce 3 0 g22 (by omega)) rfl ?_
      rintro _ _ _ ⟨rfl, rfl, t36, rfl, ht36, zt36⟩ kt36
      replace kt36 : -2147483648 ≤ t36 ∧ t36 ≤ 2147483647 := kt36
      replace ht36 : 0 ≤ t36 ∧ t36 ≤ 200 := ht36
      replace zt36 : t36 = g22 15 (jsl (3 : Int) (0 : Int)) := zt36
      show jGo E l 72 229 229 _ 43 [.inr (.inr (.inl 106)), .inl a1, .inl a2, .inr (.inr (.inl 2)), .inr (.inr (.inl 11)), .inl t23, .inr (.inr (.inr ())), .inr (.inr (.inr ()))] [.inl t36, .inl a1, .inr (.inr (.inl 108))] 229 jr0 g22
      refine jGo_blk qX0_write_43 ?_
      refine st_si jo_108 (show 0 ≤ a1 by omega) (show a1 < ((1 : Nat) : Int) by omega) (fun hx => (jba_108 _ _).2 (show 0 ≤ t36 ∧ t36 ≤ 200 by omega)) (fun g38 eg38 => ?_)
      replace eg38 : g38 = jup g22 108 a1 t36 := eg38
      have fg38 : jfr w_X0_write_106 h g38 := jfr_up fg22 eg38 (by unfold w_X0_write_106; omega)
      have e39 : g38 108 a1 = t36 := jup_s eg38
      refine st_gr jo_106 jr_106_2 ?_
      refine st_si jo_109 (show 0 ≤ a1 by omega) (show a1 < ((1 : Nat) : Int) by omega) (fun hx => (jba_109 _ _).2 hx) (fun g40 eg40 => ?_)
      replace eg40 : g40 = jup g38 109 a1 0 := eg40
      have fg40 : jfr w_X0_write_106 h g40 := jfr_up fg38 eg40 (by unfold w_X0_write_106; omega)
      have e41 : g40 109 a1 = 0 := jup_s eg40
      refine st_gr jo_106 jr_106_3 ?_
      refine st_si jo_110 (show 0 ≤ a1 by omega) (show a1 < ((1 : Nat) : Int) by omega) (fun hx => (jba_110 _ _).2 hx) (fun g42 eg42 => ?_)
      replace eg42 : g42 = jup g40 110 a1 0 := eg42
      have fg42 : jfr w_X0_write_106 h g42 := jfr_up fg40 eg42 (by unfold w_X0_write_106; omega)
      have e43 : g42 110 a1 = 0 := jup_s eg42
      show jGo E l 72 229 229 _ 61 [.inr (.inr (.inl 106)), .inl a1, .inl a2, .inr (.inr (.inl 2)), .inr (.inr (.inl 11)), .inl t23, .inl 0, .inr (.inr (.inr ()))] [] 229 jr0 g42
      exact (key 1000000000000) t23 0 (.inr (.inr (.inr ()))) g42 (by omega) fg42 (by omega)
    · replace c35 : a2.tmod t23 = 0 := by first | exact c35 | exact Int.not_le.mp c35 | exact Int.not_lt.mp c35 | exact Decidable.not_not.mp c35
      show jGo E l 72 229 229 _ 43 [.inr (.inr (.inl 106)), .inl a1, .inl a2, .inr (.inr (.inl 2)), .inr (.inr (.inl 11)), .inl t23, .inr (.inr (.inr ())), .inr (.inr (.inr ()))] [.inl 0, .inl a1, .inr (.inr (.inl 108))] 229 jr0 g22
      refine jGo_blk qX0_write_43 ?_
      refine st_si jo_108 (show 0 ≤ a1 by omega) (show a1 < ((1 : Nat) : Int) by omega) (fun hx => (jba_108 _ _).2 (show 0 ≤ 0 ∧ 0 ≤ 200 by omega)) (fun g44 eg44 => ?_)
      replace eg44 : g44 = jup g22 108 a1 0 := eg44
      have fg44 : jfr w_X0_write_106 h g44 := jfr_up fg22 eg44 (by unfold w_X0_write_106; omega)
      have e45 : g44 108 a1 = 0 := jup_s eg44
      refine st_gr jo_106 jr_106_2 ?_
      refine st_si jo_109 (show 0 ≤ a1 by omega) (show a1 < ((1 : Nat) : Int) by omega) (fun hx => (jba_109 _ _).2 hx) (fun g46 eg46 => ?_)
      replace eg46 : g46 = jup g44 109 a1 0 := eg46
      have fg46 : jfr w_X0_write_106 h g46 := jfr_up fg44 eg46 (by unfold w_X0_write_106; omega)
      have e47 : g46 109 a1 = 0 := jup_s eg46
      refine st_gr jo_106 jr_106_3 ?_
      refine st_si jo_110 (show 0 ≤ a1 by omega) (show a1 < ((1 : Nat) : Int) by omega) (fun hx => (jba_110 _ _).2 hx) (fun g48 eg48 => ?_)
      replace eg48 : g48 = jup g46 110 a1 0 := eg48
      have fg48 : jfr w_X0_write_106 h g48 := jfr_up fg46 eg48 (by unfold w_X0_write_106; omega)
      have e49 : g48 110 a1 = 0 := jup_s eg48
      show jGo E l 72 229 229 _ 61 [.inr (.inr (.inl 106)), .inl a1, .inl a2, .inr (.inr (.inl 2)), .inr (.inr (.inl 11)), .inl t23, .inl 0, .inr (.inr (.inr ()))] [] 229 jr0 g48
      exact (key 1000000000000) t23 0 (.inr (.inr (.inr ()))) g48 (by omega) fg48 (by omega)
