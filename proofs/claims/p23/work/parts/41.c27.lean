def w_X12_goAhead (i k : Int) : Prop := (i = 181) ∨ (192 ≤ i ∧ i ≤ 200) ∨ (i = 202) ∨ (i = 176 ∧ k = 0) ∨ (i = 176 ∧ 30 ≤ k ∧ k ≤ 32)
def k_X12_goAhead (h : JH) (v : Option JV) (r' g : JH) : Prop := r' = jr0 ∧ jfr w_X12_goAhead h g ∧ v = none ∧ ((g 176 0 = h 176 0 + 300) ∧ g = jit jmPi 300 h)
set_option maxHeartbeats 4000000 in
theorem c_X12_goAhead {E : JE} {l : Launch} (h : JH) (q0 : h 176 0 ≤ 2000) : jMt E l 150 [.inr (.inr (.inl 176))] 229 jr0 h (k_X12_goAhead h) := by
  refine jMt0 (nL := 3) (ls := [.inr (.inr (.inl 176)), .inr (.inr (.inr ())), .inr (.inr (.inr ()))]) (by decide +kernel) (by decide +kernel) (by decide +kernel) rfl rfl ?_
  have f0 : jfr w_X12_goAhead h h := jfr_rf _ _
  have key : ∀ N : Nat, (∀ (x1 : Int) (x2 : JV) (g : JH), (0 ≤ x1 ∧ x1 ≤ 300) → (g 176 0 = h 176 0 + x1) → (g = jit jmPi (x1).toNat h) → jfr w_X12_goAhead h g → (300 - x1) < (N : Int) → jGo E l 150 229 229 (jRK (k_X12_goAhead h)) 2 [.inr (.inr (.inl 176)), .inl x1, x2] [] 229 jr0 g) := by
    intro N
    induction N with
    | zero => exact fun _ _ _ hi hx0 hx1 _ hN => absurd hN (by omega)
    | succ N ih =>
      intro x1 x2 g hi hx0 hx1 hf hN
      refine jGo_blk qX12_goAhead_2 ?_
      refine And.intro (fun c1 => ?_) (fun c1 => ?_)
      · replace c1 : 300 ≤ x1 := c1
        show jGo E l 150 229 229 _ 20 [.inr (.inr (.inl 176)), .inl x1, x2] [] 229 jr0 g
        refine jGo_blk qX12_goAhead_20 ?_
        exact ⟨rfl, rfl, hf, rfl, (by refine ⟨by omega, ?_⟩; rw [hx1, show x1 = 300 by omega, jtn300])⟩
      · replace c1 : x1 < 300 := by first | exact c1 | exact Int.not_le.mp c1 | exact Int.not_lt.mp c1 | exact Decidable.not_not.mp c1
        refine st_cv (na := 0) (st := [.inr (.inr (.inl 176))]) jo_176 rfl rfl rfl (c_X12_pass g (by omega)) rfl ?_
        rintro _ _ g3 ⟨rfl, ft2, t2, rfl, ht2, zt2⟩ kt2
        replace kt2 : -2147483648 ≤ t2 ∧ t2 ≤ 2147483647 := kt2
        have fg3 : jfr w_X12_goAhead h g3 := jfr_tr hf ft2 (fun i k q => by unfold w_X12_pass at q; unfold w_X12_goAhead; omega)
        replace zt2 : (g3 176 0 = g 176 0 + 1) ∧ g3 = jmPs g := zt2
        have y4 := zt2.2
        have e5 : jw32 (x1 + 1) = x1 + 1 := j32e (by omega) (by omega)
        show jGo E l 150 229 229 _ 2 [.inr (.inr (.inl 176)), .inl (jw32 (x1 + 1)), .inl t2] [] 229 jr0 g3
        exact ih (jw32 (x1 + 1)) (.inl t2) g3 (by omega) (by omega) (by rw [show jw32 (x1 + 1) = x1 + 1 by omega, jit_s (by omega), ← hx1]; exact y4) fg3 (by omega)
  refine jGo_blk qX12_goAhead_0 ?_
  show jGo E l 150 229 229 _ 2 [.inr (.inr (.inl 176)), .inl 0, .inr (.inr (.inr ()))] [] 229 jr0 h
  exact (key 1000000000000) 0 (.inr (.inr (.inr ()))) h (by omega) (by omega) (by rfl) f0 (by omega)

def w_X12_ready (i k : Int) : Prop := (i = 181) ∨ (i = 190) ∨ (192 ≤ i ∧ i ≤ 200) ∨ (i = 202) ∨ (i = 219) ∨ (224 ≤ i ∧ i ≤ 225) ∨ (i = 176 ∧ k = 0) ∨ (i = 176 ∧ 30 ≤ k ∧ k ≤ 32)
def k_X12_ready (a1 : Int) (h : JH) (v : Option JV) (r' g : JH) : Prop := r' = jr0 ∧ jfr w_X12_ready h g ∧ ∃ x : Int, v = some (.inl x) ∧ (True) ∧ ((g 176 0 = h 176 0) ∧ ∀ L k : Int, jlv L k → g L k = h L k)
set_option maxHeartbeats 4000000 in
theorem c_X12_ready {E : JE} {l : Launch} (a1 : Int) (h : JH) (q0 : h 176 0 ≤ 2000) : jMt E l 151 [.inr (.inr (.inl 176)), .inl a1] 229 jr0 h (k_X12_ready a1 h) := by
  refine jMt0 (nL := 3) (ls := [.inr (.inr (.inl 176)), .inl a1, .inr (.inr (.inr ()))]) (by decide +kernel) (by decide +kernel) (by decide +kernel) rfl rfl ?_
  have f0 : jfr w_X12_ready h h := jfr_rf _ _
  refine jGo_bd (fun hbd => ?_)
  have hb9 : ∀ k : Int, 0 ≤ k → k < 16 → h 196 k = 0 ∨ h 196 k = 1 := fun k _ _ => by have := (jba_196 k _).1 (hbd 196 k); omega
  refine jGo_blk qX12_ready_0 ?_
  refine st_cv (na := 1) (st := [.inl a1, .inr (.inr (.inl 176))]) jo_176 rfl rfl rfl (c_X12_isHull a1 h) rfl ?_
  rintro _ _ _ ⟨rfl, rfl, t1, rfl, ht1, zt1⟩ kt1
  replace kt1 : -2147483648 ≤ t1 ∧ t1 ≤ 2147483647 := kt1
  replace ht1 : 0 ≤ t1 ∧ t1 ≤ 1 := ht1
  replace zt1 : (t1 = 1 ∧ 0 ≤ a1 ∧ a1 < h 176 14 ∧ h 176 14 ≤ 16) ∨ (t1 = 0 ∧ ¬ (0 ≤ a1 ∧ a1 < h 176 14)) := zt1
  refine And.intro (fun c3 => ?_) (fun c3 => ?_)
  · replace c3 : ¬ t1 = 0 := c3
    show jGo E l 151 229 229 _ 14 [.inr (.inr (.inl 176)), .inl a1, .inr (.inr (.inr ()))] [] 229 jr0 h
    refine jGo_blk qX12_ready_14 ?_
    refine st_gr jo_176 jr_176_18 ?_
    refine st_ai jo_192 (show 0 ≤ a1 by omega) (show a1 < ((16 : Nat) : Int) by omega) (fun v4 ev4 b5 => ?_)
    replace ev4 : v4 = h 192 a1 := ev4
    replace b5 := (jba_192 a1 _).1 b5
    refine And.intro (fun c6 => ?_) (fun c6 => ?_)
    · replace c6 : ¬ v4 = 3 := c6
      show jGo E l 151 229 229 _ 31 [.inr (.inr (.inl 176)), .inl a1, .inr (.inr (.inr ()))] [] 229 jr0 h
      refine jGo_blk qX12_ready_31 ?_
      refine st_gr jo_176 jr_176_18 ?_
      refine st_ai jo_192 (show 0 ≤ a1 by omega) (show a1 < ((16 : Nat) : Int) by omega) (fun v7 ev7 b8 => ?_)
      replace ev7 : v7 = h 192 a1 := ev7
      replace b8 := (jba_192 a1 _).1 b8
      refine And.intro (fun c9 => ?_) (fun c9 => ?_)
      · replace c9 : ¬ v7 = 2 := c9
        show jGo E l 151 229 229 _ 48 [.inr (.inr (.inl 176)), .inl a1, .inr (.inr (.inr ()))] [] 229 jr0 h
        refine jGo_blk qX12_ready_48 ?_
        refine st_cv (na := 1) (st := [.inl 0, .inr (.inr (.inl 176))]) jo_176 rfl rfl rfl (c_X12_aside 0 h (by omega)) rfl ?_
        rintro _ _ g11 ⟨rfl, ft10, rfl, zt10⟩ kt10
        have fg11 : jfr w_X12_ready h g11 := jfr_tr f0 ft10 (fun i k q => by unfold w_X12_aside at q; unfold w_X12_ready; omega)
        replace zt10 : (((0 : Int) = 0 → g11 224 0 = h 176 0 ∧ g11 176 0 = h 176 0) ∧ (¬ (0 : Int) = 0 → g11 176 0 = h 224 0)) ∧ g11 = jAs (0 : Int) h := zt10
        have y12 := zt10.2
        refine st_cv (na := 0) (st := [.inr (.inr (.inl 176))]) jo_176 rfl rfl rfl (c_X12_goAhead g11 (by omega)) rfl ?_
        rintro _ _ g14 ⟨rfl, ft13, rfl, zt13⟩ kt13
        have fg14 : jfr w_X12_ready h g14 := jfr_tr fg11 ft13 (fun i k q => by unfold w_X12_goAhead at q; unfold w_X12_ready; omega)
        replace zt13 : (g14 176 0 = g11 176 0 + 300) ∧ g14 = jit jmPi 300 g11 := zt13
        have e15 : g14 224 0 = g11 224 0 := ft13 224 0 (by unfold w_X12_goAhead; omega)
        refine st_gr jo_176 jr_176_24 ?_
        refine st_ai jo_198 (show 0 ≤ a1 by omega) (show a1 < ((16 : Nat) : Int) by omega) (fun v16 ev16 b17 => ?_)
        replace ev16 : v16 = g14 198 a1 := ev16
        replace b17 := (jba_198 a1 _).1 b17
        refine st_cv (na := 1) (st := [.inl 1, .inr (.inr (.inl 176))]) jo_176 rfl rfl rfl (c_X12_aside 1 g14 (by omega)) rfl ?_
        rintro _ _ g19 ⟨rfl, ft18, rfl, zt18⟩ kt18
        have fg19 : jfr w_X12_ready h g19 := jfr_tr fg14 ft18 (fun i k q => by unfold w_X12_aside at q; unfold w_X12_ready; omega)
        replace zt18 : (((1 : Int) = 0 → g19 224 0 = g14 176 0 ∧ g19 176 0 = g14 176 0) ∧ (¬ (1 : Int) = 0 → g19 176 0 = g14 224 0)) ∧ g19 = jAs (1 : Int) g14 := zt18
        have y20 := zt18.2
        have hc21 : ∀ L k : Int, jlv L k → g19 L k = h L k := by
          have s9 := (jAs_save hb9).1
          rw [← show g11 = jAs 0 h from zt10.2] at s9
          have s8 : jSav h g14 := jSav_fr (fun a c q1 q2 => ft13 a c (by unfold w_X12_goAhead; omega)) s9
          rw [show g19 = jAs 1 g14 from zt18.2]
          exact (jAs_rest (by decide) s8).1
        exact st_r0 (ls := []) ⟨rfl, rfl, fg19, v16, rfl, trivial, (by exact ⟨by omega, hc21⟩)⟩
      · replace c9 : v7 = 2 := by first | exact c9 | exact Int.not_le.mp c9 | exact Int.not_lt.mp c9 | exact Decidable.not_not.mp c9
        refine st_gr jo_176 jr_176_24 ?_
        refine st_ai jo_198 (show 0 ≤ a1 by omega) (show a1 < ((16 : Nat) : Int) by omega) (fun v22 ev22 b23 => ?_)
        replace ev22 : v22 = h 198 a1 := ev22
        replace b23 := (jba_198 a1 _).1 b23
        have hc24 : ∀ L k : Int, jlv L k → h L k = h L k := fun L k q => by have q9 := jlv_o q; exact rfl
        exact st_r0 (ls := []) ⟨rfl, rfl, f0, v22, rfl, trivial, (by exact ⟨by omega, hc24⟩)⟩
    · replace c6 : v4 = 3 := by first | exact c6 | exact Int.not_le.mp c6 | exact Int.not_lt.mp c6 | exact Decidable.not_not.mp c6
      refine st_cv (na := 1) (st := [.inl (-3), .inr (.inr (.inl 176))]) jo_176 rfl rfl rfl (c_X12_refuse (-3) h (by omega)) rfl ?_
      rintro _ _ g26 ⟨rfl, ft25, t25, rfl, ht25, zt25⟩ kt25
      replace kt25 : -2147483648 ≤ t25 ∧ t25 ≤ 2147483647 := kt25
      replace ht25 : -7 ≤ t25 ∧ t25 ≤ -1 := ht25
      have fg26 : jfr w_X12_ready h g26 := jfr_tr f0 ft25 (fun i k q => by unfold w_X12_refuse at q; unfold w_X12_ready; omega)
      replace zt25 : t25 = (-3 : Int) := zt25
      have e27 : g26 176 0 = h 176 0 := ft25 176 0 (by unfold w_X12_refuse; omega)
      have hc28 : ∀ L k : Int, jlv L k → g26 L k = h L k := fun L k q => by have q9 := jlv_o q; exact (ft25 L k (by unfold w_X12_refuse; omega))
      exact st_r0 (ls := []) ⟨rfl, rfl, fg26, t25, rfl, trivial, (by exact ⟨by omega, hc28⟩)⟩
  · replace c3 : t1 = 0 := by first | exact c3 | exact Int.not_le.mp c3 | exact Int.not_lt.mp c3 | exact Decidable.not_not.mp c3
    refine st_cv (na := 1) (st := [.inl (-1), .inr (.inr (.inl 176))]) jo_176 rfl rfl rfl (c_X12_refuse (-1) h (by omega)) rfl ?_
    rintro _ _ g30 ⟨rfl, ft29, t29, rfl, ht29, zt29⟩ kt29
    replace kt29 : -2147483648 ≤ t29 ∧ t29 ≤ 2147483647 := kt29
    replace ht29 : -7 ≤ t29 ∧ t29 ≤ -1 := ht29
    have fg30 : jfr w_X12_ready h g30 := jfr_tr f0 ft29 (fun i k q => by unfold w_X12_refuse at q; unfold w_X12_ready; omega)
    replace zt29 : t29 = (-1 : Int) := zt29
    have e31 : g30 176 0 = h 176 0 := ft29 176 0 (by unfold w_X12_refuse; omega)
    have hc32 : ∀ L k : Int, jlv L k → g30 L k = h L k := fun L k q => by have q9 := jlv_o q; exact (ft29 L k (by unfold w_X12_refuse; omega))
    exact st_r0 (ls := []) ⟨rfl, rfl, fg30, t29, rfl, trivial, (by exact ⟨by omega, hc32⟩)⟩

def k_X11_lateness (a0 : Int) (a1 : Int) (a2 : Int) (h : JH) (v : Option JV) (r' g : JH) : Prop := r' = jr0 ∧ h = g ∧ ∃ x : Int, v = some (.inl x) ∧ (True) ∧ (True)
set_option maxHeartbeats 4000000 in
theorem c_X11_lateness {E : JE} {l : Launch} (a0 : Int) (a1 : Int) (a2 : Int) (h : JH) : jMt E l 152 [.inl a0, .inl a1, .inl a2] 229 jr0 h (k_X11_lateness a0 a1 a2 h) := by
  refine jMt0 (nL := 4) (ls := [.inl a0, .inl a1, .inl a2, .inr (.inr (.inr ()))]) (by decide +kernel) (by decide +kernel) (by decide +kernel) rfl rfl ?_
  refine jGo_blk qX11_lateness_0 ?_
  refine And.intro (fun c1 => ?_) (fun c1 => ?_)
  · replace c1 : ¬ a0 = (-9) := c1
    show jGo E l 152 229 229 _ 16 [.inl a0, .inl a1, .inl a2, .inr (.inr (.inr ()))] [] 229 jr0 h
    refine jGo_blk qX11_lateness_16 ?_
    show jGo E l 152 229 229 _ 17 [.inl a0, .inl a1, .inl a2, .inr (.inr (.inr ()))] [.inl a0] 229 jr0 h
    refine jGo_blk qX11_lateness_17 ?_
    refine st_m1 rfl (fun v2 m1v2 m2v2 m3v2 => ?_)
    replace m1v2 : v2 ≥ 0 := m1v2; replace m2v2 : v2 ≥ jw32 (a0 - a1) := m2v2; replace m3v2 : v2 = 0 ∨ v2 = jw32 (a0 - a1) := m3v2
    exact st_r0 (ls := []) ⟨rfl, rfl, rfl, v2, rfl, trivial, trivial⟩
  · replace c1 : a0 = (-9) := by first | exact c1 | exact Int.not_le.mp c1 | exact Int.not_lt.mp c1 | exact Decidable.not_not.mp c1
    show jGo E l 152 229 229 _ 17 [.inl a0, .inl a1, .inl a2, .inr (.inr (.inr ()))] [.inl (jw32 ((jw32 (a2 + 300)) + 1))] 229 jr0 h
    refine jGo_blk qX11_lateness_17 ?_
    refine st_m1 rfl (fun v3 m1v3 m2v3 m3v3 => ?_)
    replace m1v3 : v3 ≥ 0 := m1v3; replace m2v3 : v3 ≥ jw32 ((jw32 ((jw32 (a2 + 300)) + 1)) - a1) := m2v3; replace m3v3 : v3 = 0 ∨ v3 = jw32 ((jw32 ((jw32 (a2 + 300)) + 1)) - a1) := m3v3
    exact st_r0 (ls := []) ⟨rfl, rfl, rfl, v3, rfl, trivial, trivial⟩

def w_X11_late (i k : Int) : Prop := (i = 1) ∨ (i = 15) ∨ (i = 34) ∨ (114 ≤ i ∧ i ≤ 118) ∨ (120 ≤ i ∧ i ≤ 121) ∨ (124 ≤ i ∧ i ≤ 174) ∨ (i = 11 ∧ k = 5) ∨ (i = 29 ∧ k = 6) ∨ (i = 111 ∧ k = 3) ∨ (i = 111 ∧ 9 ≤ k ∧ k ≤ 10) ∨ (i = 119 ∧ 6 ≤ k ∧ k ≤ 10)
def k_X11_late (a1 : Int) (h : JH) (v : Option JV) (r' g : JH) : Prop := r' = jr0 ∧ jfr w_X11_late h g ∧ ∃ x : Int, v = some (.inl x) ∧ (True) ∧ (True)
set_option maxHeartbeats 4000000 in
theorem c_X11_late {E : JE} {l : Launch} (a1 : Int) (h : JH) : jMt E l 153 [.inr (.inr (.inl 0)), .inl a1] 229 jr0 h (k_X11_late a1 h) := by
  refine jMt0 (nL := 3) (ls := [.inr (.inr (.inl 0)), .inl a1, .inr (.inr (.inr ()))]) (by decide +kernel) (by decide +kernel) (by decide +kernel) rfl rfl ?_
  have f0 : jfr w_X11_late h h := jfr_rf _ _
  refine jGo_blk qX11_late_0 ?_
  refine st_cv (na := 1) (st := [.inl a1, .inr (.inr (.inl 0))]) jo_0 rfl rfl rfl (c_X11_isHull a1 h) rfl ?_
  rintro _ _ _ ⟨rfl, rfl, t1, rfl, ht1, zt1⟩ kt1
  replace kt1 : -2147483648 ≤ t1 ∧ t1 ≤ 2147483647 := kt1
  replace ht1 : 0 ≤ t1 ∧ t1 ≤ 1 := ht1
  replace zt1 : (t1 = 1 ∧ 0 ≤ a1 ∧ a1 < h 29 4 ∧ h 29 4 ≤ 16) ∨ (t1 = 0 ∧ ¬ (0 ≤ a1 ∧ a1 < h 29 4)) := zt1
  refine And.intro (fun c3 => ?_) (fun c3 => ?_)
  · replace c3 : ¬ t1 = 0 := c3
    show jGo E l 153 229 229 _ 12 [.inr (.inr (.inl 0)), .inl a1, .inr (.inr (.inr ()))] [] 229 jr0 h
    refine jGo_blk qX11_late_12 ?_
    refine st_gr jo_0 jr_0_5 ?_
    refine st_gr jo_29 jr_29_3 ?_
    refine st_ar jo_33 (by decide) (show 0 ≤ a1 by omega) (show a1 < ((16 : Nat) : Int) by omega) (fun u4 eu4 => ?_)
    replace eu4 : u4 = jr0 33 a1 := eu4
    have qu4 : u4 = 36 + 3 * a1 := eu4.trans (jhul_33 a1 (by omega) (by omega)).1
    have hu4 : jHl u4 := by rw [eu4]; exact (jhul_33 a1 (by omega) (by omega)).2
    refine st_cv (na := 0) (st := [.inr (.inr (.inl u4))]) hu4.1 rfl rfl rfl (c_X4_isUnderWay u4 h hu4) rfl ?_
    rintro _ _ _ ⟨rfl, rfl, t5, rfl, ht5, zt5⟩ kt5
    replace kt5 : -2147483648 ≤ t5 ∧ t5 ≤ 2147483647 := kt5
    replace ht5 : 0 ≤ t5 ∧ t5 ≤ 1 := ht5
    replace zt5 : (t5 = 1 ∧ (h u4 3 = 0 ∨ h u4 3 = 1)) ∨ (t5 = 0 ∧ ¬ (h u4 3 = 0 ∨ h u4 3 = 1)) := zt5
    refine And.intro (fun c7 => ?_) (fun c7 => ?_)
    · replace c7 : ¬ t5 = 0 := c7
      show jGo E l 153 229 229 _ 32 [.inr (.inr (.inl 0)), .inl a1, .inr (.inr (.inr ()))] [] 229 jr0 h
      refine jGo_blk qX11_late_32 ?_
      show jGo E l 153 229 229 _ 33 [.inr (.inr (.inl 0)), .inl a1, .inr (.inr (.inr ()))] [.inl 0] 229 jr0 h
      refine jGo_blk qX11_late_33 ?_
      refine And.intro (fun c8 => ?_) (fun c8 => ?_)
      · replace c8 : (0 : Int) = 0 := c8
        show jGo E l 153 229 229 _ 44 [.inr (.inr (.inl 0)), .inl a1, .inl 0] [] 229 jr0 h
        refine jGo_blk qX11_late_44 ?_
        refine st_cv (na := 1) (st := [.inl a1, .inr (.inr (.inl 0))]) jo_0 rfl rfl rfl (c_X11_readyAhead a1 h (by omega)) rfl ?_
        rintro _ _ g10 ⟨rfl, ft9, t9, rfl, ht9, zt9⟩ kt9
        replace kt9 : -2147483648 ≤ t9 ∧ t9 ≤ 2147483647 := kt9
        have fg10 : jfr w_X11_late h g10 := jfr_tr f0 ft9 (fun i k q => by unfold w_X11_readyAhead at q; unfold w_X11_late; omega)
        refine st_gr jo_0 jr_0_5 ?_
        refine st_gr jo_29 jr_29_3 ?_
        refine st_ar jo_33 (by decide) (show 0 ≤ a1 by omega) (show a1 < ((16 : Nat) : Int) by omega) (fun u11 eu11 => ?_)
        replace eu11 : u11 = jr0 33 a1 := eu11
        have qu11 : u11 = 36 + 3 * a1 := eu11.trans (jhul_33 a1 (by omega) (by omega)).1
        have hu11 : jHl u11 := by rw [eu11]; exact (jhul_33 a1 (by omega) (by omega)).2
        refine st_gi hu11.1 (fun v12 ev12 b13 => ?_)
        replace ev12 : v12 = g10 u11 2 := ev12
        replace b13 := (jbf_4_2 hu11.1 _).1 b13
        refine st_gi jo_0 (fun v14 ev14 b15 => ?_)
        replace ev14 : v14 = g10 0 0 := ev14
        replace b15 := (jbf_11_0 jo_0 _).1 b15
        have e16 : g10 0 0 = h 0 0 := ft9 0 0 (by unfold w_X11_readyAhead; omega)
        refine st_cs (na := 3) (st := [.inl v14, .inl v12, .inl t9]) rfl rfl rfl (c_X11_lateness t9 v12 v14 g10) rfl ?_
        rintro _ _ _ ⟨rfl, rfl, t17, rfl, ht17, zt17⟩ kt17
        replace kt17 : -2147483648 ≤ t17 ∧ t17 ≤ 2147483647 := kt17
        exact st_r0 (ls := []) ⟨rfl, rfl, fg10, t17, rfl, trivial, trivial⟩
      · replace c8 : ¬ (0 : Int) = 0 := by first | exact c8 | exact Int.not_le.mp c8 | exact Int.not_lt.mp c8 | exact Decidable.not_not.mp c8
        exfalso; omega
    · replace c7 : t5 = 0 := by first | exact c7 | exact Int.not_le.mp c7 | exact Int.not_lt.mp c7 | exact Decidable.not_not.mp c7
      show jGo E l 153 229 229 _ 33 [.inr (.inr (.inl 0)), .inl a1, .inr (.inr (.inr ()))] [.inl (-3)] 229 jr0 h
      refine jGo_blk qX11_late_33 ?_
      refine And.intro (fun c19 => ?_) (fun c19 => ?_)
      · replace c19 : (-3 : Int) = 0 := c19
        exfalso; omega
      · replace c19 : ¬ (-3 : Int) = 0 := by first | exact c19 | exact Int.not_le.mp c19 | exact Int.not_lt.mp c19 | exact Decidable.not_not.mp c19
        refine st_cv (na := 1) (st := [.inl (-3), .inr (.inr (.inl 0))]) jo_0 rfl rfl rfl (c_X11_refused (-3) h (by omega)) rfl ?_
        rintro _ _ g21 ⟨rfl, ft20, t20, rfl, ht20, zt20⟩ kt20
        replace kt20 : -2147483648 ≤ t20 ∧ t20 ≤ 2147483647 := kt20
        replace ht20 : -7 ≤ t20 ∧ t20 ≤ -1 := ht20
        have fg21 : jfr w_X11_late h g21 := jfr_tr f0 ft20 (fun i k q => by unfold w_X11_refused at q; unfold w_X11_late; omega)
        replace zt20 : t20 = (-3 : Int) := zt20
        exact st_r0 (ls := []) ⟨rfl, rfl, fg21, t20, rfl, trivial, trivial⟩
  · replace c3 : t1 = 0 := by first | exact c3 | exact Int.not_le.mp c3 | exact Int.not_lt.mp c3 | exact Decidable.not_not.mp c3
    show jGo E l 153 229 229 _ 33 [.inr (.inr (.inl 0)), .inl a1, .inr (.inr (.inr ()))] [.inl (-1)] 229 jr0 h
    refine jGo_blk qX11_late_33 ?_
    refine And.intro (fun c22 => ?_) (fun c22 => ?_)
    · replace c22 : (-1 : Int) = 0 := c22
      exfalso; omega
    · replace c22 : ¬ (-1 : Int) = 0 := by first | exact c22 | exact Int.not_le.mp c22 | exact Int.not_lt.mp c22 | exact Decidable.not_not.mp c22
      refine st_cv (na := 1) (st := [.inl (-1), .inr (.inr (.inl 0))]) jo_0 rfl rfl rfl (c_X11_refused (-1) h (by omega)) rfl ?_
      rintro _ _ g24 ⟨rfl, ft23, t23, rfl, ht23, zt23⟩ kt23
      replace kt23 : -2147483648 ≤ t23 ∧ t23 ≤ 2147483647 := kt23
      replace ht23 : -7 ≤ t23 ∧ t23 ≤ -1 := ht23
      have fg24 : jfr w_X11_late h g24 := jfr_tr f0 ft23 (fun i k q => by unfold w_X11_refused at q; unfold w_X11_late; omega)
      replace zt23 : t23 = (-1 : Int) := zt23
      exact st_r0 (ls := []) ⟨rfl, rfl, fg24, t23, rfl, trivial, trivial⟩

def k_X12_lateBy (a0 : Int) (a1 : Int) (a2 : Int) (h : JH) (v : Option JV) (r' g : JH) : Prop := r' = jr0 ∧ h = g ∧ ∃ x : Int, v = some (.inl x) ∧ (True) ∧ (True)
set_option maxHeartbeats 4000000 in
theorem c_X12_lateBy {E : JE} {l : Launch} (a0 : Int) (a1 : Int) (a2 : Int) (h : JH) : jMt E l 154 [.inl a0, .inl a1, .inl a2] 229 jr0 h (k_X12_lateBy a0 a1 a2 h) := by
  refine jMt0 (nL := 4) (ls := [.inl a0, .inl a1, .inl a2, .inr (.inr (.inr ()))]) (by decide +kernel) (by decide +kernel) (by decide +kernel) rfl rfl ?_
  refine jGo_blk qX12_lateBy_0 ?_
  refine And.intro (fun c1 => ?_) (fun c1 => ?_)
  · replace c1 : 0 ≤ a0 := c1
    show jGo E l 154 229 229 _ 12 [.inl a0, .inl a1, .inl a2, .inr (.inr (.inr ()))] [] 229 jr0 h
    refine jGo_blk qX12_lateBy_12 ?_
    show jGo E l 154 229 229 _ 13 [.inl a0, .inl a1, .inl a2, .inr (.inr (.inr ()))] [.inl a0] 229 jr0 h
    refine jGo_blk qX12_lateBy_13 ?_
    refine And.intro (fun c2 => ?_) (fun c2 => ?_)
    · replace c2 : jw32 (a0 - a2) ≤ 0 := c2
      show jGo E l 154 229 229 _ 24 [.inl a0, .inl a1, .inl a2, .inl (jw32 (a0 - a2))] [] 229 jr0 h
      refine jGo_blk qX12_lateBy_24 ?_
      show jGo E l 154 229 229 _ 25 [.inl a0, .inl a1, .inl a2, .inl (jw32 (a0 - a2))] [.inl 0] 229 jr0 h
      refine jGo_blk qX12_lateBy_25 ?_
      exact st_r0 (ls := []) ⟨rfl, rfl, rfl, 0, rfl, trivial, trivial⟩
    · replace c2 : 0 < jw32 (a0 - a2) := by first | exact c2 | exact Int.not_le.mp c2 | exact Int.not_lt.mp c2 | exact Decidable.not_not.mp c2
      show jGo E l 154 229 229 _ 25 [.inl a0, .inl a1, .inl a2, .inl (jw32 (a0 - a2))] [.inl (jw32 (a0 - a2))] 229 jr0 h
      refine jGo_blk qX12_lateBy_25 ?_
      exact st_r0 (ls := []) ⟨rfl, rfl, rfl, jw32 (a0 - a2), rfl, trivial, trivial⟩
  · replace c1 : a0 < 0 := by first | exact c1 | exact Int.not_le.mp c1 | exact Int.not_lt.mp c1 | exact Decidable.not_not.mp c1
    show jGo E l 154 229 229 _ 13 [.inl a0, .inl a1, .inl a2, .inr (.inr (.inr ()))] [.inl (jw32 (a1 + 301))] 229 jr0 h
    refine jGo_blk qX12_lateBy_13 ?_
    refine And.intro (fun c3 => ?_) (fun c3 => ?_)
    · replace c3 : jw32 ((jw32 (a1 + 301)) - a2) ≤ 0 := c3
      show jGo E l 154 229 229 _ 24 [.inl a0, .inl a1, .inl a2, .inl (jw32 ((jw32 (a1 + 301)) - a2))] [] 229 jr0 h
      refine jGo_blk qX12_lateBy_24 ?_
      show jGo E l 154 229 229 _ 25 [.inl a0, .inl a1, .inl a2, .inl (jw32 ((jw32 (a1 + 301)) - a2))] [.inl 0] 229 jr0 h
      refine jGo_blk qX12_lateBy_25 ?_
      exact st_r0 (ls := []) ⟨rfl, rfl, rfl, 0, rfl, trivial, trivial⟩
    · replace c3 : 0 < jw32 ((jw32 (a1 + 301)) - a2) := by first | exact c3 | exact Int.not_le.mp c3 | exact Int.not_lt.mp c3 | exact Decidable.not_not.mp c3
      show jGo E l 154 229 229 _ 25 [.inl a0, .inl a1, .inl a2, .inl (jw32 ((jw32 (a1 + 301)) - a2))] [.inl (jw32 ((jw32 (a1 + 301)) - a2))] 229 jr0 h
      refine jGo_blk qX12_lateBy_25 ?_
      exact st_r0 (ls := []) ⟨rfl, rfl, rfl, jw32 ((jw32 (a1 + 301)) - a2), rfl, trivial, trivial⟩

def w_X12_late (i k : Int) : Prop := (i = 181) ∨ (i = 190) ∨ (192 ≤ i ∧ i ≤ 200) ∨ (i = 202) ∨ (i = 219) ∨ (224 ≤ i ∧ i ≤ 225) ∨ (i = 176 ∧ k = 0) ∨ (i = 176 ∧ 30 ≤ k ∧ k ≤ 32)
def k_X12_late (a1 : Int) (h : JH) (v : Option JV) (r' g : JH) : Prop := r' = jr0 ∧ jfr w_X12_late h g ∧ ∃ x : Int, v = some (.inl x) ∧ (True) ∧ ((g 176 0 = h 176 0) ∧ ∀ L k : Int, jlv L k → g L k = h L k)
set_option maxHeartbeats 4000000 in
theorem c_X12_late {E : JE} {l : Launch} (a1 : Int) (h : JH) (q0 : h 176 0 ≤ 2000) : jMt E l 155 [.inr (.inr (.inl 176)), .inl a1] 229 jr0 h (k_X12_late a1 h) := by
  refine jMt0 (nL := 4) (ls := [.inr (.inr (.inl 176)), .inl a1, .inr (.inr (.inr ())), .inr (.inr (.inr ()))]) (by decide +kernel) (by decide +kernel) (by decide +kernel) rfl rfl ?_
  have f0 : jfr w_X12_late h h := jfr_rf _ _
  refine jGo_bd (fun hbd => ?_)
  have hb9 : ∀ k : Int, 0 ≤ k → k < 16 → h 196 k = 0 ∨ h 196 k = 1 := fun k _ _ => by have := (jba_196 k _).1 (hbd 196 k); omega
  refine jGo_blk qX12_late_0 ?_
  refine st_cv (na := 1) (st := [.inl a1, .inr (.inr (.inl 176))]) jo_176 rfl rfl rfl (c_X12_isHull a1 h) rfl ?_
  rintro _ _ _ ⟨rfl, rfl, t1, rfl, ht1, zt1⟩ kt1
  replace kt1 : -2147483648 ≤ t1 ∧ t1 ≤ 2147483647 := kt1
  replace ht1 : 0 ≤ t1 ∧ t1 ≤ 1 := ht1
  replace zt1 : (t1 = 1 ∧ 0 ≤ a1 ∧ a1 < h 176 14 ∧ h 176 14 ≤ 16) ∨ (t1 = 0 ∧ ¬ (0 ≤ a1 ∧ a1 < h 176 14)) := zt1
  refine And.intro (fun c3 => ?_) (fun c3 => ?_)
  · replace c3 : ¬ t1 = 0 := c3
    show jGo E l 155 229 229 _ 14 [.inr (.inr (.inl 176)), .inl a1, .inr (.inr (.inr ())), .inr (.inr (.inr ()))] [] 229 jr0 h
    refine jGo_blk qX12_late_14 ?_
    refine st_gr jo_176 jr_176_18 ?_
    refine st_ai jo_192 (show 0 ≤ a1 by omega) (show a1 < ((16 : Nat) : Int) by omega) (fun v4 ev4 b5 => ?_)
    replace ev4 : v4 = h 192 a1 := ev4
    replace b5 := (jba_192 a1 _).1 b5
    refine And.intro (fun c6 => ?_) (fun c6 => ?_)
    · replace c6 : v4 ≤ 1 := c6
      show jGo E l 155 229 229 _ 31 [.inr (.inr (.inl 176)), .inl a1, .inr (.inr (.inr ())), .inr (.inr (.inr ()))] [] 229 jr0 h
      refine jGo_blk qX12_late_31 ?_
      refine st_cv (na := 1) (st := [.inl 0, .inr (.inr (.inl 176))]) jo_176 rfl rfl rfl (c_X12_aside 0 h (by omega)) rfl ?_
      rintro _ _ g8 ⟨rfl, ft7, rfl, zt7⟩ kt7
      have fg8 : jfr w_X12_late h g8 := jfr_tr f0 ft7 (fun i k q => by unfold w_X12_aside at q; unfold w_X12_late; omega)
      replace zt7 : (((0 : Int) = 0 → g8 224 0 = h 176 0 ∧ g8 176 0 = h 176 0) ∧ (¬ (0 : Int) = 0 → g8 176 0 = h 224 0)) ∧ g8 = jAs (0 : Int) h := zt7
      have y9 := zt7.2
      refine st_gi jo_176 (fun v10 ev10 b11 => ?_)
      replace ev10 : v10 = g8 176 0 := ev10
      replace b11 := (jbf_12_0 jo_176 _).1 b11
      refine st_cv (na := 0) (st := [.inr (.inr (.inl 176))]) jo_176 rfl rfl rfl (c_X12_goAhead g8 (by omega)) rfl ?_
      rintro _ _ g13 ⟨rfl, ft12, rfl, zt12⟩ kt12
      have fg13 : jfr w_X12_late h g13 := jfr_tr fg8 ft12 (fun i k q => by unfold w_X12_goAhead at q; unfold w_X12_late; omega)
      replace zt12 : (g13 176 0 = g8 176 0 + 300) ∧ g13 = jit jmPi 300 g8 := zt12
      have e14 : g13 224 0 = g8 224 0 := ft12 224 0 (by unfold w_X12_goAhead; omega)
      refine st_gr jo_176 jr_176_24 ?_
      refine st_ai jo_198 (show 0 ≤ a1 by omega) (show a1 < ((16 : Nat) : Int) by omega) (fun v15 ev15 b16 => ?_)
      replace ev15 : v15 = g13 198 a1 := ev15
      replace b16 := (jba_198 a1 _).1 b16
      refine st_gr jo_176 jr_176_17 ?_
      refine st_ai jo_191 (show 0 ≤ a1 by omega) (show a1 < ((16 : Nat) : Int) by omega) (fun v17 ev17 b18 => ?_)
      replace ev17 : v17 = g13 191 a1 := ev17
      replace b18 := (jba_191 a1 _).1 b18
      refine st_cs (na := 3) (st := [.inl v17, .inl v10, .inl v15]) rfl rfl rfl (c_X12_lateBy v15 v10 v17 g13) rfl ?_
      rintro _ _ _ ⟨rfl, rfl, t19, rfl, ht19, zt19⟩ kt19
      replace kt19 : -2147483648 ≤ t19 ∧ t19 ≤ 2147483647 := kt19
      refine st_cv (na := 1) (st := [.inl 1, .inr (.inr (.inl 176))]) jo_176 rfl rfl rfl (c_X12_aside 1 g13 (by omega)) rfl ?_
      rintro _ _ g22 ⟨rfl, ft21, rfl, zt21⟩ kt21
      have fg22 : jfr w_X12_late h g22 := jfr_tr fg13 ft21 (fun i k q => by unfold w_X12_aside at q; unfold w_X12_late; omega)
      replace zt21 : (((1 : Int) = 0 → g22 224 0 = g13 176 0 ∧ g22 176 0 = g13 176 0) ∧ (¬ (1 : Int) = 0 → g22 176 0 = g13 224 0)) ∧ g22 = jAs (1 : Int) g13 := zt21
      have y23 := zt21.2
      have hc24 : ∀ L k : Int, jlv L k → g22 L k = h L k := by
        have s9 := (jAs_save hb9).1
        rw [← show g8 = jAs 0 h from zt7.2] at s9
        have s8 : jSav h g13 := jSav_fr (fun a c q1 q2 => ft12 a c (by unfold w_X12_goAhead; omega)) s9
        rw [show g22 = jAs 1 g13 from zt21.2]
        exact (jAs_rest (by decide) s8).1
      exact st_r0 (ls := []) ⟨rfl, rfl, fg22, t19, rfl, trivial, (by exact ⟨by omega, hc24⟩)⟩
    · replace c6 : 1 < v4 := by first | exact c6 | exact Int.not_le.mp c6 | exact Int.not_lt.mp c6 | exact Decidable.not_not.mp c6
      refine st_cv (na := 1) (st := [.inl (-3), .inr (.inr (.inl 176))]) jo_176 rfl rfl rfl (c_X12_refuse (-3) h (by omega)) rfl ?_
      rintro _ _ g26 ⟨rfl, ft25, t25, rfl, ht25, zt25⟩ kt25
      replace kt25 : -2147483648 ≤ t25 ∧ t25 ≤ 2147483647 := kt25
      replace ht25 : -7 ≤ t25 ∧ t25 ≤ -1 := ht25
      have fg26 : jfr w_X12_late h g26 := jfr_tr f0 ft25 (fun i k q => by unfold w_X12_refuse at q; unfold w_X12_late; omega)
      replace zt25 : t25 = (-3 : Int) := zt25
      have e27 : g26 176 0 = h 176 0 := ft25 176 0 (by unfold w_X12_refuse; omega)
      have hc28 : ∀ L k : Int, jlv L k → g26 L k = h L k := fun L k q => by have q9 := jlv_o q; exact (ft25 L k (by unfold w_X12_refuse; omega))
      exact st_r0 (ls := []) ⟨rfl, rfl, fg26, t25, rfl, trivial, (by exact ⟨by omega, hc28⟩)⟩
  · replace c3 : t1 = 0 := by first | exact c3 | exact Int.not_le.mp c3 | exact Int.not_lt.mp c3 | exact Decidable.not_not.mp c3
    refine st_cv (na := 1) (st := [.inl (-1), .inr (.inr (.inl 176))]) jo_176 rfl rfl rfl (c_X12_refuse (-1) h (by omega)) rfl ?_
    rintro _ _ g30 ⟨rfl, ft29, t29, rfl, ht29, zt29⟩ kt29
    replace kt29 : -2147483648 ≤ t29 ∧ t29 ≤ 2147483647 := kt29
    replace ht29 : -7 ≤ t29 ∧ t29 ≤ -1 := ht29
    have fg30 : jfr w_X12_late h g30 := jfr_tr f0 ft29 (fun i k q => by unfold w_X12_refuse at q; unfold w_X12_late; omega)
    replace zt29 : t29 = (-1 : Int) := zt29
    have e31 : g30 176 0 = h 176 0 := ft29 176 0 (by unfold w_X12_refuse; omega)
    have hc32 : ∀ L k : Int, jlv L k → g30 L k = h L k := fun L k q => by have q9 := jlv_o q; exact (ft29 L k (by unfold w_X12_refuse; omega))
    exact st_r0 (ls := []) ⟨rfl, rfl, fg30, t29, rfl, trivial, (by exact ⟨by omega, hc32⟩)⟩

def k_X10_countOf_29 (a1 : Int) (h : JH) (v : Option JV) (r' g : JH) : Prop := r' = jr0 ∧ h = g ∧ ∃ x : Int, v = some (.inl x) ∧ (True) ∧ (True)
set_option maxHeartbeats 4000000 in
theorem c_X10_countOf_29 {E : JE} {l : Launch} (a1 : Int) (h : JH) : jMt E l 156 [.inr (.inr (.inl 29)), .inl a1] 229 jr0 h (k_X10_countOf_29 a1 h) := by
  refine jMt0 (nL := 4) (ls := [.inr (.inr (.inl 29)), .inl a1, .inr (.inr (.inr ())), .inr (.inr (.inr ()))]) (by decide +kernel) (by decide +kernel) (by decide +kernel) rfl rfl ?_
  have key : ∀ N : Nat, (∀ (x2 : Int) (x3 : Int), (0 ≤ x3 ∧ x3 ≤ 16) → (16 - x3) < (N : Int) → jGo E l 156 229 229 (jRK (k_X10_countOf_29 a1 h)) 4 [.inr (.inr (.inl 29)), .inl a1, .inl x2, .inl x3] [] 229 jr0 h) := by
    intro N
    induction N with
    | zero => exact fun _ _ hi hN => absurd hN (by omega)
    | succ N ih =>
      intro x2 x3 hi hN
      refine jGo_ok (fun hls _ => ?_)
      have rx2 : -2147483648 ≤ x2 ∧ x2 ≤ 2147483647 := hls (.inl x2) (by simp)
      refine jGo_blk qX10_countOf_4 ?_
      refine st_gi jo_29 (fun v1 ev1 b2 => ?_)
      replace ev1 : v1 = h 29 4 := ev1
      replace b2 := (jbf_10_4 jo_29 _).1 b2
      refine And.intro (fun c3 => ?_) (fun c3 => ?_)
      · replace c3 : v1 ≤ x3 := c3
        show jGo E l 156 229 229 _ 34 [.inr (.inr (.inl 29)), .inl a1, .inl x2, .inl x3] [] 229 jr0 h
        refine jGo_blk qX10_countOf_34 ?_
        exact st_r0 (ls := []) ⟨rfl, rfl, rfl, x2, rfl, trivial, trivial⟩
      · replace c3 : x3 < v1 := by first | exact c3 | exact Int.not_le.mp c3 | exact Int.not_lt.mp c3 | exact Decidable.not_not.mp c3
        refine st_gr jo_29 jr_29_3 ?_
        refine st_ar jo_33 (by decide) (show 0 ≤ x3 by omega) (show x3 < ((16 : Nat) : Int) by omega) (fun u4 eu4 => ?_)
        replace eu4 : u4 = jr0 33 x3 := eu4
        have qu4 : u4 = 36 + 3 * x3 := eu4.trans (jhul_33 x3 (by omega) (by omega)).1
        have hu4 : jHl u4 := by rw [eu4]; exact (jhul_33 x3 (by omega) (by omega)).2
        refine st_gi hu4.1 (fun v5 ev5 b6 => ?_)
        replace ev5 : v5 = h u4 3 := ev5
        replace b6 := (jbf_4_3 hu4.1 _).1 b6
        refine And.intro (fun c7 => ?_) (fun c7 => ?_)
        · replace c7 : ¬ v5 = a1 := c7
          show jGo E l 156 229 229 _ 28 [.inr (.inr (.inl 29)), .inl a1, .inl x2, .inl x3] [] 229 jr0 h
          refine jGo_blk qX10_countOf_28 ?_
          have e8 : jw32 (x3 + 1) = x3 + 1 := j32e (by omega) (by omega)
          show jGo E l 156 229 229 _ 4 [.inr (.inr (.inl 29)), .inl a1, .inl x2, .inl (jw32 (x3 + 1))] [] 229 jr0 h
          exact ih x2 (jw32 (x3 + 1)) (by omega) (by omega)
        · replace c7 : v5 = a1 := by first | exact c7 | exact Int.not_le.mp c7 | exact Int.not_lt.mp c7 | exact Decidable.not_not.mp c7
          show jGo E l 156 229 229 _ 28 [.inr (.inr (.inl 29)), .inl a1, .inl (jw32 (x2 + 1)), .inl x3] [] 229 jr0 h
          refine jGo_blk qX10_countOf_28 ?_
          have e9 : jw32 (x3 + 1) = x3 + 1 := j32e (by omega) (by omega)
          show jGo E l 156 229 229 _ 4 [.inr (.inr (.inl 29)), .inl a1, .inl (jw32 (x2 + 1)), .inl (jw32 (x3 + 1))] [] 229 jr0 h
          exact ih (jw32 (x2 + 1)) (jw32 (x3 + 1)) (by omega) (by omega)
  refine jGo_blk qX10_countOf_0 ?_
  show jGo E l 156 229 229 _ 4 [.inr (.inr (.inl 29)), .inl a1, .inl 0, .inl 0] [] 229 jr0 h
  exact (key 1000000000000) 0 0 (by omega) (by omega)

def w_X7_gatherByNumbers_29 (i k : Int) : Prop := (i = 175) ∨ (i = 111 ∧ k = 2)
def k_X7_gatherByNumbers_29 (h : JH) (v : Option JV) (r' g : JH) : Prop := r' = jr0 ∧ jfr w_X7_gatherByNumbers_29 h g ∧ v = none ∧ (True)
set_option maxHeartbeats 4000000 in
theorem c_X7_gatherByNumbers_29 {E : JE} {l : Launch} (h : JH) : jMt E l 157 [.inr (.inr (.inl 111)), .inr (.inr (.inl 29))] 229 jr0 h (k_X7_gatherByNumbers_29 h) := by
  refine jMt0 (nL := 3) (ls := [.inr (.inr (.inl 111)), .inr (.inr (.inl 29)), .inr (.inr (.inr ()))]) (by decide +kernel) (by decide +kernel) (by decide +kernel) rfl rfl ?_
  have f0 : jfr w_X7_gatherByNumbers_29 h h := jfr_rf _ _
  have key : ∀ N : Nat, (∀ (x2 : Int) (g : JH), (0 ≤ x2 ∧ x2 ≤ 16) → jfr w_X7_gatherByNumbers_29 h g → (16 - x2) < (N : Int) → jGo E l 157 229 229 (jRK (k_X7_gatherByNumbers_29 h)) 7 [.inr (.inr (.inl 111)), .inr (.inr (.inl 29)), .inl x2] [] 229 jr0 g) := by
    intro N
    induction N with
    | zero => exact fun _ _ hi _ hN => absurd hN (by omega)
    | succ N ih =>
      intro x2 g hi hf hN
      refine jGo_blk qX7_gatherByNumbers_7 ?_
      refine st_gi jo_29 (fun v1 ev1 b2 => ?_)
      replace ev1 : v1 = g 29 4 := ev1
      replace b2 := (jbf_10_4 jo_29 _).1 b2
      refine And.intro (fun c3 => ?_) (fun c3 => ?_)
      · replace c3 : v1 ≤ x2 := c3
        show jGo E l 157 229 229 _ 61 [.inr (.inr (.inl 111)), .inr (.inr (.inl 29)), .inl x2] [] 229 jr0 g
        refine jGo_blk qX7_gatherByNumbers_61 ?_
        exact ⟨rfl, rfl, hf, rfl, trivial⟩
      · replace c3 : x2 < v1 := by first | exact c3 | exact Int.not_le.mp c3 | exact Int.not_lt.mp c3 | exact Decidable.not_not.mp c3
        refine st_gi jo_111 (fun v4 ev4 b5 => ?_)
        replace ev4 : v4 = g 111 2 := ev4
        replace b5 := (jbf_7_2 jo_111 _).1 b5
        refine And.intro (fun c6 => ?_) (fun c6 => ?_)
        · replace c6 : 5 ≤ v4 := c6
          show jGo E l 157 229 229 _ 61 [.inr (.inr (.inl 111)), .inr (.inr (.inl 29)), .inl x2] [] 229 jr0 g
          refine jGo_blk qX7_gatherByNumbers_61 ?_
          exact ⟨rfl, rfl, hf, rfl, trivial⟩
        · replace c6 : v4 < 5 := by first | exact c6 | exact Int.not_le.mp c6 | exact Int.not_lt.mp c6 | exact Decidable.not_not.mp c6
          refine st_gr jo_29 jr_29_3 ?_
          refine st_ar jo_33 (by decide) (show 0 ≤ x2 by omega) (show x2 < ((16 : Nat) : Int) by omega) (fun u7 eu7 => ?_)
          replace eu7 : u7 = jr0 33 x2 := eu7
          have qu7 : u7 = 36 + 3 * x2 := eu7.trans (jhul_33 x2 (by omega) (by omega)).1
          have hu7 : jHl u7 := by rw [eu7]; exact (jhul_33 x2 (by omega) (by omega)).2
          refine st_cv (na := 0) (st := [.inr (.inr (.inl u7))]) hu7.1 rfl rfl rfl (c_X4_isUnderWay u7 g hu7) rfl ?_
          rintro _ _ _ ⟨rfl, rfl, t8, rfl, ht8, zt8⟩ kt8
          replace kt8 : -2147483648 ≤ t8 ∧ t8 ≤ 2147483647 := kt8
          replace ht8 : 0 ≤ t8 ∧ t8 ≤ 1 := ht8
          replace zt8 : (t8 = 1 ∧ (g u7 3 = 0 ∨ g u7 3 = 1)) ∨ (t8 = 0 ∧ ¬ (g u7 3 = 0 ∨ g u7 3 = 1)) := zt8
          refine And.intro (fun c10 => ?_) (fun c10 => ?_)
          · replace c10 : t8 = 0 := c10
            show jGo E l 157 229 229 _ 55 [.inr (.inr (.inl 111)), .inr (.inr (.inl 29)), .inl x2] [] 229 jr0 g
            refine jGo_blk qX7_gatherByNumbers_55 ?_
            have e11 : jw32 (x2 + 1) = x2 + 1 := j32e (by omega) (by omega)
            show jGo E l 157 229 229 _ 7 [.inr (.inr (.inl 111)), .inr (.inr (.inl 29)), .inl (jw32 (x2 + 1))] [] 229 jr0 g
            exact ih (jw32 (x2 + 1)) g (by omega) hf (by omega)
          · replace c10 : ¬ t8 = 0 := by first | exact c10 | exact Int.not_le.mp c10 | exact Int.not_lt.mp c10 | exact Decidable.not_not.mp c10
            refine st_gr jo_111 jr_111_8 ?_
            refine st_gi jo_111 (fun v12 ev12 b13 => ?_)
            replace ev12 : v12 = g 111 2 := ev12
            replace b13 := (jbf_7_2 jo_111 _).1 b13
            refine st_si jo_175 (show 0 ≤ v12 by omega) (show v12 < ((5 : Nat) : Int) by omega) (fun hx => (jba_175 _ _).2 (show 0 ≤ x2 ∧ x2 ≤ 15 by omega)) (fun g14 eg14 => ?_)
            replace eg14 : g14 = jup g 175 v12 x2 := eg14
            have fg14 : jfr w_X7_gatherByNumbers_29 h g14 := jfr_up hf eg14 (by unfold w_X7_gatherByNumbers_29; omega)
            have e15 : g14 175 v12 = x2 := jup_s eg14
            refine st_gi jo_111 (fun v16 ev16 b17 => ?_)
            replace ev16 : v16 = g14 111 2 := ev16
            replace b17 := (jbf_7_2 jo_111 _).1 b17
            have e18 : g14 111 2 = g 111 2 := jup_o eg14 (by omega)
            have e19 : jw32 (v16 + 1) = v16 + 1 := j32e (by omega) (by omega)
            refine st_pi jo_111 (fun hx => (jbf_7_2 jo_111 _).2 (show 0 ≤ jw32 (v16 + 1) ∧ jw32 (v16 + 1) ≤ 5 by omega)) (fun g20 eg20 => ?_)
            replace eg20 : g20 = jup g14 111 2 (jw32 (v16 + 1)) := eg20
            have fg20 : jfr w_X7_gatherByNumbers_29 h g20 := jfr_up fg14 eg20 (by unfold w_X7_gatherByNumbers_29; omega)
            have e21 : g20 111 2 = jw32 (v16 + 1) := jup_s eg20
            show jGo E l 157 229 229 _ 55 [.inr (.inr (.inl 111)), .inr (.inr (.inl 29)), .inl x2] [] 229 jr0 g20
            refine jGo_blk qX7_gatherByNumbers_55 ?_
            have e22 : jw32 (x2 + 1) = x2 + 1 := j32e (by omega) (by omega)
            show jGo E l 157 229 229 _ 7 [.inr (.inr (.inl 111)), .inr (.inr (.inl 29)), .inl (jw32 (x2 + 1))] [] 229 jr0 g20
            exact ih (jw32 (x2 + 1)) g20 (by omega) fg20 (by omega)
  refine jGo_blk qX7_gatherByNumbers_0 ?_
  refine st_pi jo_111 (fun hx => (jbf_7_2 jo_111 _).2 (show 0 ≤ 0 ∧ 0 ≤ 5 by omega)) (fun g23 eg23 => ?_)
  replace eg23 : g23 = jup h 111 2 0 := eg23
  have fg23 : jfr w_X7_gatherByNumbers_29 h g23 := jfr_up f0 eg23 (by unfold w_X7_gatherByNumbers_29; omega)
  have e24 : g23 111 2 = 0 := jup_s eg23
  show jGo E l 157 229 229 _ 7 [.inr (.inr (.inl 111)), .inr (.inr (.inl 29)), .inl 0] [] 229 jr0 g23
  exact (key 1000000000000) 0 g23 (by omega) fg23 (by omega)

def w_X10_become_119_29_175 (i k : Int) : Prop := (120 ≤ i ∧ i ≤ 121) ∨ (i = 124) ∨ (126 ≤ i ∧ i ≤ 173) ∨ (i = 119 ∧ k = 6)
def k_X10_become_119_29_175 (a3 : Int) (h : JH) (v : Option JV) (r' g : JH) : Prop := r' = jr0 ∧ jfr w_X10_become_119_29_175 h g ∧ v = none ∧ (True)
set_option maxHeartbeats 4000000 in
theorem c_X10_become_119_29_175 {E : JE} {l : Launch} (a3 : Int) (h : JH) (p3 : 0 ≤ a3 ∧ a3 ≤ 5) : jMt E l 142 [.inr (.inr (.inl 119)), .inr (.inr (.inl 29)), .inr (.inr (.inl 175)), .inl a3] 229 jr0 h (k_X10_become_119_29_175 a3 h) := by
  refine jMt0 (nL := 5) (ls := [.inr (.inr (.inl 119)), .inr (.inr (.inl 29)), .inr (.inr (.inl 175)), .inl a3, .inr (.inr (.inr ()))]) (by decide +kernel) (by decide +kernel) (by decide +kernel) rfl rfl ?_
  have f0 : jfr w_X10_become_119_29_175 h h := jfr_rf _ _
  have key : ∀ N : Nat, (∀ (x4 : Int) (g : JH), (0 ≤ x4 ∧ x4 ≤ 5) → jfr w_X10_become_119_29_175 h g → (5 - x4) < (N : Int) → jGo E l 142 229 229 (jRK (k_X10_become_119_29_175 a3 h)) 49 [.inr (.inr (.inl 119)), .inr (.inr (.inl 29)), .inr (.inr (.inl 175)), .inl a3, .inl x4] [] 229 jr0 g) := by
    intro N
    induction N with
    | zero => exact fun _ _ hi _ hN => absurd hN (by omega)
    | succ N ih =>
      intro x4 g hi hf hN
      refine jGo_blk qX10_become_49 ?_
      refine And.intro (fun c1 => ?_) (fun c1 => ?_)
      · replace c1 : a3 ≤ x4 := c1
        show jGo E l 142 229 229 _ 88 [.inr (.inr (.inl 119)), .inr (.inr (.inl 29)), .inr (.inr (.inl 175)), .inl a3, .inl x4] [] 229 jr0 g
        refine jGo_blk qX10_become_88 ?_
        exact ⟨rfl, rfl, hf, rfl, trivial⟩
      · replace c1 : x4 < a3 := by first | exact c1 | exact Int.not_le.mp c1 | exact Int.not_lt.mp c1 | exact Decidable.not_not.mp c1
        refine st_gr jo_119 jr_119_3 ?_
        refine st_gr jo_119 jr_119_5 ?_
        refine st_ai jo_124 (show 0 ≤ x4 by omega) (show x4 < ((16 : Nat) : Int) by omega) (fun v2 ev2 b3 => ?_)
        replace ev2 : v2 = g 124 x4 := ev2
        replace b3 := (jba_124 x4 _).1 b3
        refine st_ar jo_123 (by decide) (show 0 ≤ v2 by omega) (show v2 < ((16 : Nat) : Int) by omega) (fun u4 eu4 => ?_)
        replace eu4 : u4 = jr0 123 v2 := eu4
        have qu4 : u4 = 126 + 3 * v2 := eu4.trans (jhul_123 v2 (by omega) (by omega)).1
        have hu4 : jHl u4 := by rw [eu4]; exact (jhul_123 v2 (by omega) (by omega)).2
        refine st_gr jo_29 jr_29_3 ?_
        refine st_gr jo_119 jr_119_5 ?_
        refine st_ai jo_124 (show 0 ≤ x4 by omega) (show x4 < ((16 : Nat) : Int) by omega) (fun v5 ev5 b6 => ?_)
        replace ev5 : v5 = g 124 x4 := ev5
        replace b6 := (jba_124 x4 _).1 b6
        refine st_ar jo_33 (by decide) (show 0 ≤ v5 by omega) (show v5 < ((16 : Nat) : Int) by omega) (fun u7 eu7 => ?_)
        replace eu7 : u7 = jr0 33 v5 := eu7
        have qu7 : u7 = 36 + 3 * v5 := eu7.trans (jhul_33 v5 (by omega) (by omega)).1
        have hu7 : jHl u7 := by rw [eu7]; exact (jhul_33 v5 (by omega) (by omega)).2
        refine st_cv (na := 1) (st := [.inr (.inr (.inl u7)), .inr (.inr (.inl u4))]) hu4.1 rfl rfl rfl (c_X4_become u4 u7 g hu4 hu7) rfl ?_
        rintro _ _ g9 ⟨rfl, ft8, rfl, zt8⟩ kt8
        have fg9 : jfr w_X10_become_119_29_175 h g9 := jfr_tr hf ft8 (fun i k q => by unfold w_X4_become at q; unfold w_X10_become_119_29_175; omega)
        have e10 : jw32 (x4 + 1) = x4 + 1 := j32e (by omega) (by omega)
        show jGo E l 142 229 229 _ 49 [.inr (.inr (.inl 119)), .inr (.inr (.inl 29)), .inr (.inr (.inl 175)), .inl a3, .inl (jw32 (x4 + 1))] [] 229 jr0 g9
        exact ih (jw32 (x4 + 1)) g9 (by omega) fg9 (by omega)
  refine jGo_blk qX10_become_0 ?_
  refine st_gr jo_29 jr_29_0 ?_
  refine st_gr jo_119 jr_119_0 ?_
  refine st_cp jo_120 jo_30 (show 0 ≤ 0 by omega) (show 0 ≤ 0 by omega) (show 0 ≤ 6 by omega) (show 0 + 6 ≤ ((6 : Nat) : Int) by omega) (show 0 + 6 ≤ ((6 : Nat) : Int) by omega) rfl (fun hg j _ _ => (jba_120 _ _).2 (jbd_int (by rw [jo_30.2.2]; decide) (hg _ _))) (fun g11 eg11 => ?_)
  replace eg11 : g11 = jcp h 30 0 120 0 6 := eg11
  have fg11 : jfr w_X10_become_119_29_175 h g11 := jfr_cp f0 eg11 (fun _ => by unfold w_X10_become_119_29_175; omega)
  refine st_gr jo_29 jr_29_1 ?_
  refine st_gr jo_119 jr_119_1 ?_
  refine st_cp jo_121 jo_31 (show 0 ≤ 0 by omega) (show 0 ≤ 0 by omega) (show 0 ≤ 6 by omega) (show 0 + 6 ≤ ((6 : Nat) : Int) by omega) (show 0 + 6 ≤ ((6 : Nat) : Int) by omega) rfl (fun hg j _ _ => (jba_121 _ _).2 ((jba_31 _ _).1 (hg _ _))) (fun g12 eg12 => ?_)
  replace eg12 : g12 = jcp g11 31 0 121 0 6 := eg12
  have fg12 : jfr w_X10_become_119_29_175 h g12 := jfr_cp fg11 eg12 (fun _ => by unfold w_X10_become_119_29_175; omega)
  refine st_gr jo_119 jr_119_5 ?_
  refine st_cp jo_124 jo_175 (show 0 ≤ 0 by omega) (show 0 ≤ 0 by omega) (show 0 ≤ a3 by omega) (show 0 + a3 ≤ ((5 : Nat) : Int) by omega) (show 0 + a3 ≤ ((16 : Nat) : Int) by omega) rfl (fun hg j _ _ => (jba_124 _ _).2 ((jba_175 _ _).1 (hg _ _))) (fun g13 eg13 => ?_)
  replace eg13 : g13 = jcp g12 175 0 124 0 a3 := eg13
  have fg13 : jfr w_X10_become_119_29_175 h g13 := jfr_cp fg12 eg13 (fun _ => by unfold w_X10_become_119_29_175; omega)
  refine st_pi jo_119 (fun hx => (jbf_10_6 jo_119 _).2 (show 0 ≤ a3 ∧ a3 ≤ 16 by omega)) (fun g14 eg14 => ?_)
  replace eg14 : g14 = jup g13 119 6 a3 := eg14
  have fg14 : jfr w_X10_become_119_29_175 h g14 := jfr_up fg13 eg14 (by unfold w_X10_become_119_29_175; omega)
  have e15 : g14 119 6 = a3 := jup_s eg14
  show jGo E l 142 229 229 _ 49 [.inr (.inr (.inl 119)), .inr (.inr (.inl 29)), .inr (.inr (.inl 175)), .inl a3, .inl 0] [] 229 jr0 g14
  exact (key 1000000000000) 0 g14 (by omega) fg14 (by omega)

def w_X7_tryOut_29_175 (i k : Int) : Prop := (120 ≤ i ∧ i ≤ 121) ∨ (124 ≤ i ∧ i ≤ 173) ∨ (i = 119 ∧ 6 ≤ k ∧ k ≤ 10)
def k_X7_tryOut_29_175 (a3 : Int) (h : JH) (v : Option JV) (r' g : JH) : Prop := r' = jr0 ∧ jfr w_X7_tryOut_29_175 h g ∧ v = none ∧ (True)
set_option maxHeartbeats 4000000 in
theorem c_X7_tryOut_29_175 {E : JE} {l : Launch} (a3 : Int) (h : JH) (p3 : 0 ≤ a3 ∧ a3 ≤ 5) : jMt E l 144 [.inr (.inr (.inl 111)), .inr (.inr (.inl 29)), .inr (.inr (.inl 175)), .inl a3, .inr (.inr (.inl 16))] 229 jr0 h (k_X7_tryOut_29_175 a3 h) := by
  refine jMt0 (nL := 8) (ls := [.inr (.inr (.inl 111)), .inr (.inr (.inl 29)), .inr (.inr (.inl 175)), .inl a3, .inr (.inr (.inl 16)), .inr (.inr (.inr ())), .inr (.inr (.inr ())), .inr (.inr (.inr ()))]) (by decide +kernel) (by decide +kernel) (by decide +kernel) rfl rfl ?_
  have f0 : jfr w_X7_tryOut_29_175 h h := jfr_rf _ _
  have key : ∀ N : Nat, (∀ (x5 : Int) (x6 : Int) (x7 : Int) (g : JH), (0 ≤ x6 ∧ x6 ≤ 1 ∧ 0 ≤ x7 ∧ x7 ≤ 300) → jfr w_X7_tryOut_29_175 h g → (300 - x7) < (N : Int) → jGo E l 144 229 229 (jRK (k_X7_tryOut_29_175 a3 h)) 19 [.inr (.inr (.inl 111)), .inr (.inr (.inl 29)), .inr (.inr (.inl 175)), .inl a3, .inr (.inr (.inl 16)), .inl x5, .inl x6, .inl x7] [] 229 jr0 g) := by
    intro N
    induction N with
    | zero => exact fun _ _ _ _ hi _ hN => absurd hN (by omega)
    | succ N ih =>
      intro x5 x6 x7 g hi hf hN
      refine jGo_ok (fun hls _ => ?_)
      have rx5 : -2147483648 ≤ x5 ∧ x5 ≤ 2147483647 := hls (.inl x5) (by simp)
      refine jGo_blk qX7_tryOut_19 ?_
      refine And.intro (fun c1 => ?_) (fun c1 => ?_)
      · replace c1 : 300 ≤ x7 := c1
        show jGo E l 144 229 229 _ 99 [.inr (.inr (.inl 111)), .inr (.inr (.inl 29)), .inr (.inr (.inl 175)), .inl a3, .inr (.inr (.inl 16)), .inl x5, .inl x6, .inl x7] [] 229 jr0 g
        refine jGo_blk qX7_tryOut_99 ?_
        exact ⟨rfl, rfl, hf, rfl, trivial⟩
      · replace c1 : x7 < 300 := by first | exact c1 | exact Int.not_le.mp c1 | exact Int.not_lt.mp c1 | exact Decidable.not_not.mp c1
        refine And.intro (fun c2 => ?_) (fun c2 => ?_)
        · replace c2 : a3 ≤ x5 := c2
          show jGo E l 144 229 229 _ 99 [.inr (.inr (.inl 111)), .inr (.inr (.inl 29)), .inr (.inr (.inl 175)), .inl a3, .inr (.inr (.inl 16)), .inl x5, .inl x6, .inl x7] [] 229 jr0 g
          refine jGo_blk qX7_tryOut_99 ?_
          exact ⟨rfl, rfl, hf, rfl, trivial⟩
        · replace c2 : x5 < a3 := by first | exact c2 | exact Int.not_le.mp c2 | exact Int.not_lt.mp c2 | exact Decidable.not_not.mp c2
          refine And.intro (fun c3 => ?_) (fun c3 => ?_)
          · replace c3 : x6 = 0 := c3
            show jGo E l 144 229 229 _ 99 [.inr (.inr (.inl 111)), .inr (.inr (.inl 29)), .inr (.inr (.inl 175)), .inl a3, .inr (.inr (.inl 16)), .inl x5, .inl x6, .inl x7] [] 229 jr0 g
            refine jGo_blk qX7_tryOut_99 ?_
            exact ⟨rfl, rfl, hf, rfl, trivial⟩
          · replace c3 : ¬ x6 = 0 := by first | exact c3 | exact Int.not_le.mp c3 | exact Int.not_lt.mp c3 | exact Decidable.not_not.mp c3
            refine st_gr jo_111 jr_111_6 ?_
            refine st_gi jo_111 (fun v4 ev4 b5 => ?_)
            replace ev4 : v4 = g 111 3 := ev4
            replace b5 := (jbf_7_3 jo_111 _).1 b5
            have e6 : jw32 (v4 + 1) = v4 + 1 := j32e (by omega) (by omega)
            have e7 : jw32 ((jw32 (v4 + 1)) + x7) = (jw32 (v4 + 1)) + x7 := j32e (by omega) (by omega)
            refine st_gr jo_111 jr_111_4 ?_
            refine st_cv (na := 4) (st := [.inr (.inr (.inl 16)), .inl x7, .inr (.inr (.inl 113)), .inl (jw32 ((jw32 (v4 + 1)) + x7)), .inr (.inr (.inl 119)), .inl x5]) jo_119 rfl rfl rfl (c_X10_passDay_119_113 (jw32 ((jw32 (v4 + 1)) + x7)) x7 g (by omega) (by omega)) rfl ?_
            rintro _ _ g9 ⟨rfl, ft8, t8, rfl, ht8, zt8⟩ kt8
            replace kt8 : -2147483648 ≤ t8 ∧ t8 ≤ 2147483647 := kt8
            have fg9 : jfr w_X7_tryOut_29_175 h g9 := jfr_tr hf ft8 (fun i k q => by unfold w_X10_passDay_119_113 at q; unfold w_X7_tryOut_29_175; omega)
            replace zt8 : g9 = jPD 119 120 121 126 124 125 114 115 116 117 (jw32 ((jw32 (v4 + 1)) + x7)) x7 g := zt8
            refine st_gr jo_111 jr_111_6 ?_
            refine st_gi jo_119 (fun v10 ev10 b11 => ?_)
            replace ev10 : v10 = g9 119 10 := ev10
            replace b11 := (jbf_10_10 jo_119 _).1 b11
            refine And.intro (fun c12 => ?_) (fun c12 => ?_)
            · replace c12 : ¬ v10 = 0 := c12
              show jGo E l 144 229 229 _ 86 [.inr (.inr (.inl 111)), .inr (.inr (.inl 29)), .inr (.inr (.inl 175)), .inl a3, .inr (.inr (.inl 16)), .inl (jw32 (x5 + t8)), .inl x6, .inl x7] [] 229 jr0 g9
              refine jGo_blk qX7_tryOut_86 ?_
              show jGo E l 144 229 229 _ 91 [.inr (.inr (.inl 111)), .inr (.inr (.inl 29)), .inr (.inr (.inl 175)), .inl a3, .inr (.inr (.inl 16)), .inl (jw32 (x5 + t8)), .inl x6, .inl x7] [.inl 1] 229 jr0 g9
              refine jGo_blk qX7_tryOut_91 ?_
              have e13 : jw32 (x7 + 1) = x7 + 1 := j32e (by omega) (by omega)
              show jGo E l 144 229 229 _ 19 [.inr (.inr (.inl 111)), .inr (.inr (.inl 29)), .inr (.inr (.inl 175)), .inl a3, .inr (.inr (.inl 16)), .inl (jw32 (x5 + t8)), .inl 1, .inl (jw32 (x7 + 1))] [] 229 jr0 g9
              exact ih (jw32 (x5 + t8)) 1 (jw32 (x7 + 1)) g9 (by omega) fg9 (by omega)
            · replace c12 : v10 = 0 := by first | exact c12 | exact Int.not_le.mp c12 | exact Int.not_lt.mp c12 | exact Decidable.not_not.mp c12
              refine st_cv (na := 1) (st := [.inl x7, .inr (.inr (.inl 111))]) jo_111 rfl rfl rfl (c_X7_workIsAhead x7 g9) rfl ?_
              rintro _ _ _ ⟨rfl, rfl, t14, rfl, ht14, zt14⟩ kt14
              replace kt14 : -2147483648 ≤ t14 ∧ t14 ≤ 2147483647 := kt14
              replace ht14 : 0 ≤ t14 ∧ t14 ≤ 1 := ht14
              refine And.intro (fun c16 => ?_) (fun c16 => ?_)
              · replace c16 : t14 = 0 := c16
                show jGo E l 144 229 229 _ 90 [.inr (.inr (.inl 111)), .inr (.inr (.inl 29)), .inr (.inr (.inl 175)), .inl a3, .inr (.inr (.inl 16)), .inl (jw32 (x5 + t8)), .inl x6, .inl x7] [] 229 jr0 g9
                refine jGo_blk qX7_tryOut_90 ?_
                show jGo E l 144 229 229 _ 91 [.inr (.inr (.inl 111)), .inr (.inr (.inl 29)), .inr (.inr (.inl 175)), .inl a3, .inr (.inr (.inl 16)), .inl (jw32 (x5 + t8)), .inl x6, .inl x7] [.inl 0] 229 jr0 g9
                refine jGo_blk qX7_tryOut_91 ?_
                have e17 : jw32 (x7 + 1) = x7 + 1 := j32e (by omega) (by omega)
                show jGo E l 144 229 229 _ 19 [.inr (.inr (.inl 111)), .inr (.inr (.inl 29)), .inr (.inr (.inl 175)), .inl a3, .inr (.inr (.inl 16)), .inl (jw32 (x5 + t8)), .inl 0, .inl (jw32 (x7 + 1))] [] 229 jr0 g9
                exact ih (jw32 (x5 + t8)) 0 (jw32 (x7 + 1)) g9 (by omega) fg9 (by omega)
              · replace c16 : ¬ t14 = 0 := by first | exact c16 | exact Int.not_le.mp c16 | exact Int.not_lt.mp c16 | exact Decidable.not_not.mp c16
                show jGo E l 144 229 229 _ 86 [.inr (.inr (.inl 111)), .inr (.inr (.inl 29)), .inr (.inr (.inl 175)), .inl a3, .inr (.inr (.inl 16)), .inl (jw32 (x5 + t8)), .inl x6, .inl x7] [] 229 jr0 g9
                refine jGo_blk qX7_tryOut_86 ?_
                show jGo E l 144 229 229 _ 91 [.inr (.inr (.inl 111)), .inr (.inr (.inl 29)), .inr (.inr (.inl 175)), .inl a3, .inr (.inr (.inl 16)), .inl (jw32 (x5 + t8)), .inl x6, .inl x7] [.inl 1] 229 jr0 g9
                refine jGo_blk qX7_tryOut_91 ?_
                have e18 : jw32 (x7 + 1) = x7 + 1 := j32e (by omega) (by omega)
                show jGo E l 144 229 229 _ 19 [.inr (.inr (.inl 111)), .inr (.inr (.inl 29)), .inr (.inr (.inl 175)), .inl a3, .inr (.inr (.inl 16)), .inl (jw32 (x5 + t8)), .inl 1, .inl (jw32 (x7 + 1))] [] 229 jr0 g9
                exact ih (jw32 (x5 + t8)) 1 (jw32 (x7 + 1)) g9 (by omega) fg9 (by omega)
  refine jGo_blk qX7_tryOut_0 ?_
  refine st_gr jo_111 jr_111_6 ?_
  refine st_cv (na := 3) (st := [.inl a3, .inr (.inr (.inl 175)), .inr (.inr (.inl 29)), .inr (.inr (.inl 119))]) jo_119 rfl rfl rfl (c_X10_become_119_29_175 a3 h (by omega)) rfl ?_
  rintro _ _ g20 ⟨rfl, ft19, rfl, zt19⟩ kt19
  have fg20 : jfr w_X7_tryOut_29_175 h g20 := jfr_tr f0 ft19 (fun i k q => by unfold w_X10_become_119_29_175 at q; unfold w_X7_tryOut_29_175; omega)
  show jGo E l 144 229 229 _ 19 [.inr (.inr (.inl 111)), .inr (.inr (.inl 29)), .inr (.inr (.inl 175)), .inl a3, .inr (.inr (.inl 16)), .inl 0, .inl 1, .inl 0] [] 229 jr0 g20
  exact (key 1000000000000) 0 1 0 g20 (by omega) fg20 (by omega)
