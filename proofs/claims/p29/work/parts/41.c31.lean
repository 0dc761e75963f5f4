def w_X12_goAhead (i k : Int) : Prop := (i = 181) ∨ (192 ≤ i ∧ i ≤ 200) ∨ (i = 202) ∨ (i = 176 ∧ k = 0) ∨ (i = 176 ∧ 30 ≤ k ∧ k ≤ 32)
theorem ws_X12_pass__X12_goAhead (i k : Int) (q : w_X12_pass i k) : w_X12_goAhead i k := by
  unfold w_X12_pass at q; unfold w_X12_goAhead
  rcases q with q | q | q | q | q
  · exact (Or.inl (by omega))
  · exact (Or.inr (Or.inl (by omega)))
  · exact (Or.inr (Or.inr (Or.inl (by omega))))
  · exact (Or.inr (Or.inr (Or.inr (Or.inl (by omega)))))
  · exact (Or.inr (Or.inr (Or.inr (Or.inr (by omega)))))
def k_X12_goAhead (h : JH) (v : Option JV) (r' g : JH) : Prop := r' = jr0 ∧ jfr w_X12_goAhead h g ∧ v = none ∧ ((g 176 0 = h 176 0 + 300) ∧ g = jit jmPi 300 h)
set_option maxHeartbeats 4000000 in
theorem c_X12_goAhead {E : JE} {l : Launch} (h : JH) (q0 : h 176 0 ≤ 2000) : jMt E l 150 [.inr (.inr (.inl 176))] 229 jr0 h (k_X12_goAhead h) := by
  refine jMt0 (nL := 3) (ls := [.inr (.inr (.inl 176)), .inr (.inr (.inr ())), .inr (.inr (.inr ()))]) (by decide +kernel) (by decide +kernel) (by decide +kernel) rfl rfl ?_
  have f0 : jfr w_X12_goAhead h h := jfr_rf _ _
  have key : ∀ N : Nat, (∀ (x1 : Int) (x2 : JV) (g : JH), (0 ≤ x1 ∧ x1 ≤ 300) → (g 176 0 = h 176 0 + x1) → (g = jit jmPi (x1).toNat h) → jfr w_X12_goAhead h g → (300 - x1) < (N : Int) → jGo E l 150 229 229 (jRK (k_X12_goAhead h)) 2 [.inr (.inr (.inl 176)), .inl x1, x2] [] 229 jr0 g) := by
    intro N
    induction N with
    | zero => exact fun _ _ _ hi hx0 hx1 _ hN => absurd hN (by omega)
    | succ N ih =>
      intro x1 x2 g hi hx0 hx1 hf hN
      refine jGo_blk qX12_goAhead_2 ?_
      refine And.intro (fun c1 => ?_) (fun c1 => ?_)
      · replace c1 : 300 ≤ x1 := c1
        show jGo E l 150 229 229 _ 20 [.inr (.inr (.inl 176)), .inl x1, x2] [] 229 jr0 g
        refine jGo_blk qX12_goAhead_20 ?_
        exact ⟨rfl, rfl, hf, rfl, (by refine ⟨by omega, ?_⟩; rw [hx1, show x1 = 300 by omega, jtn300])⟩
      · replace c1 : x1 < 300 := by first | exact c1 | exact Int.not_le.mp c1 | exact Int.not_lt.mp c1 | exact Decidable.not_not.mp c1
        refine st_cv (na := 0) (st := [.inr (.inr (.inl 176))]) jo_176 rfl rfl rfl (c_X12_pass g (by omega)) rfl ?_
        rintro _ _ g3 ⟨rfl, ft2, t2, rfl, ht2, zt2⟩ kt2
        replace kt2 : -2147483648 ≤ t2 ∧ t2 ≤ 2147483647 := kt2
        have fg3 : jfr w_X12_goAhead h g3 := jfr_tr hf ft2 ws_X12_pass__X12_goAhead
        replace zt2 : (g3 176 0 = g 176 0 + 1) ∧ g3 = jmPs g := zt2
        have y4 := zt2.2
        have e5 : jw32 (x1 + 1) = x1 + 1 := jzj32 (by omega)
        show jGo E l 150 229 229 _ 2 [.inr (.inr (.inl 176)), .inl (jw32 (x1 + 1)), .inl t2] [] 229 jr0 g3
        exact ih (jw32 (x1 + 1)) (.inl t2) g3 (by omega) (by omega) (by rw [show jw32 (x1 + 1) = x1 + 1 by omega, jit_s (by omega), ← hx1]; exact y4) fg3 (by omega)
  refine jGo_blk qX12_goAhead_0 ?_
  show jGo E l 150 229 229 _ 2 [.inr (.inr (.inl 176)), .inl 0, .inr (.inr (.inr ()))] [] 229 jr0 h
  exact (key 1000000000000) 0 (.inr (.inr (.inr ()))) h (by omega) (by omega) (by rfl) f0 (by omega)

def w_X12_ready (i k : Int) : Prop := (i = 181) ∨ (i = 190) ∨ (192 ≤ i ∧ i ≤ 200) ∨ (i = 202) ∨ (i = 219) ∨ (224 ≤ i ∧ i ≤ 225) ∨ (i = 176 ∧ k = 0) ∨ (i = 176 ∧ 30 ≤ k ∧ k ≤ 32)
theorem ws_X12_aside__X12_ready (i k : Int) (q : w_X12_aside i k) : w_X12_ready i k := by
  unfold w_X12_aside at q; unfold w_X12_ready
  rcases q with q | q | q | q | q | q | q
  · exact (Or.inl (by omega))
  · exact (Or.inr (Or.inl (by omega)))
  · exact (Or.inr (Or.inr (Or.inl (by omega))))
  · exact (Or.inr (Or.inr (Or.inr (Or.inl (by omega)))))
  · exact (Or.inr (Or.inr (Or.inr (Or.inr (Or.inr (Or.inl (by omega)))))))
  · exact (Or.inr (Or.inr (Or.inr (Or.inr (Or.inr (Or.inr (Or.inl (by omega))))))))
  · exact (Or.inr (Or.inr (Or.inr (Or.inr (Or.inr (Or.inr (Or.inr (by omega))))))))
theorem ws_X12_goAhead__X12_ready (i k : Int) (q : w_X12_goAhead i k) : w_X12_ready i k := by
  unfold w_X12_goAhead at q; unfold w_X12_ready
  rcases q with q | q | q | q | q
  · exact (Or.inl (by omega))
  · exact (Or.inr (Or.inr (Or.inl (by omega))))
  · exact (Or.inr (Or.inr (Or.inr (Or.inl (by omega)))))
  · exact (Or.inr (Or.inr (Or.inr (Or.inr (Or.inr (Or.inr (Or.inl (by omega))))))))
  · exact (Or.inr (Or.inr (Or.inr (Or.inr (Or.inr (Or.inr (Or.inr (by omega))))))))
theorem ws_X12_refuse__X12_ready (i k : Int) (q : w_X12_refuse i k) : w_X12_ready i k := by
  unfold w_X12_refuse at q; unfold w_X12_ready
  exact (Or.inr (Or.inr (Or.inr (Or.inr (Or.inl (by omega))))))
def k_X12_ready (a1 : Int) (h : JH) (v : Option JV) (r' g : JH) : Prop := r' = jr0 ∧ jfr w_X12_ready h g ∧ ∃ x : Int, v = some (.inl x) ∧ (True) ∧ (((g 176 0 = h 176 0) ∧ ∀ L k : Int, jlv L k → g L k = h L k) ∧ P_X12_ready a1 x h)
set_option maxHeartbeats 4000000 in
theorem c_X12_ready {E : JE} {l : Launch} (a1 : Int) (h : JH) (q0 : h 176 0 ≤ 2000) : jMt E l 151 [.inr (.inr (.inl 176)), .inl a1] 229 jr0 h (k_X12_ready a1 h) := by
  refine jMt0 (nL := 3) (ls := [.inr (.inr (.inl 176)), .inl a1, .inr (.inr (.inr ()))]) (by decide +kernel) (by decide +kernel) (by decide +kernel) rfl rfl ?_
  have f0 : jfr w_X12_ready h h := jfr_rf _ _
  refine jGo_bd (fun hbd => ?_)
  have hb9 : ∀ k : Int, 0 ≤ k → k < 16 → h 196 k = 0 ∨ h 196 k = 1 := fun k _ _ => by have := (jba_196 k _).1 (hbd 196 k); omega
  refine jGo_blk qX12_ready_0 ?_
  refine st_cv (na := 1) (st := [.inl a1, .inr (.inr (.inl 176))]) jo_176 rfl rfl rfl (c_X12_isHull a1 h) rfl ?_
  rintro _ _ _ ⟨rfl, rfl, t1, rfl, ht1, zt1⟩ kt1
  replace kt1 : -2147483648 ≤ t1 ∧ t1 ≤ 2147483647 := kt1
  replace ht1 : 0 ≤ t1 ∧ t1 ≤ 1 := ht1
  replace zt1 : (t1 = 1 ∧ 0 ≤ a1 ∧ a1 < h 176 14 ∧ h 176 14 ≤ 16) ∨ (t1 = 0 ∧ ¬ (0 ≤ a1 ∧ a1 < h 176 14)) := zt1
  refine And.intro (fun c3 => ?_) (fun c3 => ?_)
  · replace c3 : ¬ t1 = 0 := c3
    show jGo E l 151 229 229 _ 14 [.inr (.inr (.inl 176)), .inl a1, .inr (.inr (.inr ()))] [] 229 jr0 h
    refine jGo_blk qX12_ready_14 ?_
    refine st_gr jo_176 jr_176_18 ?_
    refine st_ai jo_192 (show 0 ≤ a1 by omega) (show a1 < ((16 : Nat) : Int) by omega) (fun v4 ev4 b5 => ?_)
    replace ev4 : v4 = h 192 a1 := ev4
    replace b5 := (jba_192 a1 _).1 b5
    refine And.intro (fun c6 => ?_) (fun c6 => ?_)
    · replace c6 : ¬ v4 = 3 := c6
      show jGo E l 151 229 229 _ 31 [.inr (.inr (.inl 176)), .inl a1, .inr (.inr (.inr ()))] [] 229 jr0 h
      refine jGo_blk qX12_ready_31 ?_
      refine st_gr jo_176 jr_176_18 ?_
      refine st_ai jo_192 (show 0 ≤ a1 by omega) (show a1 < ((16 : Nat) : Int) by omega) (fun v7 ev7 b8 => ?_)
      replace ev7 : v7 = h 192 a1 := ev7
      replace b8 := (jba_192 a1 _).1 b8
      refine And.intro (fun c9 => ?_) (fun c9 => ?_)
      · replace c9 : ¬ v7 = 2 := c9
        show jGo E l 151 229 229 _ 48 [.inr (.inr (.inl 176)), .inl a1, .inr (.inr (.inr ()))] [] 229 jr0 h
        refine jGo_blk qX12_ready_48 ?_
        refine st_cv (na := 1) (st := [.inl 0, .inr (.inr (.inl 176))]) jo_176 rfl rfl rfl (c_X12_aside 0 h (by omega)) rfl ?_
        rintro _ _ g11 ⟨rfl, ft10, rfl, zt10⟩ kt10
        have fg11 : jfr w_X12_ready h g11 := jfr_tr f0 ft10 ws_X12_aside__X12_ready
        replace zt10 : (((0 : Int) = 0 → g11 224 0 = h 176 0 ∧ g11 176 0 = h 176 0) ∧ (¬ (0 : Int) = 0 → g11 176 0 = h 224 0)) ∧ g11 = jAs (0 : Int) h := zt10
        have y12 := zt10.2
        refine st_cv (na := 0) (st := [.inr (.inr (.inl 176))]) jo_176 rfl rfl rfl (c_X12_goAhead g11 (by omega)) rfl ?_
        rintro _ _ g14 ⟨rfl, ft13, rfl, zt13⟩ kt13
        have fg14 : jfr w_X12_ready h g14 := jfr_tr fg11 ft13 ws_X12_goAhead__X12_ready
        replace zt13 : (g14 176 0 = g11 176 0 + 300) ∧ g14 = jit jmPi 300 g11 := zt13
        have e15 : g14 224 0 = g11 224 0 := ft13 224 0 (by unfold w_X12_goAhead; omega)
        refine st_gr jo_176 jr_176_24 ?_
        refine st_ai jo_198 (show 0 ≤ a1 by omega) (show a1 < ((16 : Nat) : Int) by omega) (fun v16 ev16 b17 => ?_)
        replace ev16 : v16 = g14 198 a1 := ev16
        replace b17 := (jba_198 a1 _).1 b17
        refine st_cv (na := 1) (st := [.inl 1, .inr (.inr (.inl 176))]) jo_176 rfl rfl rfl (c_X12_aside 1 g14 (by omega)) rfl ?_
        rintro _ _ g19 ⟨rfl, ft18, rfl, zt18⟩ kt18
        have fg19 : jfr w_X12_ready h g19 := jfr_tr fg14 ft18 ws_X12_aside__X12_ready
        replace zt18 : (((1 : Int) = 0 → g19 224 0 = g14 176 0 ∧ g19 176 0 = g14 176 0) ∧ (¬ (1 : Int) = 0 → g19 176 0 = g14 224 0)) ∧ g19 = jAs (1 : Int) g14 := zt18
        have y20 := zt18.2
        have hc21 : ∀ L k : Int, jlv L k → g19 L k = h L k := by
          have s9 := (jAs_save hb9).1
          rw [← show g11 = jAs 0 h from zt10.2] at s9
          have s8 : jSav h g14 := jSav_fr (fun a c q1 q2 => ft13 a c (by unfold w_X12_goAhead; omega)) s9
          rw [show g19 = jAs 1 g14 from zt18.2]
          exact (jAs_rest (by decide) s8).1
        have hc22 : v16 = jit jmPi 300 (jAs 0 h) 198 a1 := by rw [ev16, zt13.2, zt10.2]
        exact st_r0 (ls := []) ⟨rfl, rfl, fg19, v16, rfl, trivial, (by refine ⟨by exact ⟨by omega, hc21⟩, ?_⟩; unfold P_X12_ready; exact Or.inr (Or.inr (Or.inr ⟨by omega, hc22⟩)))⟩
      · replace c9 : v7 = 2 := by first | exact c9 | exact Int.not_le.mp c9 | exact Int.not_lt.mp c9 | exact Decidable.not_not.mp c9
        refine st_gr jo_176 jr_176_24 ?_
        refine st_ai jo_198 (show 0 ≤ a1 by omega) (show a1 < ((16 : Nat) : Int) by omega) (fun v23 ev23 b24 => ?_)
        replace ev23 : v23 = h 198 a1 := ev23
        replace b24 := (jba_198 a1 _).1 b24
        have hc25 : ∀ L k : Int, jlv L k → h L k = h L k := fun L k q => by have q9 := jlv_o q; exact rfl
        exact st_r0 (ls := []) ⟨rfl, rfl, f0, v23, rfl, trivial, (by refine ⟨by exact ⟨by omega, hc25⟩, ?_⟩; unfold P_X12_ready; by_cases zz : v23 = -1 <;> first | exact Or.inl ⟨by omega, by omega⟩ | exact Or.inr (Or.inl ⟨by omega, by omega, by omega⟩) | exact Or.inr (Or.inr (Or.inl ⟨by omega, by omega, by omega⟩)))⟩
    · replace c6 : v4 = 3 := by first | exact c6 | exact Int.not_le.mp c6 | exact Int.not_lt.mp c6 | exact Decidable.not_not.mp c6
      refine st_cv (na := 1) (st := [.inl (-3), .inr (.inr (.inl 176))]) jo_176 rfl rfl rfl (c_X12_refuse (-3) h (by omega)) rfl ?_
      rintro _ _ g27 ⟨rfl, ft26, t26, rfl, ht26, zt26⟩ kt26
      replace kt26 : -2147483648 ≤ t26 ∧ t26 ≤ 2147483647 := kt26
      replace ht26 : -7 ≤ t26 ∧ t26 ≤ -1 := ht26
      have fg27 : jfr w_X12_ready h g27 := jfr_tr f0 ft26 ws_X12_refuse__X12_ready
      replace zt26 : t26 = (-3 : Int) := zt26
      have e28 : g27 176 0 = h 176 0 := ft26 176 0 (by unfold w_X12_refuse; omega)
      have hc29 : ∀ L k : Int, jlv L k → g27 L k = h L k := fun L k q => by have q9 := jlv_o q; exact (ft26 L k (by unfold w_X12_refuse; omega))
      exact st_r0 (ls := []) ⟨rfl, rfl, fg27, t26, rfl, trivial, (by refine ⟨by exact ⟨by omega, hc29⟩, ?_⟩; unfold P_X12_ready; by_cases zz : t26 = -1 <;> first | exact Or.inl ⟨by omega, by omega⟩ | exact Or.inr (Or.inl ⟨by omega, by omega, by omega⟩) | exact Or.inr (Or.inr (Or.inl ⟨by omega, by omega, by omega⟩)))⟩
  · replace c3 : t1 = 0 := by first | exact c3 | exact Int.not_le.mp c3 | exact Int.not_lt.mp c3 | exact Decidable.not_not.mp c3
    refine st_cv (na := 1) (st := [.inl (-1), .inr (.inr (.inl 176))]) jo_176 rfl rfl rfl (c_X12_refuse (-1) h (by omega)) rfl ?_
    rintro _ _ g31 ⟨rfl, ft30, t30, rfl, ht30, zt30⟩ kt30
    replace kt30 : -2147483648 ≤ t30 ∧ t30 ≤ 2147483647 := kt30
    replace ht30 : -7 ≤ t30 ∧ t30 ≤ -1 := ht30
    have fg31 : jfr w_X12_ready h g31 := jfr_tr f0 ft30 ws_X12_refuse__X12_ready
    replace zt30 : t30 = (-1 : Int) := zt30
    have e32 : g31 176 0 = h 176 0 := ft30 176 0 (by unfold w_X12_refuse; omega)
    have hc33 : ∀ L k : Int, jlv L k → g31 L k = h L k := fun L k q => by have q9 := jlv_o q; exact (ft30 L k (by unfold w_X12_refuse; omega))
    exact st_r0 (ls := []) ⟨rfl, rfl, fg31, t30, rfl, trivial, (by refine ⟨by exact ⟨by omega, hc33⟩, ?_⟩; unfold P_X12_ready; by_cases zz : t30 = -1 <;> first | exact Or.inl ⟨by omega, by omega⟩ | exact Or.inr (Or.inl ⟨by omega, by omega, by omega⟩) | exact Or.inr (Or.inr (Or.inl ⟨by omega, by omega, by omega⟩)))⟩

def k_X11_lateness (a0 : Int) (a1 : Int) (a2 : Int) (h : JH) (v : Option JV) (r' g : JH) : Prop := r' = jr0 ∧ h = g ∧ ∃ x : Int, v = some (.inl x) ∧ (True) ∧ (x = jlt a0 a1 a2)
set_option maxHeartbeats 4000000 in
theorem c_X11_lateness {E : JE} {l : Launch} (a0 : Int) (a1 : Int) (a2 : Int) (h : JH) : jMt E l 152 [.inl a0, .inl a1, .inl a2] 229 jr0 h (k_X11_lateness a0 a1 a2 h) := by
  refine jMt0 (nL := 4) (ls := [.inl a0, .inl a1, .inl a2, .inr (.inr (.inr ()))]) (by decide +kernel) (by decide +kernel) (by decide +kernel) rfl rfl ?_
  refine jGo_blk qX11_lateness_0 ?_
  refine And.intro (fun c1 => ?_) (fun c1 => ?_)
  · replace c1 : ¬ a0 = (-9) := c1
    show jGo E l 152 229 229 _ 16 [.inl a0, .inl a1, .inl a2, .inr (.inr (.inr ()))] [] 229 jr0 h
    refine jGo_blk qX11_lateness_16 ?_
    show jGo E l 152 229 229 _ 17 [.inl a0, .inl a1, .inl a2, .inr (.inr (.inr ()))] [.inl a0] 229 jr0 h
    refine jGo_blk qX11_lateness_17 ?_
    refine st_m1 rfl (fun v2 m1v2 m2v2 m3v2 => ?_)
    replace m1v2 : v2 ≥ 0 := m1v2; replace m2v2 : v2 ≥ jw32 (a0 - a1) := m2v2; replace m3v2 : v2 = 0 ∨ v2 = jw32 (a0 - a1) := m3v2
    exact st_r0 (ls := []) ⟨rfl, rfl, rfl, v2, rfl, trivial, (by unfold jlt; rw [show (if a0 = -9 then jw32 (jw32 (a2 + 300) + 1) else a0) = a0 from if_neg (by assumption)]; split <;> omega)⟩
  · replace c1 : a0 = (-9) := by first | exact c1 | exact Int.not_le.mp c1 | exact Int.not_lt.mp c1 | exact Decidable.not_not.mp c1
    show jGo E l 152 229 229 _ 17 [.inl a0, .inl a1, .inl a2, .inr (.inr (.inr ()))] [.inl (jw32 ((jw32 (a2 + 300)) + 1))] 229 jr0 h
    refine jGo_blk qX11_lateness_17 ?_
    refine st_m1 rfl (fun v3 m1v3 m2v3 m3v3 => ?_)
    replace m1v3 : v3 ≥ 0 := m1v3; replace m2v3 : v3 ≥ jw32 ((jw32 ((jw32 (a2 + 300)) + 1)) - a1) := m2v3; replace m3v3 : v3 = 0 ∨ v3 = jw32 ((jw32 ((jw32 (a2 + 300)) + 1)) - a1) := m3v3
    exact st_r0 (ls := []) ⟨rfl, rfl, rfl, v3, rfl, trivial, (by unfold jlt; rw [show (if a0 = -9 then jw32 (jw32 (a2 + 300) + 1) else a0) = jw32 (jw32 (a2 + 300) + 1) from if_pos (by assumption)]; split <;> omega)⟩

def w_X11_late (i k : Int) : Prop := (i = 1) ∨ (i = 15) ∨ (i = 34) ∨ (114 ≤ i ∧ i ≤ 118) ∨ (120 ≤ i ∧ i ≤ 121) ∨ (124 ≤ i ∧ i ≤ 174) ∨ (i = 11 ∧ k = 5) ∨ (i = 29 ∧ k = 6) ∨ (i = 111 ∧ k = 3) ∨ (i = 111 ∧ 9 ≤ k ∧ k ≤ 10) ∨ (i = 119 ∧ 6 ≤ k ∧ k ≤ 10)
theorem ws_X11_readyAhead__X11_late (i k : Int) (q : w_X11_readyAhead i k) : w_X11_late i k := by
  unfold w_X11_readyAhead at q; unfold w_X11_late
  rcases q with q | q | q | q | q | q | q | q | q | q
  · exact (Or.inr (Or.inl (by omega)))
  · exact (Or.inr (Or.inr (Or.inl (by omega))))
  · exact (Or.inr (Or.inr (Or.inr (Or.inl (by omega)))))
  · exact (Or.inr (Or.inr (Or.inr (Or.inr (Or.inl (by omega))))))
  · exact (Or.inr (Or.inr (Or.inr (Or.inr (Or.inr (Or.inl (by omega)))))))
  · exact (Or.inr (Or.inr (Or.inr (Or.inr (Or.inr (Or.inr (Or.inl (by omega))))))))
  · exact (Or.inr (Or.inr (Or.inr (Or.inr (Or.inr (Or.inr (Or.inr (Or.inl (by omega)))))))))
  · exact (Or.inr (Or.inr (Or.inr (Or.inr (Or.inr (Or.inr (Or.inr (Or.inr (Or.inl (by omega))))))))))
  · exact (Or.inr (Or.inr (Or.inr (Or.inr (Or.inr (Or.inr (Or.inr (Or.inr (Or.inr (Or.inl (by omega)))))))))))
  · exact (Or.inr (Or.inr (Or.inr (Or.inr (Or.inr (Or.inr (Or.inr (Or.inr (Or.inr (Or.inr (by omega)))))))))))
theorem ws_X11_refused__X11_late (i k : Int) (q : w_X11_refused i k) : w_X11_late i k := by
  unfold w_X11_refused at q; unfold w_X11_late
  exact (Or.inl (by omega))
def k_X11_late (a1 : Int) (h : JH) (v : Option JV) (r' g : JH) : Prop := r' = jr0 ∧ jfr w_X11_late h g ∧ ∃ x : Int, v = some (.inl x) ∧ (True) ∧ (P_X11_late a1 x h g)
set_option maxHeartbeats 4000000 in
theorem c_X11_late {E : JE} {l : Launch} (a1 : Int) (h : JH) : jMt E l 153 [.inr (.inr (.inl 0)), .inl a1] 229 jr0 h (k_X11_late a1 h) := by
  refine jMt0 (nL := 3) (ls := [.inr (.inr (.inl 0)), .inl a1, .inr (.inr (.inr ()))]) (by decide +kernel) (by decide +kernel) (by decide +kernel) rfl rfl ?_
  have f0 : jfr w_X11_late h h := jfr_rf _ _
  refine jGo_blk qX11_late_0 ?_
  refine st_cv (na := 1) (st := [.inl a1, .inr (.inr (.inl 0))]) jo_0 rfl rfl rfl (c_X11_isHull a1 h) rfl ?_
  rintro _ _ _ ⟨rfl, rfl, t1, rfl, ht1, zt1⟩ kt1
  replace kt1 : -2147483648 ≤ t1 ∧ t1 ≤ 2147483647 := kt1
  replace ht1 : 0 ≤ t1 ∧ t1 ≤ 1 := ht1
  replace zt1 : (t1 = 1 ∧ 0 ≤ a1 ∧ a1 < h 29 4 ∧ h 29 4 ≤ 16) ∨ (t1 = 0 ∧ ¬ (0 ≤ a1 ∧ a1 < h 29 4)) := zt1
  refine And.intro (fun c3 => ?_) (fun c3 => ?_)
  · replace c3 : ¬ t1 = 0 := c3
    show jGo E l 153 229 229 _ 12 [.inr (.inr (.inl 0)), .inl a1, .inr (.inr (.inr ()))] [] 229 jr0 h
    refine jGo_blk qX11_late_12 ?_
    refine st_gr jo_0 jr_0_5 ?_
    refine st_gr jo_29 jr_29_3 ?_
    refine st_ar jo_33 (by decide) (show 0 ≤ a1 by omega) (show a1 < ((16 : Nat) : Int) by omega) (fun u4 eu4 => ?_)
    replace eu4 : u4 = jr0 33 a1 := eu4
    have qu4 : u4 = 36 + 3 * a1 := eu4.trans (jhul_33 a1 (by omega) (by omega)).1
    have hu4 : jHl u4 := by rw [eu4]; exact (jhul_33 a1 (by omega) (by omega)).2
    refine st_cv (na := 0) (st := [.inr (.inr (.inl u4))]) hu4.1 rfl rfl rfl (c_X4_isUnderWay u4 h hu4) rfl ?_
    rintro _ _ _ ⟨rfl, rfl, t5, rfl, ht5, zt5⟩ kt5
    replace kt5 : -2147483648 ≤ t5 ∧ t5 ≤ 2147483647 := kt5
    replace ht5 : 0 ≤ t5 ∧ t5 ≤ 1 := ht5
    replace zt5 : (t5 = 1 ∧ (h u4 3 = 0 ∨ h u4 3 = 1)) ∨ (t5 = 0 ∧ ¬ (h u4 3 = 0 ∨ h u4 3 = 1)) := zt5
    refine And.intro (fun c7 => ?_) (fun c7 => ?_)
    · replace c7 : ¬ t5 = 0 := c7
      show jGo E l 153 229 229 _ 32 [.inr (.inr (.inl 0)), .inl a1, .inr (.inr (.inr ()))] [] 229 jr0 h
      refine jGo_blk qX11_late_32 ?_
      show jGo E l 153 229 229 _ 33 [.inr (.inr (.inl 0)), .inl a1, .inr (.inr (.inr ()))] [.inl 0] 229 jr0 h
      refine jGo_blk qX11_late_33 ?_
      refine And.intro (fun c8 => ?_) (fun c8 => ?_)
      · replace c8 : (0 : Int) = 0 := c8
        show jGo E l 153 229 229 _ 44 [.inr (.inr (.inl 0)), .inl a1, .inl 0] [] 229 jr0 h
        refine jGo_blk qX11_late_44 ?_
        refine st_cv (na := 1) (st := [.inl a1, .inr (.inr (.inl 0))]) jo_0 rfl rfl rfl (c_X11_readyAhead a1 h (by omega)) rfl ?_
        rintro _ _ g10 ⟨rfl, ft9, t9, rfl, ht9, zt9⟩ kt9
        replace kt9 : -2147483648 ≤ t9 ∧ t9 ≤ 2147483647 := kt9
        have fg10 : jfr w_X11_late h g10 := jfr_tr f0 ft9 ws_X11_readyAhead__X11_late
        replace zt9 : jRA a1 t9 h g10 := zt9
        refine st_gr jo_0 jr_0_5 ?_
        refine st_gr jo_29 jr_29_3 ?_
        refine st_ar jo_33 (by decide) (show 0 ≤ a1 by omega) (show a1 < ((16 : Nat) : Int) by omega) (fun u11 eu11 => ?_)
        replace eu11 : u11 = jr0 33 a1 := eu11
        have qu11 : u11 = 36 + 3 * a1 := eu11.trans (jhul_33 a1 (by omega) (by omega)).1
        have hu11 : jHl u11 := by rw [eu11]; exact (jhul_33 a1 (by omega) (by omega)).2
        refine st_gi hu11.1 (fun v12 ev12 b13 => ?_)
        replace ev12 : v12 = g10 u11 2 := ev12
        replace b13 := (jbf_4_2 hu11.1 _).1 b13
        refine st_gi jo_0 (fun v14 ev14 b15 => ?_)
        replace ev14 : v14 = g10 0 0 := ev14
        replace b15 := (jbf_11_0 jo_0 _).1 b15
        have e16 : g10 0 0 = h 0 0 := ft9 0 0 (by unfold w_X11_readyAhead; omega)
        refine st_cs (na := 3) (st := [.inl v14, .inl v12, .inl t9]) rfl rfl rfl (c_X11_lateness t9 v12 v14 g10) rfl ?_
        rintro _ _ _ ⟨rfl, rfl, t17, rfl, ht17, zt17⟩ kt17
        replace kt17 : -2147483648 ≤ t17 ∧ t17 ≤ 2147483647 := kt17
        replace zt17 : t17 = jlt t9 v12 v14 := zt17
        have e19 : g10 u11 2 = h u11 2 := (ft9 u11 2 (by unfold w_X11_readyAhead; omega))
        have e20 : h u11 2 = h (36 + 3 * a1) 2 := by rw [qu11]
        have e21 : g10 0 0 = h 0 0 := (ft9 0 0 (by unfold w_X11_readyAhead; omega))
        have e22 : h u4 2 = h (36 + 3 * a1) 2 := by rw [qu4]
        have e23 : h u4 3 = h (36 + 3 * a1) 3 := by rw [qu4]
        have e24 : h u4 9 = h (36 + 3 * a1) 9 := by rw [qu4]
        have e25 : h u11 2 = h (36 + 3 * a1) 2 := by rw [qu11]
        have e26 : h u11 3 = h (36 + 3 * a1) 3 := by rw [qu11]
        have e27 : h u11 9 = h (36 + 3 * a1) 9 := by rw [qu11]
        exact st_r0 (ls := []) ⟨rfl, rfl, fg10, t17, rfl, trivial, (by unfold P_X11_late; exact Or.inr (Or.inr ⟨by omega, t9, by rw [zt17, show v12 = h (36 + 3 * a1) 2 by omega, show v14 = h 0 0 by omega], zt9⟩))⟩
      · replace c8 : ¬ (0 : Int) = 0 := by first | exact c8 | exact Int.not_le.mp c8 | exact Int.not_lt.mp c8 | exact Decidable.not_not.mp c8
        exfalso; omega
    · replace c7 : t5 = 0 := by first | exact c7 | exact Int.not_le.mp c7 | exact Int.not_lt.mp c7 | exact Decidable.not_not.mp c7
      show jGo E l 153 229 229 _ 33 [.inr (.inr (.inl 0)), .inl a1, .inr (.inr (.inr ()))] [.inl (-3)] 229 jr0 h
      refine jGo_blk qX11_late_33 ?_
      refine And.intro (fun c28 => ?_) (fun c28 => ?_)
      · replace c28 : (-3 : Int) = 0 := c28
        exfalso; omega
      · replace c28 : ¬ (-3 : Int) = 0 := by first | exact c28 | exact Int.not_le.mp c28 | exact Int.not_lt.mp c28 | exact Decidable.not_not.mp c28
        refine st_cv (na := 1) (st := [.inl (-3), .inr (.inr (.inl 0))]) jo_0 rfl rfl rfl (c_X11_refused (-3) h (by omega)) rfl ?_
        rintro _ _ g30 ⟨rfl, ft29, t29, rfl, ht29, zt29⟩ kt29
        replace kt29 : -2147483648 ≤ t29 ∧ t29 ≤ 2147483647 := kt29
        replace ht29 : -7 ≤ t29 ∧ t29 ≤ -1 := ht29
        have fg30 : jfr w_X11_late h g30 := jfr_tr f0 ft29 ws_X11_refused__X11_late
        replace zt29 : t29 = (-3 : Int) := zt29
        have e31 : h u4 2 = h (36 + 3 * a1) 2 := by rw [qu4]
        have e32 : h u4 3 = h (36 + 3 * a1) 3 := by rw [qu4]
        have e33 : h u4 9 = h (36 + 3 * a1) 9 := by rw [qu4]
        have hc34 : jAP h g30 := jAP_fr (fun i k q => by unfold jwh3 at q; exact (ft29 i k (by unfold w_X11_refused; omega)))
        exact st_r0 (ls := []) ⟨rfl, rfl, fg30, t29, rfl, trivial, (by unfold P_X11_late; by_cases zz : t29 = -1 <;> first | exact Or.inl ⟨by omega, hc34⟩ | exact Or.inr (Or.inl ⟨by omega, hc34⟩))⟩
  · replace c3 : t1 = 0 := by first | exact c3 | exact Int.not_le.mp c3 | exact Int.not_lt.mp c3 | exact Decidable.not_not.mp c3
    show jGo E l 153 229 229 _ 33 [.inr (.inr (.inl 0)), .inl a1, .inr (.inr (.inr ()))] [.inl (-1)] 229 jr0 h
    refine jGo_blk qX11_late_33 ?_
    refine And.intro (fun c35 => ?_) (fun c35 => ?_)
    · replace c35 : (-1 : Int) = 0 := c35
      exfalso; omega
    · replace c35 : ¬ (-1 : Int) = 0 := by first | exact c35 | exact Int.not_le.mp c35 | exact Int.not_lt.mp c35 | exact Decidable.not_not.mp c35
      refine st_cv (na := 1) (st := [.inl (-1), .inr (.inr (.inl 0))]) jo_0 rfl rfl rfl (c_X11_refused (-1) h (by omega)) rfl ?_
      rintro _ _ g37 ⟨rfl, ft36, t36, rfl, ht36, zt36⟩ kt36
      replace kt36 : -2147483648 ≤ t36 ∧ t36 ≤ 2147483647 := kt36
      replace ht36 : -7 ≤ t36 ∧ t36 ≤ -1 := ht36
      have fg37 : jfr w_X11_late h g37 := jfr_tr f0 ft36 ws_X11_refused__X11_late
      replace zt36 : t36 = (-1 : Int) := zt36
      have hc38 : jAP h g37 := jAP_fr (fun i k q => by unfold jwh3 at q; exact (ft36 i k (by unfold w_X11_refused; omega)))
      exact st_r0 (ls := []) ⟨rfl, rfl, fg37, t36, rfl, trivial, (by unfold P_X11_late; by_cases zz : t36 = -1 <;> first | exact Or.inl ⟨by omega, hc38⟩ | exact Or.inr (Or.inl ⟨by omega, hc38⟩))⟩

def k_X12_lateBy (a0 : Int) (a1 : Int) (a2 : Int) (h : JH) (v : Option JV) (r' g : JH) : Prop := r' = jr0 ∧ h = g ∧ ∃ x : Int, v = some (.inl x) ∧ (True) ∧ (x = jlbw a0 a1 a2)
set_option maxHeartbeats 4000000 in
theorem c_X12_lateBy {E : JE} {l : Launch} (a0 : Int) (a1 : Int) (a2 : Int) (h : JH) : jMt E l 154 [.inl a0, .inl a1, .inl a2] 229 jr0 h (k_X12_lateBy a0 a1 a2 h) := by
  refine jMt0 (nL := 4) (ls := [.inl a0, .inl a1, .inl a2, .inr (.inr (.inr ()))]) (by decide +kernel) (by decide +kernel) (by decide +kernel) rfl rfl ?_
  refine jGo_blk qX12_lateBy_0 ?_
  refine And.intro (fun c1 => ?_) (fun c1 => ?_)
  · replace c1 : 0 ≤ a0 := c1
    show jGo E l 154 229 229 _ 12 [.inl a0, .inl a1, .inl a2, .inr (.inr (.inr ()))] [] 229 jr0 h
    refine jGo_blk qX12_lateBy_12 ?_
    show jGo E l 154 229 229 _ 13 [.inl a0, .inl a1, .inl a2, .inr (.inr (.inr ()))] [.inl a0] 229 jr0 h
    refine jGo_blk qX12_lateBy_13 ?_
    refine And.intro (fun c2 => ?_) (fun c2 => ?_)
    · replace c2 : jw32 (a0 - a2) ≤ 0 := c2
      show jGo E l 154 229 229 _ 24 [.inl a0, .inl a1, .inl a2, .inl (jw32 (a0 - a2))] [] 229 jr0 h
      refine jGo_blk qX12_lateBy_24 ?_
      show jGo E l 154 229 229 _ 25 [.inl a0, .inl a1, .inl a2, .inl (jw32 (a0 - a2))] [.inl 0] 229 jr0 h
      refine jGo_blk qX12_lateBy_25 ?_
      exact st_r0 (ls := []) ⟨rfl, rfl, rfl, 0, rfl, trivial, (by unfold jlbw; (first | rw [show (if a0 < 0 then jw32 (a1 + 301) else a0) = a0 from if_neg (by omega)] | rw [show (if a0 < 0 then jw32 (a1 + 301) else a0) = jw32 (a1 + 301) from if_pos (by omega)]); first | rw [if_pos (by omega)] | rw [if_neg (by omega)])⟩
    · replace c2 : 0 < jw32 (a0 - a2) := by first | exact c2 | exact Int.not_le.mp c2 | exact Int.not_lt.mp c2 | exact Decidable.not_not.mp c2
      show jGo E l 154 229 229 _ 25 [.inl a0, .inl a1, .inl a2, .inl (jw32 (a0 - a2))] [.inl (jw32 (a0 - a2))] 229 jr0 h
      refine jGo_blk qX12_lateBy_25 ?_
      exact st_r0 (ls := []) ⟨rfl, rfl, rfl, jw32 (a0 - a2), rfl, trivial, (by unfold jlbw; (first | rw [show (if a0 < 0 then jw32 (a1 + 301) else a0) = a0 from if_neg (by omega)] | rw [show (if a0 < 0 then jw32 (a1 + 301) else a0) = jw32 (a1 + 301) from if_pos (by omega)]); first | rw [if_pos (by omega)] | rw [if_neg (by omega)])⟩
  · replace c1 : a0 < 0 := by first | exact c1 | exact Int.not_le.mp c1 | exact Int.not_lt.mp c1 | exact Decidable.not_not.mp c1
    show jGo E l 154 229 229 _ 13 [.inl a0, .inl a1, .inl a2, .inr (.inr (.inr ()))] [.inl (jw32 (a1 + 301))] 229 jr0 h
    refine jGo_blk qX12_lateBy_13 ?_
    refine And.intro (fun c3 => ?_) (fun c3 => ?_)
    · replace c3 : jw32 ((jw32 (a1 + 301)) - a2) ≤ 0 := c3
      show jGo E l 154 229 229 _ 24 [.inl a0, .inl a1, .inl a2, .inl (jw32 ((jw32 (a1 + 301)) - a2))] [] 229 jr0 h
      refine jGo_blk qX12_lateBy_24 ?_
      show jGo E l 154 229 229 _ 25 [.inl a0, .inl a1, .inl a2, .inl (jw32 ((jw32 (a1 + 301)) - a2))] [.inl 0] 229 jr0 h
      refine jGo_blk qX12_lateBy_25 ?_
      exact st_r0 (ls := []) ⟨rfl, rfl, rfl, 0, rfl, trivial, (by unfold jlbw; (first | rw [show (if a0 < 0 then jw32 (a1 + 301) else a0) = a0 from if_neg (by omega)] | rw [show (if a0 < 0 then jw32 (a1 + 301) else a0) = jw32 (a1 + 301) from if_pos (by omega)]); first | rw [if_pos (by omega)] | rw [if_neg (by omega)])⟩
    · replace c3 : 0 < jw32 ((jw32 (a1 + 301)) - a2) := by first | exact c3 | exact Int.not_le.mp c3 | exact Int.not_lt.mp c3 | exact Decidable.not_not.mp c3
      show jGo E l 154 229 229 _ 25 [.inl a0, .inl a1, .inl a2, .inl (jw32 ((jw32 (a1 + 301)) - a2))] [.inl (jw32 ((jw32 (a1 + 301)) - a2))] 229 jr0 h
      refine jGo_blk qX12_lateBy_25 ?_
      exact st_r0 (ls := []) ⟨rfl, rfl, rfl, jw32 ((jw32 (a1 + 301)) - a2), rfl, trivial, (by unfold jlbw; (first | rw [show (if a0 < 0 then jw32 (a1 + 301) else a0) = a0 from if_neg (by omega)] | rw [show (if a0 < 0 then jw32 (a1 + 301) else a0) = jw32 (a1 + 301) from if_pos (by omega)]); first | rw [if_pos (by omega)] | rw [if_neg (by omega)])⟩

def w_X12_late (i k : Int) : Prop := (i = 181) ∨ (i = 190) ∨ (192 ≤ i ∧ i ≤ 200) ∨ (i = 202) ∨ (i = 219) ∨ (224 ≤ i ∧ i ≤ 225) ∨ (i = 176 ∧ k = 0) ∨ (i = 176 ∧ 30 ≤ k ∧ k ≤ 32)
theorem ws_X12_aside__X12_late (i k : Int) (q : w_X12_aside i k) : w_X12_late i k := by
  unfold w_X12_aside at q; unfold w_X12_late
  rcases q with q | q | q | q | q | q | q
  · exact (Or.inl (by omega))
  · exact (Or.inr (Or.inl (by omega)))
  · exact (Or.inr (Or.inr (Or.inl (by omega))))
  · exact (Or.inr (Or.inr (Or.inr (Or.inl (by omega)))))
  · exact (Or.inr (Or.inr (Or.inr (Or.inr (Or.inr (Or.inl (by omega)))))))
  · exact (Or.inr (Or.inr (Or.inr (Or.inr (Or.inr (Or.inr (Or.inl (by omega))))))))
  · exact (Or.inr (Or.inr (Or.inr (Or.inr (Or.inr (Or.inr (Or.inr (by omega))))))))
theorem ws_X12_goAhead__X12_late (i k : Int) (q : w_X12_goAhead i k) : w_X12_late i k := by
  unfold w_X12_goAhead at q; unfold w_X12_late
  rcases q with q | q | q | q | q
  · exact (Or.inl (by omega))
  · exact (Or.inr (Or.inr (Or.inl (by omega))))
  · exact (Or.inr (Or.inr (Or.inr (Or.inl (by omega)))))
  · exact (Or.inr (Or.inr (Or.inr (Or.inr (Or.inr (Or.inr (Or.inl (by omega))))))))
  · exact (Or.inr (Or.inr (Or.inr (Or.inr (Or.inr (Or.inr (Or.inr (by omega))))))))
theorem ws_X12_refuse__X12_late (i k : Int) (q : w_X12_refuse i k) : w_X12_late i k := by
  unfold w_X12_refuse at q; unfold w_X12_late
  exact (Or.inr (Or.inr (Or.inr (Or.inr (Or.inl (by omega))))))
def k_X12_late (a1 : Int) (h : JH) (v : Option JV) (r' g : JH) : Prop := r' = jr0 ∧ jfr w_X12_late h g ∧ ∃ x : Int, v = some (.inl x) ∧ (True) ∧ (((g 176 0 = h 176 0) ∧ ∀ L k : Int, jlv L k → g L k = h L k) ∧ P_X12_late a1 x h)
set_option maxHeartbeats 4000000 in
theorem c_X12_late {E : JE} {l : Launch} (a1 : Int) (h : JH) (q0 : h 176 0 ≤ 2000) : jMt E l 155 [.inr (.inr (.inl 176)), .inl a1] 229 jr0 h (k_X12_late a1 h) := by
  refine jMt0 (nL := 4) (ls := [.inr (.inr (.inl 176)), .inl a1, .inr (.inr (.inr ())), .inr (.inr (.inr ()))]) (by decide +kernel) (by decide +kernel) (by decide +kernel) rfl rfl ?_
  have f0 : jfr w_X12_late h h := jfr_rf _ _
  refine jGo_bd (fun hbd => ?_)
  have hb9 : ∀ k : Int, 0 ≤ k → k < 16 → h 196 k = 0 ∨ h 196 k = 1 := fun k _ _ => by have := (jba_196 k _).1 (hbd 196 k); omega
  refine jGo_blk qX12_late_0 ?_
  refine st_cv (na := 1) (st := [.inl a1, .inr (.inr (.inl 176))]) jo_176 rfl rfl rfl (c_X12_isHull a1 h) rfl ?_
  rintro _ _ _ ⟨rfl, rfl, t1, rfl, ht1, zt1⟩ kt1
  replace kt1 : -2147483648 ≤ t1 ∧ t1 ≤ 2147483647 := kt1
  replace ht1 : 0 ≤ t1 ∧ t1 ≤ 1 := ht1
  replace zt1 : (t1 = 1 ∧ 0 ≤ a1 ∧ a1 < h 176 14 ∧ h 176 14 ≤ 16) ∨ (t1 = 0 ∧ ¬ (0 ≤ a1 ∧ a1 < h 176 14)) := zt1
  refine And.intro (fun c3 => ?_) (fun c3 => ?_)
  · replace c3 : ¬ t1 = 0 := c3
    show jGo E l 155 229 229 _ 14 [.inr (.inr (.inl 176)), .inl a1, .inr (.inr (.inr ())), .inr (.inr (.inr ()))] [] 229 jr0 h
    refine jGo_blk qX12_late_14 ?_
    refine st_gr jo_176 jr_176_18 ?_
    refine st_ai jo_192 (show 0 ≤ a1 by omega) (show a1 < ((16 : Nat) : Int) by omega) (fun v4 ev4 b5 => ?_)
    replace ev4 : v4 = h 192 a1 := ev4
    replace b5 := (jba_192 a1 _).1 b5
    refine And.intro (fun c6 => ?_) (fun c6 => ?_)
    · replace c6 : v4 ≤ 1 := c6
      show jGo E l 155 229 229 _ 31 [.inr (.inr (.inl 176)), .inl a1, .inr (.inr (.inr ())), .inr (.inr (.inr ()))] [] 229 jr0 h
      refine jGo_blk qX12_late_31 ?_
      refine st_cv (na := 1) (st := [.inl 0, .inr (.inr (.inl 176))]) jo_176 rfl rfl rfl (c_X12_aside 0 h (by omega)) rfl ?_
      rintro _ _ g8 ⟨rfl, ft7, rfl, zt7⟩ kt7
      have fg8 : jfr w_X12_late h g8 := jfr_tr f0 ft7 ws_X12_aside__X12_late
      replace zt7 : (((0 : Int) = 0 → g8 224 0 = h 176 0 ∧ g8 176 0 = h 176 0) ∧ (¬ (0 : Int) = 0 → g8 176 0 = h 224 0)) ∧ g8 = jAs (0 : Int) h := zt7
      have y9 := zt7.2
      refine st_gi jo_176 (fun v10 ev10 b11 => ?_)
      replace ev10 : v10 = g8 176 0 := ev10
      replace b11 := (jbf_12_0 jo_176 _).1 b11
      refine st_cv (na := 0) (st := [.inr (.inr (.inl 176))]) jo_176 rfl rfl rfl (c_X12_goAhead g8 (by omega)) rfl ?_
      rintro _ _ g13 ⟨rfl, ft12, rfl, zt12⟩ kt12
      have fg13 : jfr w_X12_late h g13 := jfr_tr fg8 ft12 ws_X12_goAhead__X12_late
      replace zt12 : (g13 176 0 = g8 176 0 + 300) ∧ g13 = jit jmPi 300 g8 := zt12
      have e14 : g13 224 0 = g8 224 0 := ft12 224 0 (by unfold w_X12_goAhead; omega)
      refine st_gr jo_176 jr_176_24 ?_
      refine st_ai jo_198 (show 0 ≤ a1 by omega) (show a1 < ((16 : Nat) : Int) by omega) (fun v15 ev15 b16 => ?_)
      replace ev15 : v15 = g13 198 a1 := ev15
      replace b16 := (jba_198 a1 _).1 b16
      refine st_gr jo_176 jr_176_17 ?_
      refine st_ai jo_191 (show 0 ≤ a1 by omega) (show a1 < ((16 : Nat) : Int) by omega) (fun v17 ev17 b18 => ?_)
      replace ev17 : v17 = g13 191 a1 := ev17
      replace b18 := (jba_191 a1 _).1 b18
      refine st_cs (na := 3) (st := [.inl v17, .inl v10, .inl v15]) rfl rfl rfl (c_X12_lateBy v15 v10 v17 g13) rfl ?_
      rintro _ _ _ ⟨rfl, rfl, t19, rfl, ht19, zt19⟩ kt19
      replace kt19 : -2147483648 ≤ t19 ∧ t19 ≤ 2147483647 := kt19
      replace zt19 : t19 = jlbw v15 v10 v17 := zt19
      refine st_cv (na := 1) (st := [.inl 1, .inr (.inr (.inl 176))]) jo_176 rfl rfl rfl (c_X12_aside 1 g13 (by omega)) rfl ?_
      rintro _ _ g22 ⟨rfl, ft21, rfl, zt21⟩ kt21
      have fg22 : jfr w_X12_late h g22 := jfr_tr fg13 ft21 ws_X12_aside__X12_late
      replace zt21 : (((1 : Int) = 0 → g22 224 0 = g13 176 0 ∧ g22 176 0 = g13 176 0) ∧ (¬ (1 : Int) = 0 → g22 176 0 = g13 224 0)) ∧ g22 = jAs (1 : Int) g13 := zt21
      have y23 := zt21.2
      have hc24 : ∀ L k : Int, jlv L k → g22 L k = h L k := by
        have s9 := (jAs_save hb9).1
        rw [← show g8 = jAs 0 h from zt7.2] at s9
        have s8 : jSav h g13 := jSav_fr (fun a c q1 q2 => ft12 a c (by unfold w_X12_goAhead; omega)) s9
        rw [show g22 = jAs 1 g13 from zt21.2]
        exact (jAs_rest (by decide) s8).1
      have hc25 : v15 = jit jmPi 300 (jAs 0 h) 198 a1 := by rw [ev15, zt12.2, zt7.2]
      have hc26 : t19 = jlbw (jit jmPi 300 (jAs 0 h) 198 a1) (h 176 0) (h 191 a1) := by
        rw [zt19, hc25, show v10 = h 176 0 by omega, show v17 = h 191 a1 from ev17.trans (((ft12 191 a1 (by unfold w_X12_goAhead; omega)).trans (ft7 191 a1 (by unfold w_X12_aside; omega))))]
      exact st_r0 (ls := []) ⟨rfl, rfl, fg22, t19, rfl, trivial, (by refine ⟨by exact ⟨by omega, hc24⟩, ?_⟩; unfold P_X12_late; exact Or.inr (Or.inr ⟨by omega, hc26⟩))⟩
    · replace c6 : 1 < v4 := by first | exact c6 | exact Int.not_le.mp c6 | exact Int.not_lt.mp c6 | exact Decidable.not_not.mp c6
      refine st_cv (na := 1) (st := [.inl (-3), .inr (.inr (.inl 176))]) jo_176 rfl rfl rfl (c_X12_refuse (-3) h (by omega)) rfl ?_
      rintro _ _ g28 ⟨rfl, ft27, t27, rfl, ht27, zt27⟩ kt27
      replace kt27 : -2147483648 ≤ t27 ∧ t27 ≤ 2147483647 := kt27
      replace ht27 : -7 ≤ t27 ∧ t27 ≤ -1 := ht27
      have fg28 : jfr w_X12_late h g28 := jfr_tr f0 ft27 ws_X12_refuse__X12_late
      replace zt27 : t27 = (-3 : Int) := zt27
      have e29 : g28 176 0 = h 176 0 := ft27 176 0 (by unfold w_X12_refuse; omega)
      have hc30 : ∀ L k : Int, jlv L k → g28 L k = h L k := fun L k q => by have q9 := jlv_o q; exact (ft27 L k (by unfold w_X12_refuse; omega))
      exact st_r0 (ls := []) ⟨rfl, rfl, fg28, t27, rfl, trivial, (by refine ⟨by exact ⟨by omega, hc30⟩, ?_⟩; unfold P_X12_late; by_cases zz : t27 = -1 <;> first | exact Or.inl ⟨by omega, by omega⟩ | exact Or.inr (Or.inl ⟨by omega, by omega, by omega⟩))⟩
  · replace c3 : t1 = 0 := by first | exact c3 | exact Int.not_le.mp c3 | exact Int.not_lt.mp c3 | exact Decidable.not_not.mp c3
    refine st_cv (na := 1) (st := [.inl (-1), .inr (.inr (.inl 176))]) jo_176 rfl rfl rfl (c_X12_refuse (-1) h (by omega)) rfl ?_
    rintro _ _ g32 ⟨rfl, ft31, t31, rfl, ht31, zt31⟩ kt31
    replace kt31 : -2147483648 ≤ t31 ∧ t31 ≤ 2147483647 := kt31
    replace ht31 : -7 ≤ t31 ∧ t31 ≤ -1 := ht31
    have fg32 : jfr w_X12_late h g32 := jfr_tr f0 ft31 ws_X12_refuse__X12_late
    replace zt31 : t31 = (-1 : Int) := zt31
    have e33 : g32 176 0 = h 176 0 := ft31 176 0 (by unfold w_X12_refuse; omega)
    have hc34 : ∀ L k : Int, jlv L k → g32 L k = h L k := fun L k q => by have q9 := jlv_o q; exact (ft31 L k (by unfold w_X12_refuse; omega))
    exact st_r0 (ls := []) ⟨rfl, rfl, fg32, t31, rfl, trivial, (by refine ⟨by exact ⟨by omega, hc34⟩, ?_⟩; unfold P_X12_late; by_cases zz : t31 = -1 <;> first | exact Or.inl ⟨by omega, by omega⟩ | exact Or.inr (Or.inl ⟨by omega, by omega, by omega⟩))⟩

def k_X10_countOf_29 (a1 : Int) (h : JH) (v : Option JV) (r' g : JH) : Prop := r' = jr0 ∧ h = g ∧ ∃ x : Int, v = some (.inl x) ∧ (True) ∧ ((x = jct (jcS h) a1 (h 29 4).toNat) ∧ 0 ≤ x ∧ x ≤ 16)
set_option maxHeartbeats 4000000 in
theorem c_X10_countOf_29 {E : JE} {l : Launch} (a1 : Int) (h : JH) : jMt E l 156 [.inr (.inr (.inl 29)), .inl a1] 229 jr0 h (k_X10_countOf_29 a1 h) := by
  refine jMt0 (nL := 4) (ls := [.inr (.inr (.inl 29)), .inl a1, .inr (.inr (.inr ())), .inr (.inr (.inr ()))]) (by decide +kernel) (by decide +kernel) (by decide +kernel) rfl rfl ?_
  have key : ∀ N : Nat, (∀ (x2 : Int) (x3 : Int), (0 ≤ x3 ∧ x3 ≤ 16) → (x2 = jct (jcS h) a1 (x3).toNat) → (0 ≤ x2 ∧ x2 ≤ x3 ∧ (x3 = 0 ∨ x3 ≤ h 29 4)) → (16 - x3) < (N : Int) → jGo E l 156 229 229 (jRK (k_X10_countOf_29 a1 h)) 4 [.inr (.inr (.inl 29)), .inl a1, .inl x2, .inl x3] [] 229 jr0 h) := by
    intro N
    induction N with
    | zero => exact fun _ _ hi hx0 hx1 hN => absurd hN (by omega)
    | succ N ih =>
      intro x2 x3 hi hx0 hx1 hN
      refine jGo_ok (fun hls _ => ?_)
      have rx2 : -2147483648 ≤ x2 ∧ x2 ≤ 2147483647 := hls (.inl x2) (by simp)
      refine jGo_blk qX10_countOf_4 ?_
      refine st_gi jo_29 (fun v1 ev1 b2 => ?_)
      replace ev1 : v1 = h 29 4 := ev1
      replace b2 := (jbf_10_4 jo_29 _).1 b2
      refine And.intro (fun c3 => ?_) (fun c3 => ?_)
      · replace c3 : v1 ≤ x3 := c3
        show jGo E l 156 229 229 _ 34 [.inr (.inr (.inl 29)), .inl a1, .inl x2, .inl x3] [] 229 jr0 h
        refine jGo_blk qX10_countOf_34 ?_
        exact st_r0 (ls := []) ⟨rfl, rfl, rfl, x2, rfl, trivial, (by refine ⟨by rw [show h 29 4 = x3 by omega]; exact hx0, by omega, by omega⟩)⟩
      · replace c3 : x3 < v1 := by first | exact c3 | exact Int.not_le.mp c3 | exact Int.not_lt.mp c3 | exact Decidable.not_not.mp c3
        refine st_gr jo_29 jr_29_3 ?_
        refine st_ar jo_33 (by decide) (show 0 ≤ x3 by omega) (show x3 < ((16 : Nat) : Int) by omega) (fun u4 eu4 => ?_)
        replace eu4 : u4 = jr0 33 x3 := eu4
        have qu4 : u4 = 36 + 3 * x3 := eu4.trans (jhul_33 x3 (by omega) (by omega)).1
        have hu4 : jHl u4 := by rw [eu4]; exact (jhul_33 x3 (by omega) (by omega)).2
        refine st_gi hu4.1 (fun v5 ev5 b6 => ?_)
        replace ev5 : v5 = h u4 3 := ev5
        replace b6 := (jbf_4_3 hu4.1 _).1 b6
        refine And.intro (fun c7 => ?_) (fun c7 => ?_)
        · replace c7 : ¬ v5 = a1 := c7
          show jGo E l 156 229 229 _ 28 [.inr (.inr (.inl 29)), .inl a1, .inl x2, .inl x3] [] 229 jr0 h
          refine jGo_blk qX10_countOf_28 ?_
          have e8 : jw32 (x3 + 1) = x3 + 1 := jzj32 (by omega)
          show jGo E l 156 229 229 _ 4 [.inr (.inr (.inl 29)), .inl a1, .inl x2, .inl (jw32 (x3 + 1))] [] 229 jr0 h
          exact ih x2 (jw32 (x3 + 1)) (by omega) (by rw [show jw32 (x3 + 1) = x3 + 1 by omega, jct_s (by omega), if_neg (by unfold jcS; rw [show 36 + 3 * x3 = u4 by omega]; omega)]; exact hx0) (by omega) (by omega)
        · replace c7 : v5 = a1 := by first | exact c7 | exact Int.not_le.mp c7 | exact Int.not_lt.mp c7 | exact Decidable.not_not.mp c7
          show jGo E l 156 229 229 _ 28 [.inr (.inr (.inl 29)), .inl a1, .inl (jw32 (x2 + 1)), .inl x3] [] 229 jr0 h
          refine jGo_blk qX10_countOf_28 ?_
          have e9 : jw32 (x3 + 1) = x3 + 1 := jzj32 (by omega)
          show jGo E l 156 229 229 _ 4 [.inr (.inr (.inl 29)), .inl a1, .inl (jw32 (x2 + 1)), .inl (jw32 (x3 + 1))] [] 229 jr0 h
          exact ih (jw32 (x2 + 1)) (jw32 (x3 + 1)) (by omega) (by have j9 : jw32 (x2 + 1) = x2 + 1 := jzj32 (by omega); rw [show jw32 (x3 + 1) = x3 + 1 by omega, jct_s (by omega), if_pos (by unfold jcS; rw [show 36 + 3 * x3 = u4 by omega]; omega)]; omega) (by have j9 : jw32 (x2 + 1) = x2 + 1 := jzj32 (by omega); omega) (by omega)
  refine jGo_blk qX10_countOf_0 ?_
  show jGo E l 156 229 229 _ 4 [.inr (.inr (.inl 29)), .inl a1, .inl 0, .inl 0] [] 229 jr0 h
  exact (key 1000000000000) 0 0 (by omega) (by rfl) (by omega) (by omega)

def w_X7_gatherByNumbers_29 (i k : Int) : Prop := (i = 175) ∨ (i = 111 ∧ k = 2)
def k_X7_gatherByNumbers_29 (h : JH) (v : Option JV) (r' g : JH) : Prop := r' = jr0 ∧ jfr w_X7_gatherByNumbers_29 h g ∧ v = none ∧ (jGaP h g)
set_option maxHeartbeats 4000000 in
theorem c_X7_gatherByNumbers_29 {E : JE} {l : Launch} (h : JH) : jMt E l 157 [.inr (.inr (.inl 111)), .inr (.inr (.inl 29))] 229 jr0 h (k_X7_gatherByNumbers_29 h) := by
  refine jMt0 (nL := 3) (ls := [.inr (.inr (.inl 111)), .inr (.inr (.inl 29)), .inr (.inr (.inr ()))]) (by decide +kernel) (by decide +kernel) (by decide +kernel) rfl rfl ?_
  have f0 : jfr w_X7_gatherByNumbers_29 h h := jfr_rf _ _
  have key : ∀ N : Nat, (∀ (x2 : Int) (g : JH), (0 ≤ x2 ∧ x2 ≤ 16) → (jGa x2 h g) → (x2 = 0 ∨ x2 ≤ h 29 4) → jfr w_X7_gatherByNumbers_29 h g → (16 - x2) < (N : Int) → jGo E l 157 229 229 (jRK (k_X7_gatherByNumbers_29 h)) 7 [.inr (.inr (.inl 111)), .inr (.inr (.inl 29)), .inl x2] [] 229 jr0 g) := by
    intro N
    induction N with
    | zero => exact fun _ _ hi hx0 hx1 _ hN => absurd hN (by omega)
    | succ N ih =>
      intro x2 g hi hx0 hx1 hf hN
      refine jGo_blk qX7_gatherByNumbers_7 ?_
      refine st_gi jo_29 (fun v1 ev1 b2 => ?_)
      replace ev1 : v1 = g 29 4 := ev1
      replace b2 := (jbf_10_4 jo_29 _).1 b2
      refine And.intro (fun c3 => ?_) (fun c3 => ?_)
      · replace c3 : v1 ≤ x2 := c3
        show jGo E l 157 229 229 _ 61 [.inr (.inr (.inl 111)), .inr (.inr (.inl 29)), .inl x2] [] 229 jr0 g
        refine jGo_blk qX7_gatherByNumbers_61 ?_
        exact ⟨rfl, rfl, hf, rfl, (by have q9 := hf 29 4 (by unfold w_X7_gatherByNumbers_29; omega); exact jGa_e (by omega) (by omega) (by omega) hx0)⟩
      · replace c3 : x2 < v1 := by first | exact c3 | exact Int.not_le.mp c3 | exact Int.not_lt.mp c3 | exact Decidable.not_not.mp c3
        refine st_gi jo_111 (fun v4 ev4 b5 => ?_)
        replace ev4 : v4 = g 111 2 := ev4
        replace b5 := (jbf_7_2 jo_111 _).1 b5
        refine And.intro (fun c6 => ?_) (fun c6 => ?_)
        · replace c6 : 5 ≤ v4 := c6
          show jGo E l 157 229 229 _ 61 [.inr (.inr (.inl 111)), .inr (.inr (.inl 29)), .inl x2] [] 229 jr0 g
          refine jGo_blk qX7_gatherByNumbers_61 ?_
          exact ⟨rfl, rfl, hf, rfl, (by have q9 := hf 29 4 (by unfold w_X7_gatherByNumbers_29; omega); exact jGa_e (by omega) (by omega) (by omega) hx0)⟩
        · replace c6 : v4 < 5 := by first | exact c6 | exact Int.not_le.mp c6 | exact Int.not_lt.mp c6 | exact Decidable.not_not.mp c6
          refine st_gr jo_29 jr_29_3 ?_
          refine st_ar jo_33 (by decide) (show 0 ≤ x2 by omega) (show x2 < ((16 : Nat) : Int) by omega) (fun u7 eu7 => ?_)
          replace eu7 : u7 = jr0 33 x2 := eu7
          have qu7 : u7 = 36 + 3 * x2 := eu7.trans (jhul_33 x2 (by omega) (by omega)).1
          have hu7 : jHl u7 := by rw [eu7]; exact (jhul_33 x2 (by omega) (by omega)).2
          refine st_cv (na := 0) (st := [.inr (.inr (.inl u7))]) hu7.1 rfl rfl rfl (c_X4_isUnderWay u7 g hu7) rfl ?_
          rintro _ _ _ ⟨rfl, rfl, t8, rfl, ht8, zt8⟩ kt8
          replace kt8 : -2147483648 ≤ t8 ∧ t8 ≤ 2147483647 := kt8
          replace ht8 : 0 ≤ t8 ∧ t8 ≤ 1 := ht8
          replace zt8 : (t8 = 1 ∧ (g u7 3 = 0 ∨ g u7 3 = 1)) ∨ (t8 = 0 ∧ ¬ (g u7 3 = 0 ∨ g u7 3 = 1)) := zt8
          refine And.intro (fun c10 => ?_) (fun c10 => ?_)
          · replace c10 : t8 = 0 := c10
            show jGo E l 157 229 229 _ 55 [.inr (.inr (.inl 111)), .inr (.inr (.inl 29)), .inl x2] [] 229 jr0 g
            refine jGo_blk qX7_gatherByNumbers_55 ?_
            have e11 : jw32 (x2 + 1) = x2 + 1 := jzj32 (by omega)
            show jGo E l 157 229 229 _ 7 [.inr (.inr (.inl 111)), .inr (.inr (.inl 29)), .inl (jw32 (x2 + 1))] [] 229 jr0 g
            have hc12 : h (36 + 3 * x2) 3 = g u7 3 := by rw [← hf (36 + 3 * x2) 3 (by unfold w_X7_gatherByNumbers_29; omega), show 36 + 3 * x2 = u7 by omega]
            exact ih (jw32 (x2 + 1)) g (by omega) (by rw [show jw32 (x2 + 1) = x2 + 1 by omega]; exact jGa_n (by omega) (by omega) hx0) (by have q9 := hf 29 4 (by unfold w_X7_gatherByNumbers_29; omega); omega) hf (by omega)
          · replace c10 : ¬ t8 = 0 := by first | exact c10 | exact Int.not_le.mp c10 | exact Int.not_lt.mp c10 | exact Decidable.not_not.mp c10
            refine st_gr jo_111 jr_111_8 ?_
            refine st_gi jo_111 (fun v13 ev13 b14 => ?_)
            replace ev13 : v13 = g 111 2 := ev13
            replace b14 := (jbf_7_2 jo_111 _).1 b14
            refine st_si jo_175 (show 0 ≤ v13 by omega) (show v13 < ((5 : Nat) : Int) by omega) (fun hx => (jba_175 _ _).2 (show 0 ≤ x2 ∧ x2 ≤ 15 by omega)) (fun g15 eg15 => ?_)
            replace eg15 : g15 = jup g 175 v13 x2 := eg15
            have fg15 : jfr w_X7_gatherByNumbers_29 h g15 := jfr_up hf eg15 (by unfold w_X7_gatherByNumbers_29; omega)
            have e16 : g15 175 v13 = x2 := jup_s eg15
            refine st_gi jo_111 (fun v17 ev17 b18 => ?_)
            replace ev17 : v17 = g15 111 2 := ev17
            replace b18 := (jbf_7_2 jo_111 _).1 b18
            have e19 : g15 111 2 = g 111 2 := jup_o eg15 (by first | exact fun q => absurd q.1 (by decide) | exact fun q => absurd q.2 (by decide) | omega)
            have e20 : jw32 (v17 + 1) = v17 + 1 := jzj32 (by omega)
            refine st_pi jo_111 (fun hx => (jbf_7_2 jo_111 _).2 (show 0 ≤ jw32 (v17 + 1) ∧ jw32 (v17 + 1) ≤ 5 by omega)) (fun g21 eg21 => ?_)
            replace eg21 : g21 = jup g15 111 2 (jw32 (v17 + 1)) := eg21
            have fg21 : jfr w_X7_gatherByNumbers_29 h g21 := jfr_up fg15 eg21 (by unfold w_X7_gatherByNumbers_29; omega)
            have e22 : g21 111 2 = jw32 (v17 + 1) := jup_s eg21
            show jGo E l 157 229 229 _ 55 [.inr (.inr (.inl 111)), .inr (.inr (.inl 29)), .inl x2] [] 229 jr0 g21
            refine jGo_blk qX7_gatherByNumbers_55 ?_
            have e23 : jw32 (x2 + 1) = x2 + 1 := jzj32 (by omega)
            show jGo E l 157 229 229 _ 7 [.inr (.inr (.inl 111)), .inr (.inr (.inl 29)), .inl (jw32 (x2 + 1))] [] 229 jr0 g21
            have hc24 : h (36 + 3 * x2) 3 = g u7 3 := by rw [← hf (36 + 3 * x2) 3 (by unfold w_X7_gatherByNumbers_29; omega), show 36 + 3 * x2 = u7 by omega]
            exact ih (jw32 (x2 + 1)) g21 (by omega) (by rw [show jw32 (x2 + 1) = x2 + 1 by omega]; exact jGa_y (g := g) (g1 := g15) (by omega) (by omega) (by omega) (by rw [show g 111 2 = v13 by omega]; exact eg15) (by rw [show g 111 2 + 1 = jw32 (v17 + 1) by omega]; exact eg21) hx0) (by have q9 := hf 29 4 (by unfold w_X7_gatherByNumbers_29; omega); omega) fg21 (by omega)
  refine jGo_blk qX7_gatherByNumbers_0 ?_
  refine st_pi jo_111 (fun hx => (jbf_7_2 jo_111 _).2 (show 0 ≤ 0 ∧ 0 ≤ 5 by omega)) (fun g25 eg25 => ?_)
  replace eg25 : g25 = jup h 111 2 0 := eg25
  have fg25 : jfr w_X7_gatherByNumbers_29 h g25 := jfr_up f0 eg25 (by unfold w_X7_gatherByNumbers_29; omega)
  have e26 : g25 111 2 = 0 := jup_s eg25
  show jGo E l 157 229 229 _ 7 [.inr (.inr (.inl 111)), .inr (.inr (.inl 29)), .inl 0] [] 229 jr0 g25
  exact (key 1000000000000) 0 g25 (by omega) (by exact jGa_0 eg25) (by omega) fg25 (by omega)

def w_X10_become_119_29_175 (i k : Int) : Prop := (120 ≤ i ∧ i ≤ 121) ∨ (i = 124) ∨ (126 ≤ i ∧ i ≤ 173) ∨ (i = 119 ∧ k = 6)
def k_X10_become_119_29_175 (a3 : Int) (h : JH) (v : Option JV) (r' g : JH) : Prop := r' = jr0 ∧ jfr w_X10_become_119_29_175 h g ∧ v = none ∧ (jBc 175 a3 h g)
set_option maxHeartbeats 4000000 in
theorem c_X10_become_119_29_175 {E : JE} {l : Launch} (a3 : Int) (h : JH) (p3 : 0 ≤ a3 ∧ a3 ≤ 5) : jMt E l 142 [.inr (.inr (.inl 119)), .inr (.inr (.inl 29)), .inr (.inr (.inl 175)), .inl a3] 229 jr0 h (k_X10_become_119_29_175 a3 h) := by
  refine jMt0 (nL := 5) (ls := [.inr (.inr (.inl 119)), .inr (.inr (.inl 29)), .inr (.inr (.inl 175)), .inl a3, .inr (.inr (.inr ()))]) (by decide +kernel) (by decide +kernel) (by decide +kernel) rfl rfl ?_
  have f0 : jfr w_X10_become_119_29_175 h h := jfr_rf _ _
  have key : ∀ N : Nat, (∀ (x4 : Int) (g : JH), (0 ≤ x4 ∧ x4 ≤ 5) → ((∀ x : Int, 0 ≤ x → x < 6 → g 120 x = h 30 x) ∧ (∀ b : Int, 0 ≤ b → b < 6 → g 121 b = h 31 b) ∧ (∀ i : Int, 0 ≤ i → i < a3 → g 124 i = h 175 i) ∧ g 119 6 = a3) → (∀ i : Int, 0 ≤ i → i < x4 → (∀ f : Int, 0 ≤ f → f ≤ 9 → g (126 + 3 * h 175 i) f = h (36 + 3 * h 175 i) f) ∧ (∀ f : Int, 0 ≤ f → f < 6 → g (126 + 3 * h 175 i + 1) f = h (36 + 3 * h 175 i + 1) f ∧ g (126 + 3 * h 175 i + 2) f = h (36 + 3 * h 175 i + 2) f)) → (x4 ≤ a3) → jfr w_X10_become_119_29_175 h g → (5 - x4) < (N : Int) → jGo E l 142 229 229 (jRK (k_X10_become_119_29_175 a3 h)) 49 [.inr (.inr (.inl 119)), .inr (.inr (.inl 29)), .inr (.inr (.inl 175)), .inl a3, .inl x4] [] 229 jr0 g) := by
    intro N
    induction N with
    | zero => exact fun _ _ hi hx0 hx1 hx2 _ hN => absurd hN (by omega)
    | succ N ih =>
      intro x4 g hi hx0 hx1 hx2 hf hN
      refine jGo_blk qX10_become_49 ?_
      refine And.intro (fun c1 => ?_) (fun c1 => ?_)
      · replace c1 : a3 ≤ x4 := c1
        show jGo E l 142 229 229 _ 88 [.inr (.inr (.inl 119)), .inr (.inr (.inl 29)), .inr (.inr (.inl 175)), .inl a3, .inl x4] [] 229 jr0 g
        refine jGo_blk qX10_become_88 ?_
        exact ⟨rfl, rfl, hf, rfl, (by exact ⟨hx0.1, hx0.2.1, hx0.2.2.1, hx0.2.2.2, fun i p1 p2 => hx1 i p1 (by omega)⟩)⟩
      · replace c1 : x4 < a3 := by first | exact c1 | exact Int.not_le.mp c1 | exact Int.not_lt.mp c1 | exact Decidable.not_not.mp c1
        refine st_gr jo_119 jr_119_3 ?_
        refine st_gr jo_119 jr_119_5 ?_
        refine st_ai jo_124 (show 0 ≤ x4 by omega) (show x4 < ((16 : Nat) : Int) by omega) (fun v2 ev2 b3 => ?_)
        replace ev2 : v2 = g 124 x4 := ev2
        replace b3 := (jba_124 x4 _).1 b3
        refine st_ar jo_123 (by decide) (show 0 ≤ v2 by omega) (show v2 < ((16 : Nat) : Int) by omega) (fun u4 eu4 => ?_)
        replace eu4 : u4 = jr0 123 v2 := eu4
        have qu4 : u4 = 126 + 3 * v2 := eu4.trans (jhul_123 v2 (by omega) (by omega)).1
        have hu4 : jHl u4 := by rw [eu4]; exact (jhul_123 v2 (by omega) (by omega)).2
        refine st_gr jo_29 jr_29_3 ?_
        refine st_gr jo_119 jr_119_5 ?_
        refine st_ai jo_124 (show 0 ≤ x4 by omega) (show x4 < ((16 : Nat) : Int) by omega) (fun v5 ev5 b6 => ?_)
        replace ev5 : v5 = g 124 x4 := ev5
        replace b6 := (jba_124 x4 _).1 b6
        refine st_ar jo_33 (by decide) (show 0 ≤ v5 by omega) (show v5 < ((16 : Nat) : Int) by omega) (fun u7 eu7 => ?_)
        replace eu7 : u7 = jr0 33 v5 := eu7
        have qu7 : u7 = 36 + 3 * v5 := eu7.trans (jhul_33 v5 (by omega) (by omega)).1
        have hu7 : jHl u7 := by rw [eu7]; exact (jhul_33 v5 (by omega) (by omega)).2
        refine st_cv (na := 1) (st := [.inr (.inr (.inl u7)), .inr (.inr (.inl u4))]) hu4.1 rfl rfl rfl (c_X4_become u4 u7 g hu4 hu7 (by omega)) rfl ?_
        rintro _ _ g9 ⟨rfl, ft8, rfl, zt8⟩ kt8
        have fg9 : jfr w_X10_become_119_29_175 h g9 := jfr_tr hf ft8 (fun i k q => by unfold w_X4_become at q; unfold w_X10_become_119_29_175; omega)
        replace zt8 : (∀ f : Int, 0 ≤ f → f ≤ 9 → g9 u4 f = g u7 f) ∧ (∀ f : Int, 0 ≤ f → f < 6 → g9 (u4 + 1) f = g (u7 + 1) f ∧ g9 (u4 + 2) f = g (u7 + 2) f) := zt8
        have e10 : jw32 (x4 + 1) = x4 + 1 := jzj32 (by omega)
        show jGo E l 142 229 229 _ 49 [.inr (.inr (.inl 119)), .inr (.inr (.inl 29)), .inr (.inr (.inl 175)), .inl a3, .inl (jw32 (x4 + 1))] [] 229 jr0 g9
        have e11 : g9 119 6 = g 119 6 := ft8 119 6 (by unfold w_X4_become; omega)
        have hc12 : ∀ i : Int, 0 ≤ i → i < (jw32 (x4 + 1)) → (∀ f : Int, 0 ≤ f → f ≤ 9 → g9 (126 + 3 * h 175 i) f = h (36 + 3 * h 175 i) f) ∧ (∀ f : Int, 0 ≤ f → f < 6 → g9 (126 + 3 * h 175 i + 1) f = h (36 + 3 * h 175 i + 1) f ∧ g9 (126 + 3 * h 175 i + 2) f = h (36 + 3 * h 175 i + 2) f) := by
          intro i p1 p2
          have l4 := hx0.2.2.1 x4 (by omega) (by omega)
          have hR : ∀ k m : Int, 36 ≤ k → k ≤ 83 → g k m = h k m := fun k m q1 q2 => hf k m (by unfold w_X10_become_119_29_175; omega)
          by_cases y : h 175 i = v2
          · rw [y, show 126 + 3 * v2 = u4 by omega, show 36 + 3 * v2 = u7 by omega]
            exact ⟨fun f q1 q2 => (zt8.1 f q1 q2).trans (hR _ f (by omega) (by omega)), fun f q1 q2 => ⟨(zt8.2 f q1 q2).1.trans (hR _ f (by omega) (by omega)), (zt8.2 f q1 q2).2.trans (hR _ f (by omega) (by omega))⟩⟩
          · have o := hx1 i p1 (by by_cases y2 : i = x4; exact absurd (by rw [y2]; omega) y; omega)
            exact ⟨fun f q1 q2 => (ft8 _ f (by unfold w_X4_become; omega)).trans (o.1 f q1 q2), fun f q1 q2 => ⟨(ft8 _ f (by unfold w_X4_become; omega)).trans (o.2 f q1 q2).1, (ft8 _ f (by unfold w_X4_become; omega)).trans (o.2 f q1 q2).2⟩⟩
        exact ih (jw32 (x4 + 1)) g9 (by omega) (by exact ⟨fun x p1 p2 => (ft8 120 x (by unfold w_X4_become; omega)).trans (hx0.1 x p1 p2), fun b p1 p2 => (ft8 121 b (by unfold w_X4_become; omega)).trans (hx0.2.1 b p1 p2), fun i p1 p2 => (ft8 124 i (by unfold w_X4_become; omega)).trans (hx0.2.2.1 i p1 p2), (ft8 119 6 (by unfold w_X4_become; omega)).trans hx0.2.2.2⟩) (by exact hc12) (by omega) fg9 (by omega)
  refine jGo_blk qX10_become_0 ?_
  refine st_gr jo_29 jr_29_0 ?_
  refine st_gr jo_119 jr_119_0 ?_
  refine st_cp jo_120 jo_30 (show 0 ≤ 0 by omega) (show 0 ≤ 0 by omega) (show 0 ≤ 6 by omega) (show 0 + 6 ≤ ((6 : Nat) : Int) by omega) (show 0 + 6 ≤ ((6 : Nat) : Int) by omega) rfl (fun hg j _ _ => (jba_120 _ _).2 (jbd_int (by rw [jo_30.2.2]; decide) (hg _ _))) (fun g13 eg13 => ?_)
  replace eg13 : g13 = jcp h 30 0 120 0 6 := eg13
  have fg13 : jfr w_X10_become_119_29_175 h g13 := jfr_cp f0 eg13 (fun _ => by unfold w_X10_become_119_29_175; omega)
  refine st_gr jo_29 jr_29_1 ?_
  refine st_gr jo_119 jr_119_1 ?_
  refine st_cp jo_121 jo_31 (show 0 ≤ 0 by omega) (show 0 ≤ 0 by omega) (show 0 ≤ 6 by omega) (show 0 + 6 ≤ ((6 : Nat) : Int) by omega) (show 0 + 6 ≤ ((6 : Nat) : Int) by omega) rfl (fun hg j _ _ => (jba_121 _ _).2 ((jba_31 _ _).1 (hg _ _))) (fun g14 eg14 => ?_)
  replace eg14 : g14 = jcp g13 31 0 121 0 6 := eg14
  have fg14 : jfr w_X10_become_119_29_175 h g14 := jfr_cp fg13 eg14 (fun _ => by unfold w_X10_become_119_29_175; omega)
  refine st_gr jo_119 jr_119_5 ?_
  refine st_cp jo_124 jo_175 (show 0 ≤ 0 by omega) (show 0 ≤ 0 by omega) (show 0 ≤ a3 by omega) (show 0 + a3 ≤ ((5 : Nat) : Int) by omega) (show 0 + a3 ≤ ((16 : Nat) : Int) by omega) rfl (fun hg j _ _ => (jba_124 _ _).2 ((jba_175 _ _).1 (hg _ _))) (fun g15 eg15 => ?_)
  replace eg15 : g15 = jcp g14 175 0 124 0 a3 := eg15
  have fg15 : jfr w_X10_become_119_29_175 h g15 := jfr_cp fg14 eg15 (fun _ => by unfold w_X10_become_119_29_175; omega)
  refine st_pi jo_119 (fun hx => (jbf_10_6 jo_119 _).2 (show 0 ≤ a3 ∧ a3 ≤ 16 by omega)) (fun g16 eg16 => ?_)
  replace eg16 : g16 = jup g15 119 6 a3 := eg16
  have fg16 : jfr w_X10_become_119_29_175 h g16 := jfr_up fg15 eg16 (by unfold w_X10_become_119_29_175; omega)
  have e17 : g16 119 6 = a3 := jup_s eg16
  show jGo E l 142 229 229 _ 49 [.inr (.inr (.inl 119)), .inr (.inr (.inl 29)), .inr (.inr (.inl 175)), .inl a3, .inl 0] [] 229 jr0 g16
  exact (key 1000000000000) 0 g16 (by omega) (by exact ⟨fun x p1 p2 => ((((jup_o eg16 (by first | exact fun q => absurd q.1 (by decide) | exact fun q => absurd q.2 (by decide) | omega)).trans ((jcp_o eg15 (by omega)).trans (jcp_o eg14 (by omega))))).trans (jcp_s eg13 p1 (by omega))).trans (congrArg (h 30) (by omega)), fun b p1 p2 => ((((jup_o eg16 (by first | exact fun q => absurd q.1 (by decide) | exact fun q => absurd q.2 (by decide) | omega)).trans (jcp_o eg15 (by omega)))).trans ((jcp_s eg14 p1 (by omega)).trans ((jcp_o eg13 (by omega))))).trans (congrArg (h 31) (by omega)), fun i p1 p2 => (((jup_o eg16 (by first | exact fun q => absurd q.1 (by decide) | exact fun q => absurd q.2 (by decide) | omega))).trans ((jcp_s eg15 p1 (by omega)).trans (((jcp_o eg14 (by omega)).trans (jcp_o eg13 (by omega)))))).trans (congrArg (h 175) (by omega)), jup_s eg16⟩) (by exact fun i p1 p2 => absurd p2 (by omega)) (by omega) fg16 (by omega)
