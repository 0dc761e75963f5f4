def w_X12_ready (i k : Int) : Prop := (i = 181) ∨ (i = 190) ∨ (192 ≤ i ∧ i ≤ 200) ∨ (i = 202) ∨ (i = 219) ∨ (224 ≤ i ∧ i ≤ 225) ∨ (i = 176 ∧ k = 0) ∨ (i = 176 ∧ 30 ≤ k ∧ k ≤ 32)
def k_X12_ready (a1 : Int) (h : JH) (v : Option JV) (r' g : JH) : Prop := r' = jr0 ∧ jfr w_X12_ready h g ∧ ∃ x : Int, v = some (.inl x) ∧ (True) ∧ (((g 176 0 = h 176 0) ∧ ∀ L k : Int, jlv L k → g L k = h L k) ∧ P_X12_ready a1 x h)
set_option maxHeartbeats 4000000 in
theorem c_X12_ready {E : JE} {l : Launch} (a1 : Int) (h : JH) (q0 : h 176 0 ≤ 2000) : jMt E l 151 [.inr (.inr (.inl 176)), .inl a1] 229 jr0 h (k_X12_ready a1 h) := by
  refine jMt0 (nL := 3) (ls := [.inr (.inr (.inl 176)), .inl a1, .inr (.inr (.inr ()))]) (by decide +kernel) (by decide +kernel) (by decide +kernel) rfl rfl ?_
  have f0 : jfr w_X12_ready h h := jfr_rf _ _
  refine jGo_bd (fun hbd => ?_)
  have hb9 : ∀ k : Int, 0 ≤ k → k < 16 → h 196 k = 0 ∨ h 196 k = 1 := fun k _ _ => by have := (jba_196 k _).1 (hbd 196 k); omega
  refine jGo_blk qX12_ready_0 ?_
  refine st_cv (na := 1) (st := [.inl a1, .inr (.inr (.inl 176))]) jo_176 rfl rfl rfl (c_X12_isHull a1 h) rfl ?_
  rintro _ _ _ ⟨rfl, rfl, t1, rfl, ht1, zt1⟩ kt1
  replace kt1 : -2147483648 ≤ t1 ∧ t1 ≤ 2147483647 := kt1
  replace ht1 : 0 ≤ t1 ∧ t1 ≤ 1 := ht1
  replace zt1 : (t1 = 1 ∧ 0 ≤ a1 ∧ a1 < h 176 14 ∧ h 176 14 ≤ 16) ∨ (t1 = 0 ∧ ¬ (0 ≤ a1 ∧ a1 < h 176 14)) := zt1
  refine And.intro (fun c3 => ?_) (fun c3 => ?_)
  · replace c3 : ¬ t1 = 0 := c3
    show jGo E l 151 229 229 _ 14 [.inr (.inr (.inl 176)), .inl a1, .inr (.inr (.inr ()))] [] 229 jr0 h
    refine jGo_blk qX12_ready_14 ?_
    refine st_gr jo_176 jr_176_18 ?_
    refine st_ai jo_192 (show 0 ≤ a1 by omega) (show a1 < ((16 : Nat) : Int) by omega) (fun v4 ev4 b5 => ?_)
    replace ev4 : v4 = h 192 a1 := ev4
    replace b5 := (jba_192 a1 _).1 b5
    refine And.intro (fun c6 => ?_) (fun c6 => ?_)
    · replace c6 : ¬ v4 = 3 := c6
      show jGo E l 151 229 229 _ 31 [.inr (.inr (.inl 176)), .inl a1, .inr (.inr (.inr ()))] [] 229 jr0 h
      refine jGo_blk qX12_ready_31 ?_
      refine st_gr jo_176 jr_176_18 ?_
      refine st_ai jo_192 (show 0 ≤ a1 by omega) (show a1 < ((16 : Nat) : Int) by omega) (fun v7 ev7 b8 => ?_)
      replace ev7 : v7 = h 192 a1 := ev7
      replace b8 := (jba_192 a1 _).1 b8
      refine And.intro (fun c9 => ?_) (fun c9 => ?_)
      · replace c9 : ¬ v7 = 2 := c9
        show jGo E l 151 229 229 _ 48 [.inr (.inr (.inl 176)), .inl a1, .inr (.inr (.inr ()))] [] 229 jr0 h
        refine jGo_blk qX12_ready_48 ?_
        refine st_cv (na := 1) (st := [.inl 0, .inr (.inr (.inl 176))]) jo_176 rfl rfl rfl (c_X12_aside 0 h (by omega)) rfl ?_
        rintro _ _ g11 ⟨rfl, ft10, rfl, zt10⟩ kt10
        have fg11 : jfr w_X12_ready h g11 := jfr_tr f0 ft10 (fun i k q => by unfold w_X12_aside at q; unfold w_X12_ready; omega)
        replace zt10 : (((0 : Int) = 0 → g11 224 0 = h 176 0 ∧ g11 176 0 = h 176 0) ∧ (¬ (0 : Int) = 0 → g11 176 0 = h 224 0)) ∧ g11 = jAs (0 : Int) h := zt10
        have y12 := zt10.2
        refine st_cv (na := 0) (st := [.inr (.inr (.inl 176))]) jo_176 rfl rfl rfl (c_X12_goAhead g11 (by omega)) rfl ?_
        rintro _ _ g14 ⟨rfl, ft13, rfl, zt13⟩ kt13
        have fg14 : jfr w_X12_ready h g14 := jfr_tr fg11 ft13 (fun i k q => by unfold w_X12_goAhead at q; unfold w_X12_ready; omega)
        replace zt13 : (g14 176 0 = g11 176 0 + 300) ∧ g14 = jit jmPi 300 g11 := zt13
        have e15 : g14 224 0 = g11 224 0 := ft13 224 0 (by unfold w_X12_goAhead; omega)
        refine st_gr jo_176 jr_176_24 ?_
        refine st_ai jo_198 (show 0 ≤ a1 by omega) (show a1 < ((16 : Nat) : Int) by omega) (fun v16 ev16 b17 => ?_)
        replace ev16 : v16 = g14 198 a1 := ev16
        replace b17 := (jba_198 a1 _).1 b17
        refine st_cv (na := 1) (st := [.inl 1, .inr (.inr (.inl 176))]) jo_176 rfl rfl rfl (c_X12_aside 1 g14 (by omega)) rfl ?_
        rintro _ _ g19 ⟨rfl, ft18, rfl, zt18⟩ kt18
        have fg19 : jfr w_X12_ready h g19 := jfr_tr fg14 ft18 (fun i k q => by unfold w_X12_aside at q; unfold w_X12_ready; omega)
        replace zt18 : (((1 : Int) = 0 → g19 224 0 = g14 176 0 ∧ g19 176 0 = g14 176 0) ∧ (¬ (1 : Int) = 0 → g19 176 0 = g14 224 0)) ∧ g19 = jAs (1 : Int) g14 := zt18
        have y20 := zt18.2
        have hc21 : ∀ L k : Int, jlv L k → g19 L k = h L k := by
          have s9 := (jAs_save hb9).1
          rw [← show g11 = jAs 0 h from zt10.2] at s9
          have s8 : jSav h g14 := jSav_fr (fun a c q1 q2 => ft13 a c (by unfold w_X12_goAhead; omega)) s9
          rw [show g19 = jAs 1 g14 from zt18.2]
          exact (jAs_rest (by decide) s8).1
        have hc22 : v16 = jit jmPi 300 (jAs 0 h) 198 a1 := by rw [ev16, zt13.2, zt10.2]
        exact st_r0 (ls := []) ⟨rfl, rfl, fg19, v16, rfl, trivial, (by refine ⟨by exact ⟨by omega, hc21⟩, ?_⟩; unfold P_X12_ready; exact Or.inr (Or.inr (Or.inr ⟨by omega, hc22⟩)))⟩
      · replace c9 : v7 = 2 := by first | exact c9 | exact Int.not_le.mp c9 | exact Int.not_lt.mp c9 | exact Decidable.not_not.mp c9
        refine st_gr jo_176 jr_176_24 ?_
        refine st_ai jo_198 (show 0 ≤ a1 by omega) (show a1 < ((16 : Nat) : Int) by omega) (fun v23 ev23 b24 => ?_)
        replace ev23 : v23 = h 198 a1 := ev23
        replace b24 := (jba_198 a1 _).1 b24
        have hc25 : ∀ L k : Int, jlv L k → h L k = h L k := fun L k q => by have q9 := jlv_o q; exact rfl
        exact st_r0 (ls := []) ⟨rfl, rfl, f0, v23, rfl, trivial, (by refine ⟨by exact ⟨by omega, hc25⟩, ?_⟩; unfold P_X12_ready; by_cases zz : v23 = -1 <;> first | exact Or.inl ⟨by omega, by omega⟩ | exact Or.inr (Or.inl ⟨by omega, by omega, by omega⟩) | exact Or.inr (Or.inr (Or.inl ⟨by omega, by omega, by omega⟩)))⟩
    · replace c6 : v4 = 3 := by first | exact c6 | exact Int.not_le.mp c6 | exact Int.not_lt.mp c6 | exact Decidable.not_not.mp c6
      refine st_cv (na := 1) (st := [.inl (-3), .inr (.inr (.inl 176))]) jo_176 rfl rfl rfl (c_X12_refuse (-3) h (by omega)) rfl ?_
      rintro _ _ g27 ⟨rfl, ft26, t26, rfl, ht26, zt26⟩ kt26
      replace kt26 : -2147483648 ≤ t26 ∧ t26 ≤ 2147483647 := kt26
      replace ht26 : -7 ≤ t26 ∧ t26 ≤ -1 := ht26
      have fg27 : jfr w_X12_ready h g27 := jfr_tr f0 ft26 (fun i k q => by unfold w_X12_refuse at q; unfold w_X12_ready; omega)
      replace zt26 : t26 = (-3 : Int) := zt26
      have e28 : g27 176 0 = h 176 0 := ft26 176 0 (by unfold w_X12_refuse; omega)
      have hc29 : ∀ L k : Int, jlv L k → g27 L k = h L k := fun L k q => by have q9 := jlv_o q; exact (ft26 L k (by unfold w_X12_refuse; omega))
      exact st_r0 (ls := []) ⟨rfl, rfl, fg27, t26, rfl, trivial, (by refine ⟨by exact ⟨by omega, hc29⟩, ?_⟩; unfold P_X12_ready; by_cases zz : t26 = -1 <;> first | exact Or.inl ⟨by omega, by omega⟩ | exact Or.inr (Or.inl ⟨by omega, by omega, by omega⟩) | exact Or.inr (Or.inr (Or.inl ⟨by omega, by omega, by omega⟩)))⟩
  · replace c3 : t1 = 0 := by first | exact c3 | exact Int.not_le.mp c3 | exact Int.not_lt.mp c3 | exact Decidable.not_not.mp c3
    refine st_cv (na := 1) (st := [.inl (-1), .inr (.inr (.inl 176))]) jo_176 rfl rfl rfl (c_X12_refuse (-1) h (by omega)) rfl ?_
    rintro _ _ g31 ⟨rfl, ft30, t30, rfl, ht30, zt30⟩ kt30
    replace kt30 : -2147483648 ≤ t30 ∧ t30 ≤ 2147483647 := kt30
    replace ht30 : -7 ≤ t30 ∧ t30 ≤ -1 := ht30
    have fg31 : jfr w_X12_ready h g31 := jfr_tr f0 ft30 (fun i k q => by unfold w_X12_refuse at q; unfold w_X12_ready; omega)
    replace zt30 : t30 = (-1 : Int) := zt30
    have e32 : g31 176 0 = h 176 0 := ft30 176 0 (by unfold w_X12_refuse; omega)
    have hc33 : ∀ L k : Int, jlv L k → g31 L k = h L k := fun L k q => by have q9 := jlv_o q; exact (ft30 L k (by unfold w_X12_refuse; omega))
    exact st_r0 (ls := []) ⟨rfl, rfl, fg31, t30, rfl, trivial, (by refine ⟨by exact ⟨by omega, hc33⟩, ?_⟩; unfold P_X12_ready; by_cases zz : t30 = -1 <;> first | exact Or.inl ⟨by omega, by omega⟩ | exact Or.inr (Or.inl ⟨by omega, by omega, by omega⟩) | exact Or.inr (Or.inr (Or.inl ⟨by omega, by omega, by omega⟩)))⟩
