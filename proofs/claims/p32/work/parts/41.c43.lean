def w_X12_late (i k : Int) : Prop := (i = 181) ∨ (i = 190) ∨ (192 ≤ i ∧ i ≤ 200) ∨ (i = 202) ∨ (i = 219) ∨ (224 ≤ i ∧ i ≤ 225) ∨ (i = 176 ∧ k = 0) ∨ (i = 176 ∧ 30 ≤ k ∧ k ≤ 32)
def k_X12_late (a1 : Int) (h : JH) (v : Option JV) (r' g : JH) : Prop := r' = jr0 ∧ jfr w_X12_late h g ∧ ∃ x : Int, v = some (.inl x) ∧ (True) ∧ (((g 176 0 = h 176 0) ∧ ∀ L k : Int, jlv L k → g L k = h L k) ∧ P_X12_late a1 x h)
set_option maxHeartbeats 4000000 in
theorem c_X12_late {E : JE} {l : Launch} (a1 : Int) (h : JH) (q0 : h 176 0 ≤ 2000) : jMt E l 155 [.inr (.inr (.inl 176)), .inl a1] 229 jr0 h (k_X12_late a1 h) := by
  refine jMt0 (nL := 4) (ls := [.inr (.inr (.inl 176)), .inl a1, .inr (.inr (.inr ())), .inr (.inr (.inr ()))]) (by decide +kernel) (by decide +kernel) (by decide +kernel) rfl rfl ?_
  have f0 : jfr w_X12_late h h := jfr_rf _ _
  refine jGo_bd (fun hbd => ?_)
  have hb9 : ∀ k : Int, 0 ≤ k → k < 16 → h 196 k = 0 ∨ h 196 k = 1 := fun k _ _ => by have := (jba_196 k _).1 (hbd 196 k); omega
  refine jGo_blk qX12_late_0 ?_
  refine st_cv (na := 1) (st := [.inl a1, .inr (.inr (.inl 176))]) jo_176 rfl rfl rfl (c_X12_isHull a1 h) rfl ?_
  rintro _ _ _ ⟨rfl, rfl, t1, rfl, ht1, zt1⟩ kt1
  replace kt1 : -2147483648 ≤ t1 ∧ t1 ≤ 2147483647 := kt1
  replace ht1 : 0 ≤ t1 ∧ t1 ≤ 1 := ht1
  replace zt1 : (t1 = 1 ∧ 0 ≤ a1 ∧ a1 < h 176 14 ∧ h 176 14 ≤ 16) ∨ (t1 = 0 ∧ ¬ (0 ≤ a1 ∧ a1 < h 176 14)) := zt1
  refine And.intro (fun c3 => ?_) (fun c3 => ?_)
  · replace c3 : ¬ t1 = 0 := c3
    show jGo E l 155 229 229 _ 14 [.inr (.inr (.inl 176)), .inl a1, .inr (.inr (.inr ())), .inr (.inr (.inr ()))] [] 229 jr0 h
    refine jGo_blk qX12_late_14 ?_
    refine st_gr jo_176 jr_176_18 ?_
    refine st_ai jo_192 (show 0 ≤ a1 by omega) (show a1 < ((16 : Nat) : Int) by omega) (fun v4 ev4 b5 => ?_)
    replace ev4 : v4 = h 192 a1 := ev4
    replace b5 := (jba_192 a1 _).1 b5
    refine And.intro (fun c6 => ?_) (fun c6 => ?_)
    · replace c6 : v4 ≤ 1 := c6
      show jGo E l 155 229 229 _ 31 [.inr (.inr (.inl 176)), .inl a1, .inr (.inr (.inr ())), .inr (.inr (.inr ()))] [] 229 jr0 h
      refine jGo_blk qX12_late_31 ?_
      refine st_cv (na := 1) (st := [.inl 0, .inr (.inr (.inl 176))]) jo_176 rfl rfl rfl (c_X12_aside 0 h (by omega)) rfl ?_
      rintro _ _ g8 ⟨rfl, ft7, rfl, zt7⟩ kt7
      have fg8 : jfr w_X12_late h g8 := jfr_tr f0 ft7 (fun i k q => by unfold w_X12_aside at q; unfold w_X12_late; omega)
      replace zt7 : (((0 : Int) = 0 → g8 224 0 = h 176 0 ∧ g8 176 0 = h 176 0) ∧ (¬ (0 : Int) = 0 → g8 176 0 = h 224 0)) ∧ g8 = jAs (0 : Int) h := zt7
      have y9 := zt7.2
      refine st_gi jo_176 (fun v10 ev10 b11 => ?_)
      replace ev10 : v10 = g8 176 0 := ev10
      replace b11 := (jbf_12_0 jo_176 _).1 b11
      refine st_cv (na := 0) (st := [.inr (.inr (.inl 176))]) jo_176 rfl rfl rfl (c_X12_goAhead g8 (by omega)) rfl ?_
      rintro _ _ g13 ⟨rfl, ft12, rfl, zt12⟩ kt12
      have fg13 : jfr w_X12_late h g13 := jfr_tr fg8 ft12 (fun i k q => by unfold w_X12_goAhead at q; unfold w_X12_late; omega)
      replace zt12 : (g13 176 0 = g8 176 0 + 300) ∧ g13 = jit jmPi 300 g8 := zt12
      have e14 : g13 224 0 = g8 224 0 := ft12 224 0 (by unfold w_X12_goAhead; omega)
      refine st_gr jo_176 jr_176_24 ?_
      refine st_ai jo_198 (show 0 ≤ a1 by omega) (show a1 < ((16 : Nat) : Int) by omega) (fun v15 ev15 b16 => ?_)
      replace ev15 : v15 = g13 198 a1 := ev15
      replace b16 := (jba_198 a1 _).1 b16
      refine st_gr jo_176 jr_176_17 ?_
      refine st_ai jo_191 (show 0 ≤ a1 by omega) (show a1 < ((16 : Nat) : Int) by omega) (fun v17 ev17 b18 => ?_)
      replace ev17 : v17 = g13 191 a1 := ev17
      replace b18 := (jba_191 a1 _).1 b18
      refine st_cs (na := 3) (st := [.inl v17, .inl v10, .inl v15]) rfl rfl rfl (c_X12_lateBy v15 v10 v17 g13) rfl ?_
      rintro _ _ _ ⟨rfl, rfl, t19, rfl, ht19, zt19⟩ kt19
      replace kt19 : -2147483648 ≤ t19 ∧ t19 ≤ 2147483647 := kt19
      replace zt19 : t19 = jlbw v15 v10 v17 := zt19
      refine st_cv (na := 1) (st := [.inl 1, .inr (.inr (.inl 176))]) jo_176 rfl rfl rfl (c_X12_aside 1 g13 (by omega)) rfl ?_
      rintro _ _ g22 ⟨rfl, ft21, rfl, zt21⟩ kt21
      have fg22 : jfr w_X12_late h g22 := jfr_tr fg13 ft21 (fun i k q => by unfold w_X12_aside at q; unfold w_X12_late; omega)
      replace zt21 : (((1 : Int) = 0 → g22 224 0 = g13 176 0 ∧ g22 176 0 = g13 176 0) ∧ (¬ (1 : Int) = 0 → g22 176 0 = g13 224 0)) ∧ g22 = jAs (1 : Int) g13 := zt21
      have y23 := zt21.2
      have hc24 : ∀ L k : Int, jlv L k → g22 L k = h L k := by
        have s9 := (jAs_save hb9).1
        rw [← show g8 = jAs 0 h from zt7.2] at s9
        have s8 : jSav h g13 := jSav_fr (fun a c q1 q2 => ft12 a c (by unfold w_X12_goAhead; omega)) s9
        rw [show g22 = jAs 1 g13 from zt21.2]
        exact (jAs_rest (by decide) s8).1
      have hc25 : v15 = jit jmPi 300 (jAs 0 h) 198 a1 := by rw [ev15, zt12.2, zt7.2]
      have hc26 : t19 = jlbw (jit jmPi 300 (jAs 0 h) 198 a1) (h 176 0) (h 191 a1) := by
        rw [zt19, hc25, show v10 = h 176 0 by omega, show v17 = h 191 a1 from ev17.trans (((ft12 191 a1 (by unfold w_X12_goAhead; omega)).trans (ft7 191 a1 (by unfold w_X12_aside; omega))))]
      exact st_r0 (ls := []) ⟨rfl, rfl, fg22, t19, rfl, trivial, (by refine ⟨by exact ⟨by omega, hc24⟩, ?_⟩; unfold P_X12_late; exact Or.inr (Or.inr ⟨by omega, hc26⟩))⟩
    · replace c6 : 1 < v4 := by first | exact c6 | exact Int.not_le.mp c6 | exact Int.not_lt.mp c6 | exact Decidable.not_not.mp c6
      refine st_cv (na := 1) (st := [.inl (-3), .inr (.inr (.inl 176))]) jo_176 rfl rfl rfl (c_X12_refuse (-3) h (by omega)) rfl ?_
      rintro _ _ g28 ⟨rfl, ft27, t27, rfl, ht27, zt27⟩ kt27
      replace kt27 : -2147483648 ≤ t27 ∧ t27 ≤ 2147483647 := kt27
      replace ht27 : -7 ≤ t27 ∧ t27 ≤ -1 := ht27
      have fg28 : jfr w_X12_late h g28 := jfr_tr f0 ft27 (fun i k q => by unfold w_X12_refuse at q; unfold w_X12_late; omega)
      replace zt27 : t27 = (-3 : Int) := zt27
      have e29 : g28 176 0 = h 176 0 := ft27 176 0 (by unfold w_X12_refuse; omega)
      have hc30 : ∀ L k : Int, jlv L k → g28 L k = h L k := fun L k q => by have q9 := jlv_o q; exact (ft27 L k (by unfold w_X12_refuse; omega))
      exact st_r0 (ls := []) ⟨rfl, rfl, fg28, t27, rfl, trivial, (by refine ⟨by exact ⟨by omega, hc30⟩, ?_⟩; unfold P_X12_late; by_cases zz : t27 = -1 <;> first | exact Or.inl ⟨by omega, by omega⟩ | exact Or.inr (Or.inl ⟨by omega, by omega, by omega⟩))⟩
  · replace c3 : t1 = 0 := by first | exact c3 | exact Int.not_le.mp c3 | exact Int.not_lt.mp c3 | exact Decidable.not_not.mp c3
    refine st_cv (na := 1) (st := [.inl (-1), .inr (.inr (.inl 176))]) jo_176 rfl rfl rfl (c_X12_refuse (-1) h (by omega)) rfl ?_
    rintro _ _ g32 ⟨rfl, ft31, t31, rfl, ht31, zt31⟩ kt31
    replace kt31 : -2147483648 ≤ t31 ∧ t31 ≤ 2147483647 := kt31
    replace ht31 : -7 ≤ t31 ∧ t31 ≤ -1 := ht31
    have fg32 : jfr w_X12_late h g32 := jfr_tr f0 ft31 (fun i k q => by unfold w_X12_refuse at q; unfold w_X12_late; omega)
    replace zt31 : t31 = (-1 : Int) := zt31
    have e33 : g32 176 0 = h 176 0 := ft31 176 0 (by unfold w_X12_refuse; omega)
    have hc34 : ∀ L k : Int, jlv L k → g32 L k = h L k := fun L k q => by have q9 := jlv_o q; exact (ft31 L k (by unfold w_X12_refuse; omega))
    exact st_r0 (ls := []) ⟨rfl, rfl, fg32, t31, rfl, trivial, (by refine ⟨by exact ⟨by omega, hc34⟩, ?_⟩; unfold P_X12_late; by_cases zz : t31 = -1 <;> first | exact Or.inl ⟨by omega, by omega⟩ | exact Or.inr (Or.inl ⟨by omega, by omega, by omega⟩))⟩
