def w_X12_hullOf (i k : Int) : Prop := (i = 219)
def k_X12_hullOf (a1 : Int) (a2 : Int) (h : JH) (v : Option JV) (r' g : JH) : Prop := r' = jr0 ∧ jfr w_X12_hullOf h g ∧ ∃ x : Int, v = some (.inl x) ∧ (True) ∧ (P_X12_hullOf a1 a2 x h)
set_option maxHeartbeats 4000000 in
theorem c_X12_hullOf {E : JE} {l : Launch} (a1 : Int) (a2 : Int) (h : JH) : jMt E l 171 [.inr (.inr (.inl 176)), .inl a1, .inl a2] 229 jr0 h (k_X12_hullOf a1 a2 h) := by
  refine jMt0 (nL := 3) (ls := [.inr (.inr (.inl 176)), .inl a1, .inl a2]) (by decide +kernel) (by decide +kernel) (by decide +kernel) rfl rfl ?_
  have f0 : jfr w_X12_hullOf h h := jfr_rf _ _
  refine jGo_blk qX12_hullOf_0 ?_
  refine st_cv (na := 1) (st := [.inl a1, .inr (.inr (.inl 176))]) jo_176 rfl rfl rfl (c_X12_isHull a1 h) rfl ?_
  rintro _ _ _ ⟨rfl, rfl, t1, rfl, ht1, zt1⟩ kt1
  replace kt1 : -2147483648 ≤ t1 ∧ t1 ≤ 2147483647 := kt1
  replace ht1 : 0 ≤ t1 ∧ t1 ≤ 1 := ht1
  replace zt1 : (t1 = 1 ∧ 0 ≤ a1 ∧ a1 < h 176 14 ∧ h 176 14 ≤ 16) ∨ (t1 = 0 ∧ ¬ (0 ≤ a1 ∧ a1 < h 176 14)) := zt1
  refine And.intro (fun c3 => ?_) (fun c3 => ?_)
  · replace c3 : ¬ t1 = 0 := c3
    show jGo E l 171 229 229 _ 14 [.inr (.inr (.inl 176)), .inl a1, .inl a2] [] 229 jr0 h
    refine jGo_blk qX12_hullOf_14 ?_
    refine And.intro (fun c4 => ?_) (And.intro (fun c4 => ?_) (And.intro (fun c4 => ?_) (And.intro (fun c4 => ?_) (And.intro (fun c4 => ?_) (And.intro (fun c4 => ?_) (And.intro (fun c4 => ?_) (And.intro (fun c4 => ?_) (And.intro (fun c4 => ?_) (And.intro (fun c4 => ?_) (trivial))))))))))
    · replace c4 : a2 < 0 ∨ 8 < a2 := c4
      show jGo E l 171 229 229 _ 159 [.inr (.inr (.inl 176)), .inl a1, .inl a2] [] 229 jr0 h
      refine jGo_blk qX12_hullOf_159 ?_
      refine st_cv (na := 1) (st := [.inl (-2), .inr (.inr (.inl 176))]) jo_176 rfl rfl rfl (c_X12_refuse (-2) h (by omega)) rfl ?_
      rintro _ _ g6 ⟨rfl, ft5, t5, rfl, ht5, zt5⟩ kt5
      replace kt5 : -2147483648 ≤ t5 ∧ t5 ≤ 2147483647 := kt5
      replace ht5 : -7 ≤ t5 ∧ t5 ≤ -1 := ht5
      have fg6 : jfr w_X12_hullOf h g6 := jfr_tr f0 ft5 (fun i k q => by unfold w_X12_refuse at q; unfold w_X12_hullOf; omega)
      replace zt5 : t5 = (-2 : Int) := zt5
      exact st_r0 (ls := []) ⟨rfl, rfl, fg6, t5, rfl, trivial, (by unfold P_X12_hullOf; first | exact Or.inl (by omega) | (refine Or.inr ⟨by omega, ?_⟩; first | exact Or.inl (by omega) | exact Or.inr (Or.inl (by omega)) | exact Or.inr (Or.inr (Or.inl (by omega))) | exact Or.inr (Or.inr (Or.inr (Or.inl (by omega)))) | exact Or.inr (Or.inr (Or.inr (Or.inr (Or.inl (by omega))))) | exact Or.inr (Or.inr (Or.inr (Or.inr (Or.inr (Or.inl (by omega)))))) | exact Or.inr (Or.inr (Or.inr (Or.inr (Or.inr (Or.inr (Or.inl (by omega))))))) | exact Or.inr (Or.inr (Or.inr (Or.inr (Or.inr (Or.inr (Or.inr (Or.inl (by omega)))))))) | exact Or.inr (Or.inr (Or.inr (Or.inr (Or.inr (Or.inr (Or.inr (Or.inr (Or.inl (by omega))))))))) | exact Or.inr (Or.inr (Or.inr (Or.inr (Or.inr (Or.inr (Or.inr (Or.inr (Or.inr (Or.inl (by omega)))))))))) | exact Or.inr (Or.inr (Or.inr (Or.inr (Or.inr (Or.inr (Or.inr (Or.inr (Or.inr (Or.inr (Or.inl (by omega))))))))))) | exact Or.inr (Or.inr (Or.inr (Or.inr (Or.inr (Or.inr (Or.inr (Or.inr (Or.inr (Or.inr (Or.inr (by omega)))))))))))))⟩
    · replace c4 : a2 = 0 := c4
      show jGo E l 171 229 229 _ 64 [.inr (.inr (.inl 176)), .inl a1, .inl a2] [] 229 jr0 h
      refine jGo_blk qX12_hullOf_64 ?_
      refine st_gr jo_176 jr_176_18 ?_
      refine st_ai jo_192 (show 0 ≤ a1 by omega) (show a1 < ((16 : Nat) : Int) by omega) (fun v7 ev7 b8 => ?_)
      replace ev7 : v7 = h 192 a1 := ev7
      replace b8 := (jba_192 a1 _).1 b8
      exact st_r0 (ls := []) ⟨rfl, rfl, f0, v7, rfl, trivial, (by unfold P_X12_hullOf; first | exact Or.inl (by omega) | (refine Or.inr ⟨by omega, ?_⟩; first | exact Or.inl (by omega) | exact Or.inr (Or.inl (by omega)) | exact Or.inr (Or.inr (Or.inl (by omega))) | exact Or.inr (Or.inr (Or.inr (Or.inl (by omega)))) | exact Or.inr (Or.inr (Or.inr (Or.inr (Or.inl (by omega))))) | exact Or.inr (Or.inr (Or.inr (Or.inr (Or.inr (Or.inl (by omega)))))) | exact Or.inr (Or.inr (Or.inr (Or.inr (Or.inr (Or.inr (Or.inl (by omega))))))) | exact Or.inr (Or.inr (Or.inr (Or.inr (Or.inr (Or.inr (Or.inr (Or.inl (by omega)))))))) | exact Or.inr (Or.inr (Or.inr (Or.inr (Or.inr (Or.inr (Or.inr (Or.inr (Or.inl (by omega))))))))) | exact Or.inr (Or.inr (Or.inr (Or.inr (Or.inr (Or.inr (Or.inr (Or.inr (Or.inr (Or.inl (by omega)))))))))) | exact Or.inr (Or.inr (Or.inr (Or.inr (Or.inr (Or.inr (Or.inr (Or.inr (Or.inr (Or.inr (Or.inl (by omega))))))))))) | exact Or.inr (Or.inr (Or.inr (Or.inr (Or.inr (Or.inr (Or.inr (Or.inr (Or.inr (Or.inr (Or.inr (by omega)))))))))))))⟩
    · replace c4 : a2 = 1 := c4
      show jGo E l 171 229 229 _ 71 [.inr (.inr (.inl 176)), .inl a1, .inl a2] [] 229 jr0 h
      refine jGo_blk qX12_hullOf_71 ?_
      refine st_gr jo_176 jr_176_19 ?_
      refine st_ai jo_193 (show 0 ≤ a1 by omega) (show a1 < ((16 : Nat) : Int) by omega) (fun v9 ev9 b10 => ?_)
      replace ev9 : v9 = h 193 a1 := ev9
      replace b10 := (jba_193 a1 _).1 b10
      exact st_r0 (ls := []) ⟨rfl, rfl, f0, v9, rfl, trivial, (by unfold P_X12_hullOf; first | exact Or.inl (by omega) | (refine Or.inr ⟨by omega, ?_⟩; first | exact Or.inl (by omega) | exact Or.inr (Or.inl (by omega)) | exact Or.inr (Or.inr (Or.inl (by omega))) | exact Or.inr (Or.inr (Or.inr (Or.inl (by omega)))) | exact Or.inr (Or.inr (Or.inr (Or.inr (Or.inl (by omega))))) | exact Or.inr (Or.inr (Or.inr (Or.inr (Or.inr (Or.inl (by omega)))))) | exact Or.inr (Or.inr (Or.inr (Or.inr (Or.inr (Or.inr (Or.inl (by omega))))))) | exact Or.inr (Or.inr (Or.inr (Or.inr (Or.inr (Or.inr (Or.inr (Or.inl (by omega)))))))) | exact Or.inr (Or.inr (Or.inr (Or.inr (Or.inr (Or.inr (Or.inr (Or.inr (Or.inl (by omega))))))))) | exact Or.inr (Or.inr (Or.inr (Or.inr (Or.inr (Or.inr (Or.inr (Or.inr (Or.inr (Or.inl (by omega)))))))))) | exact Or.inr (Or.inr (Or.inr (Or.inr (Or.inr (Or.inr (Or.inr (Or.inr (Or.inr (Or.inr (Or.inl (by omega))))))))))) | exact Or.inr (Or.inr (Or.inr (Or.inr (Or.inr (Or.inr (Or.inr (Or.inr (Or.inr (Or.inr (Or.inr (by omega)))))))))))))⟩
    · replace c4 : a2 = 2 := c4
      show jGo E l 171 229 229 _ 78 [.inr (.inr (.inl 176)), .inl a1, .inl a2] [] 229 jr0 h
      refine jGo_blk qX12_hullOf_78 ?_
      refine st_gr jo_176 jr_176_18 ?_
      refine st_ai jo_192 (show 0 ≤ a1 by omega) (show a1 < ((16 : Nat) : Int) by omega) (fun v11 ev11 b12 => ?_)
      replace ev11 : v11 = h 192 a1 := ev11
      replace b12 := (jba_192 a1 _).1 b12
      refine And.intro (fun c13 => ?_) (fun c13 => ?_)
      · replace c13 : ¬ v11 = 1 := c13
        show jGo E l 171 229 229 _ 97 [.inr (.inr (.inl 176)), .inl a1, .inl a2] [] 229 jr0 h
        refine jGo_blk qX12_hullOf_97 ?_
        show jGo E l 171 229 229 _ 98 [.inr (.inr (.inl 176)), .inl a1, .inl a2] [.inl 0] 229 jr0 h
        refine jGo_blk qX12_hullOf_98 ?_
        exact st_r0 (ls := []) ⟨rfl, rfl, f0, 0, rfl, trivial, (by unfold P_X12_hullOf; first | exact Or.inl (by omega) | (refine Or.inr ⟨by omega, ?_⟩; first | exact Or.inl (by omega) | exact Or.inr (Or.inl (by omega)) | exact Or.inr (Or.inr (Or.inl (by omega))) | exact Or.inr (Or.inr (Or.inr (Or.inl (by omega)))) | exact Or.inr (Or.inr (Or.inr (Or.inr (Or.inl (by omega))))) | exact Or.inr (Or.inr (Or.inr (Or.inr (Or.inr (Or.inl (by omega)))))) | exact Or.inr (Or.inr (Or.inr (Or.inr (Or.inr (Or.inr (Or.inl (by omega))))))) | exact Or.inr (Or.inr (Or.inr (Or.inr (Or.inr (Or.inr (Or.inr (Or.inl (by omega)))))))) | exact Or.inr (Or.inr (Or.inr (Or.inr (Or.inr (Or.inr (Or.inr (Or.inr (Or.inl (by omega))))))))) | exact Or.inr (Or.inr (Or.inr (Or.inr (Or.inr (Or.inr (Or.inr (Or.inr (Or.inr (Or.inl (by omega)))))))))) | exact Or.inr (Or.inr (Or.inr (Or.inr (Or.inr (Or.inr (Or.inr (Or.inr (Or.inr (Or.inr (Or.inl (by omega))))))))))) | exact Or.inr (Or.inr (Or.inr (Or.inr (Or.inr (Or.inr (Or.inr (Or.inr (Or.inr (Or.inr (Or.inr (by omega)))))))))))))⟩
      · replace c13 : v11 = 1 := by first | exact c13 | exact Int.not_le.mp c13 | exact Int.not_lt.mp c13 | exact Decidable.not_not.mp c13
        refine st_gr jo_176 jr_176_21 ?_
        refine st_ai jo_195 (show 0 ≤ a1 by omega) (show a1 < ((16 : Nat) : Int) by omega) (fun v14 ev14 b15 => ?_)
        replace ev14 : v14 = h 195 a1 := ev14
        replace b15 := (jba_195 a1 _).1 b15
        show jGo E l 171 229 229 _ 98 [.inr (.inr (.inl 176)), .inl a1, .inl a2] [.inl v14] 229 jr0 h
        refine jGo_blk qX12_hullOf_98 ?_
        exact st_r0 (ls := []) ⟨rfl, rfl, f0, v14, rfl, trivial, (by unfold P_X12_hullOf; first | exact Or.inl (by omega) | (refine Or.inr ⟨by omega, ?_⟩; first | exact Or.inl (by omega) | exact Or.inr (Or.inl (by omega)) | exact Or.inr (Or.inr (Or.inl (by omega))) | exact Or.inr (Or.inr (Or.inr (Or.inl (by omega)))) | exact Or.inr (Or.inr (Or.inr (Or.inr (Or.inl (by omega))))) | exact Or.inr (Or.inr (Or.inr (Or.inr (Or.inr (Or.inl (by omega)))))) | exact Or.inr (Or.inr (Or.inr (Or.inr (Or.inr (Or.inr (Or.inl (by omega))))))) | exact Or.inr (Or.inr (Or.inr (Or.inr (Or.inr (Or.inr (Or.inr (Or.inl (by omega)))))))) | exact Or.inr (Or.inr (Or.inr (Or.inr (Or.inr (Or.inr (Or.inr (Or.inr (Or.inl (by omega))))))))) | exact Or.inr (Or.inr (Or.inr (Or.inr (Or.inr (Or.inr (Or.inr (Or.inr (Or.inr (Or.inl (by omega)))))))))) | exact Or.inr (Or.inr (Or.inr (Or.inr (Or.inr (Or.inr (Or.inr (Or.inr (Or.inr (Or.inr (Or.inl (by omega))))))))))) | exact Or.inr (Or.inr (Or.inr (Or.inr (Or.inr (Or.inr (Or.inr (Or.inr (Or.inr (Or.inr (Or.inr (by omega)))))))))))))⟩
    · replace c4 : a2 = 3 := c4
      show jGo E l 171 229 229 _ 99 [.inr (.inr (.inl 176)), .inl a1, .inl a2] [] 229 jr0 h
      refine jGo_blk qX12_hullOf_99 ?_
      refine st_gr jo_176 jr_176_18 ?_
      refine st_ai jo_192 (show 0 ≤ a1 by omega) (show a1 < ((16 : Nat) : Int) by omega) (fun v16 ev16 b17 => ?_)
      replace ev16 : v16 = h 192 a1 := ev16
      replace b17 := (jba_192 a1 _).1 b17
      refine And.intro (fun c18 => ?_) (fun c18 => ?_)
      · replace c18 : ¬ v16 = 1 := c18
        show jGo E l 171 229 229 _ 122 [.inr (.inr (.inl 176)), .inl a1, .inl a2] [] 229 jr0 h
        refine jGo_blk qX12_hullOf_122 ?_
        show jGo E l 171 229 229 _ 123 [.inr (.inr (.inl 176)), .inl a1, .inl a2] [.inl 0] 229 jr0 h
        refine jGo_blk qX12_hullOf_123 ?_
        exact st_r0 (ls := []) ⟨rfl, rfl, f0, 0, rfl, trivial, (by unfold P_X12_hullOf; first | exact Or.inl (by omega) | (refine Or.inr ⟨by omega, ?_⟩; first | exact Or.inl (by omega) | exact Or.inr (Or.inl (by omega)) | exact Or.inr (Or.inr (Or.inl (by omega))) | exact Or.inr (Or.inr (Or.inr (Or.inl (by omega)))) | exact Or.inr (Or.inr (Or.inr (Or.inr (Or.inl (by omega))))) | exact Or.inr (Or.inr (Or.inr (Or.inr (Or.inr (Or.inl (by omega)))))) | exact Or.inr (Or.inr (Or.inr (Or.inr (Or.inr (Or.inr (Or.inl (by omega))))))) | exact Or.inr (Or.inr (Or.inr (Or.inr (Or.inr (Or.inr (Or.inr (Or.inl (by omega)))))))) | exact Or.inr (Or.inr (Or.inr (Or.inr (Or.inr (Or.inr (Or.inr (Or.inr (Or.inl (by omega))))))))) | exact Or.inr (Or.inr (Or.inr (Or.inr (Or.inr (Or.inr (Or.inr (Or.inr (Or.inr (Or.inl (by omega)))))))))) | exact Or.inr (Or.inr (Or.inr (Or.inr (Or.inr (Or.inr (Or.inr (Or.inr (Or.inr (Or.inr (Or.inl (by omega))))))))))) | exact Or.inr (Or.inr (Or.inr (Or.inr (Or.inr (Or.inr (Or.inr (Or.inr (Or.inr (Or.inr (Or.inr (by omega)))))))))))))⟩
      · replace c18 : v16 = 1 := by first | exact c18 | exact Int.not_le.mp c18 | exact Int.not_lt.mp c18 | exact Decidable.not_not.mp c18
        refine st_gr jo_176 jr_176_22 ?_
        refine st_bi jo_196 (show 0 ≤ a1 by omega) (show a1 < ((16 : Nat) : Int) by omega) (fun v19 ev19 b20 => ?_)
        replace ev19 : v19 = h 196 a1 := ev19
        replace b20 := (jba_196 a1 _).1 b20
        refine And.intro (fun c21 => ?_) (fun c21 => ?_)
        · replace c21 : v19 = 0 := c21
          show jGo E l 171 229 229 _ 122 [.inr (.inr (.inl 176)), .inl a1, .inl a2] [] 229 jr0 h
          refine jGo_blk qX12_hullOf_122 ?_
          show jGo E l 171 229 229 _ 123 [.inr (.inr (.inl 176)), .inl a1, .inl a2] [.inl 0] 229 jr0 h
          refine jGo_blk qX12_hullOf_123 ?_
          exact st_r0 (ls := []) ⟨rfl, rfl, f0, 0, rfl, trivial, (by unfold P_X12_hullOf; first | exact Or.inl (by omega) | (refine Or.inr ⟨by omega, ?_⟩; first | exact Or.inl (by omega) | exact Or.inr (Or.inl (by omega)) | exact Or.inr (Or.inr (Or.inl (by omega))) | exact Or.inr (Or.inr (Or.inr (Or.inl (by omega)))) | exact Or.inr (Or.inr (Or.inr (Or.inr (Or.inl (by omega))))) | exact Or.inr (Or.inr (Or.inr (Or.inr (Or.inr (Or.inl (by omega)))))) | exact Or.inr (Or.inr (Or.inr (Or.inr (Or.inr (Or.inr (Or.inl (by omega))))))) | exact Or.inr (Or.inr (Or.inr (Or.inr (Or.inr (Or.inr (Or.inr (Or.inl (by omega)))))))) | exact Or.inr (Or.inr (Or.inr (Or.inr (Or.inr (Or.inr (Or.inr (Or.inr (Or.inl (by omega))))))))) | exact Or.inr (Or.inr (Or.inr (Or.inr (Or.inr (Or.inr (Or.inr (Or.inr (Or.inr (Or.inl (by omega)))))))))) | exact Or.inr (Or.inr (Or.inr (Or.inr (Or.inr (Or.inr (Or.inr (Or.inr (Or.inr (Or.inr (Or.inl (by omega))))))))))) | exact Or.inr (Or.inr (Or.inr (Or.inr (Or.inr (Or.inr (Or.inr (Or.inr (Or.inr (Or.inr (Or.inr (by omega)))))))))))))⟩
        · replace c21 : ¬ v19 = 0 := by first | exact c21 | exact Int.not_le.mp c21 | exact Int.not_lt.mp c21 | exact Decidable.not_not.mp c21
          show jGo E l 171 229 229 _ 123 [.inr (.inr (.inl 176)), .inl a1, .inl a2] [.inl 1] 229 jr0 h
          refine jGo_blk qX12_hullOf_123 ?_
          exact st_r0 (ls := []) ⟨rfl, rfl, f0, 1, rfl, trivial, (by unfold P_X12_hullOf; first | exact Or.inl (by omega) | (refine Or.inr ⟨by omega, ?_⟩; first | exact Or.inl (by omega) | exact Or.inr (Or.inl (by omega)) | exact Or.inr (Or.inr (Or.inl (by omega))) | exact Or.inr (Or.inr (Or.inr (Or.inl (by omega)))) | exact Or.inr (Or.inr (Or.inr (Or.inr (Or.inl (by omega))))) | exact Or.inr (Or.inr (Or.inr (Or.inr (Or.inr (Or.inl (by omega)))))) | exact Or.inr (Or.inr (Or.inr (Or.inr (Or.inr (Or.inr (Or.inl (by omega))))))) | exact Or.inr (Or.inr (Or.inr (Or.inr (Or.inr (Or.inr (Or.inr (Or.inl (by omega)))))))) | exact Or.inr (Or.inr (Or.inr (Or.inr (Or.inr (Or.inr (Or.inr (Or.inr (Or.inl (by omega))))))))) | exact Or.inr (Or.inr (Or.inr (Or.inr (Or.inr (Or.inr (Or.inr (Or.inr (Or.inr (Or.inl (by omega)))))))))) | exact Or.inr (Or.inr (Or.inr (Or.inr (Or.inr (Or.inr (Or.inr (Or.inr (Or.inr (Or.inr (Or.inl (by omega))))))))))) | exact Or.inr (Or.inr (Or.inr (Or.inr (Or.inr (Or.inr (Or.inr (Or.inr (Or.inr (Or.inr (Or.inr (by omega)))))))))))))⟩
    · replace c4 : a2 = 4 := c4
      show jGo E l 171 229 229 _ 124 [.inr (.inr (.inl 176)), .inl a1, .inl a2] [] 229 jr0 h
      refine jGo_blk qX12_hullOf_124 ?_
      refine st_gr jo_176 jr_176_23 ?_
      refine st_ai jo_197 (show 0 ≤ a1 by omega) (show a1 < ((16 : Nat) : Int) by omega) (fun v22 ev22 b23 => ?_)
      replace ev22 : v22 = h 197 a1 := ev22
      replace b23 := (jba_197 a1 _).1 b23
      exact st_r0 (ls := []) ⟨rfl, rfl, f0, v22, rfl, trivial, (by unfold P_X12_hullOf; first | exact Or.inl (by omega) | (refine Or.inr ⟨by omega, ?_⟩; first | exact Or.inl (by omega) | exact Or.inr (Or.inl (by omega)) | exact Or.inr (Or.inr (Or.inl (by omega))) | exact Or.inr (Or.inr (Or.inr (Or.inl (by omega)))) | exact Or.inr (Or.inr (Or.inr (Or.inr (Or.inl (by omega))))) | exact Or.inr (Or.inr (Or.inr (Or.inr (Or.inr (Or.inl (by omega)))))) | exact Or.inr (Or.inr (Or.inr (Or.inr (Or.inr (Or.inr (Or.inl (by omega))))))) | exact Or.inr (Or.inr (Or.inr (Or.inr (Or.inr (Or.inr (Or.inr (Or.inl (by omega)))))))) | exact Or.inr (Or.inr (Or.inr (Or.inr (Or.inr (Or.inr (Or.inr (Or.inr (Or.inl (by omega))))))))) | exact Or.inr (Or.inr (Or.inr (Or.inr (Or.inr (Or.inr (Or.inr (Or.inr (Or.inr (Or.inl (by omega)))))))))) | exact Or.inr (Or.inr (Or.inr (Or.inr (Or.inr (Or.inr (Or.inr (Or.inr (Or.inr (Or.inr (Or.inl (by omega))))))))))) | exact Or.inr (Or.inr (Or.inr (Or.inr (Or.inr (Or.inr (Or.inr (Or.inr (Or.inr (Or.inr (Or.inr (by omega)))))))))))))⟩
    · replace c4 : a2 = 5 := c4
      show jGo E l 171 229 229 _ 131 [.inr (.inr (.inl 176)), .inl a1, .inl a2] [] 229 jr0 h
      refine jGo_blk qX12_hullOf_131 ?_
      refine st_gr jo_176 jr_176_16 ?_
      refine st_ai jo_190 (show 0 ≤ a1 by omega) (show a1 < ((16 : Nat) : Int) by omega) (fun v24 ev24 b25 => ?_)
      replace ev24 : v24 = h 190 a1 := ev24
      replace b25 := (jba_190 a1 _).1 b25
      exact st_r0 (ls := []) ⟨rfl, rfl, f0, v24, rfl, trivial, (by unfold P_X12_hullOf; first | exact Or.inl (by omega) | (refine Or.inr ⟨by omega, ?_⟩; first | exact Or.inl (by omega) | exact Or.inr (Or.inl (by omega)) | exact Or.inr (Or.inr (Or.inl (by omega))) | exact Or.inr (Or.inr (Or.inr (Or.inl (by omega)))) | exact Or.inr (Or.inr (Or.inr (Or.inr (Or.inl (by omega))))) | exact Or.inr (Or.inr (Or.inr (Or.inr (Or.inr (Or.inl (by omega)))))) | exact Or.inr (Or.inr (Or.inr (Or.inr (Or.inr (Or.inr (Or.inl (by omega))))))) | exact Or.inr (Or.inr (Or.inr (Or.inr (Or.inr (Or.inr (Or.inr (Or.inl (by omega)))))))) | exact Or.inr (Or.inr (Or.inr (Or.inr (Or.inr (Or.inr (Or.inr (Or.inr (Or.inl (by omega))))))))) | exact Or.inr (Or.inr (Or.inr (Or.inr (Or.inr (Or.inr (Or.inr (Or.inr (Or.inr (Or.inl (by omega)))))))))) | exact Or.inr (Or.inr (Or.inr (Or.inr (Or.inr (Or.inr (Or.inr (Or.inr (Or.inr (Or.inr (Or.inl (by omega))))))))))) | exact Or.inr (Or.inr (Or.inr (Or.inr (Or.inr (Or.inr (Or.inr (Or.inr (Or.inr (Or.inr (Or.inr (by omega)))))))))))))⟩
    · replace c4 : a2 = 6 := c4
      show jGo E l 171 229 229 _ 138 [.inr (.inr (.inl 176)), .inl a1, .inl a2] [] 229 jr0 h
      refine jGo_blk qX12_hullOf_138 ?_
      refine st_gr jo_176 jr_176_15 ?_
      refine st_ai jo_189 (show 0 ≤ a1 by omega) (show a1 < ((16 : Nat) : Int) by omega) (fun v26 ev26 b27 => ?_)
      replace ev26 : v26 = h 189 a1 := ev26
      replace b27 := (jba_189 a1 _).1 b27
      exact st_r0 (ls := []) ⟨rfl, rfl, f0, v26, rfl, trivial, (by unfold P_X12_hullOf; first | exact Or.inl (by omega) | (refine Or.inr ⟨by omega, ?_⟩; first | exact Or.inl (by omega) | exact Or.inr (Or.inl (by omega)) | exact Or.inr (Or.inr (Or.inl (by omega))) | exact Or.inr (Or.inr (Or.inr (Or.inl (by omega)))) | exact Or.inr (Or.inr (Or.inr (Or.inr (Or.inl (by omega))))) | exact Or.inr (Or.inr (Or.inr (Or.inr (Or.inr (Or.inl (by omega)))))) | exact Or.inr (Or.inr (Or.inr (Or.inr (Or.inr (Or.inr (Or.inl (by omega))))))) | exact Or.inr (Or.inr (Or.inr (Or.inr (Or.inr (Or.inr (Or.inr (Or.inl (by omega)))))))) | exact Or.inr (Or.inr (Or.inr (Or.inr (Or.inr (Or.inr (Or.inr (Or.inr (Or.inl (by omega))))))))) | exact Or.inr (Or.inr (Or.inr (Or.inr (Or.inr (Or.inr (Or.inr (Or.inr (Or.inr (Or.inl (by omega)))))))))) | exact Or.inr (Or.inr (Or.inr (Or.inr (Or.inr (Or.inr (Or.inr (Or.inr (Or.inr (Or.inr (Or.inl (by omega))))))))))) | exact Or.inr (Or.inr (Or.inr (Or.inr (Or.inr (Or.inr (Or.inr (Or.inr (Or.inr (Or.inr (Or.inr (by omega)))))))))))))⟩
    · replace c4 : a2 = 7 := c4
      show jGo E l 171 229 229 _ 145 [.inr (.inr (.inl 176)), .inl a1, .inl a2] [] 229 jr0 h
      refine jGo_blk qX12_hullOf_145 ?_
      refine st_gr jo_176 jr_176_17 ?_
      refine st_ai jo_191 (show 0 ≤ a1 by omega) (show a1 < ((16 : Nat) : Int) by omega) (fun v28 ev28 b29 => ?_)
      replace ev28 : v28 = h 191 a1 := ev28
      replace b29 := (jba_191 a1 _).1 b29
      exact st_r0 (ls := []) ⟨rfl, rfl, f0, v28, rfl, trivial, (by unfold P_X12_hullOf; first | exact Or.inl (by omega) | (refine Or.inr ⟨by omega, ?_⟩; first | exact Or.inl (by omega) | exact Or.inr (Or.inl (by omega)) | exact Or.inr (Or.inr (Or.inl (by omega))) | exact Or.inr (Or.inr (Or.inr (Or.inl (by omega)))) | exact Or.inr (Or.inr (Or.inr (Or.inr (Or.inl (by omega))))) | exact Or.inr (Or.inr (Or.inr (Or.inr (Or.inr (Or.inl (by omega)))))) | exact Or.inr (Or.inr (Or.inr (Or.inr (Or.inr (Or.inr (Or.inl (by omega))))))) | exact Or.inr (Or.inr (Or.inr (Or.inr (Or.inr (Or.inr (Or.inr (Or.inl (by omega)))))))) | exact Or.inr (Or.inr (Or.inr (Or.inr (Or.inr (Or.inr (Or.inr (Or.inr (Or.inl (by omega))))))))) | exact Or.inr (Or.inr (Or.inr (Or.inr (Or.inr (Or.inr (Or.inr (Or.inr (Or.inr (Or.inl (by omega)))))))))) | exact Or.inr (Or.inr (Or.inr (Or.inr (Or.inr (Or.inr (Or.inr (Or.inr (Or.inr (Or.inr (Or.inl (by omega))))))))))) | exact Or.inr (Or.inr (Or.inr (Or.inr (Or.inr (Or.inr (Or.inr (Or.inr (Or.inr (Or.inr (Or.inr (by omega)))))))))))))⟩
    · replace c4 : a2 = 8 := c4
      show jGo E l 171 229 229 _ 152 [.inr (.inr (.inl 176)), .inl a1, .inl a2] [] 229 jr0 h
      refine jGo_blk qX12_hullOf_152 ?_
      refine st_gr jo_176 jr_176_24 ?_
      refine st_ai jo_198 (show 0 ≤ a1 by omega) (show a1 < ((16 : Nat) : Int) by omega) (fun v30 ev30 b31 => ?_)
      replace ev30 : v30 = h 198 a1 := ev30
      replace b31 := (jba_198 a1 _).1 b31
      exact st_r0 (ls := []) ⟨rfl, rfl, f0, v30, rfl, trivial, (by unfold P_X12_hullOf; first | exact Or.inl (by omega) | (refine Or.inr ⟨by omega, ?_⟩; first | exact Or.inl (by omega) | exact Or.inr (Or.inl (by omega)) | exact Or.inr (Or.inr (Or.inl (by omega))) | exact Or.inr (Or.inr (Or.inr (Or.inl (by omega)))) | exact Or.inr (Or.inr (Or.inr (Or.inr (Or.inl (by omega))))) | exact Or.inr (Or.inr (Or.inr (Or.inr (Or.inr (Or.inl (by omega)))))) | exact Or.inr (Or.inr (Or.inr (Or.inr (Or.inr (Or.inr (Or.inl (by omega))))))) | exact Or.inr (Or.inr (Or.inr (Or.inr (Or.inr (Or.inr (Or.inr (Or.inl (by omega)))))))) | exact Or.inr (Or.inr (Or.inr (Or.inr (Or.inr (Or.inr (Or.inr (Or.inr (Or.inl (by omega))))))))) | exact Or.inr (Or.inr (Or.inr (Or.inr (Or.inr (Or.inr (Or.inr (Or.inr (Or.inr (Or.inl (by omega)))))))))) | exact Or.inr (Or.inr (Or.inr (Or.inr (Or.inr (Or.inr (Or.inr (Or.inr (Or.inr (Or.inr (Or.inl (by omega))))))))))) | exact Or.inr (Or.inr (Or.inr (Or.inr (Or.inr (Or.inr (Or.inr (Or.inr (Or.inr (Or.inr (Or.inr (by omega)))))))))))))⟩
  · replace c3 : t1 = 0 := by first | exact c3 | exact Int.not_le.mp c3 | exact Int.not_lt.mp c3 | exact Decidable.not_not.mp c3
    refine st_cv (na := 1) (st := [.inl (-1), .inr (.inr (.inl 176))]) jo_176 rfl rfl rfl (c_X12_refuse (-1) h (by omega)) rfl ?_
    rintro _ _ g33 ⟨rfl, ft32, t32, rfl, ht32, zt32⟩ kt32
    replace kt32 : -2147483648 ≤ t32 ∧ t32 ≤ 2147483647 := kt32
    replace ht32 : -7 ≤ t32 ∧ t32 ≤ -1 := ht32
    have fg33 : jfr w_X12_hullOf h g33 := jfr_tr f0 ft32 (fun i k q => by unfold w_X12_refuse at q; unfold w_X12_hullOf; omega)
    replace zt32 : t32 = (-1 : Int) := zt32
    exact st_r0 (ls := []) ⟨rfl, rfl, fg33, t32, rfl, trivial, (by unfold P_X12_hullOf; first | exact Or.inl (by omega) | (refine Or.inr ⟨by omega, ?_⟩; first | exact Or.inl (by omega) | exact Or.inr (Or.inl (by omega)) | exact Or.inr (Or.inr (Or.inl (by omega))) | exact Or.inr (Or.inr (Or.inr (Or.inl (by omega)))) | exact Or.inr (Or.inr (Or.inr (Or.inr (Or.inl (by omega))))) | exact Or.inr (Or.inr (Or.inr (Or.inr (Or.inr (Or.inl (by omega)))))) | exact Or.inr (Or.inr (Or.inr (Or.inr (Or.inr (Or.inr (Or.inl (by omega))))))) | exact Or.inr (Or.inr (Or.inr (Or.inr (Or.inr (Or.inr (Or.inr (Or.inl (by omega)))))))) | exact Or.inr (Or.inr (Or.inr (Or.inr (Or.inr (Or.inr (Or.inr (Or.inr (Or.inl (by omega))))))))) | exact Or.inr (Or.inr (Or.inr (Or.inr (Or.inr (Or.inr (Or.inr (Or.inr (Or.inr (Or.inl (by omega)))))))))) | exact Or.inr (Or.inr (Or.inr (Or.inr (Or.inr (Or.inr (Or.inr (Or.inr (Or.inr (Or.inr (Or.inl (by omega))))))))))) | exact Or.inr (Or.inr (Or.inr (Or.inr (Or.inr (Or.inr (Or.inr (Or.inr (Or.inr (Or.inr (Or.inr (by omega)))))))))))))⟩

def w_X11_basinOf (i k : Int) : Prop := (i = 1)
def k_X11_basinOf (a1 : Int) (a2 : Int) (h : JH) (v : Option JV) (r' g : JH) : Prop := r' = jr0 ∧ jfr w_X11_basinOf h g ∧ ∃ x : Int, v = some (.inl x) ∧ (True) ∧ (P_X11_basinOf a1 a2 x h)
set_option maxHeartbeats 4000000 in
theorem c_X11_basinOf {E : JE} {l : Launch} (a1 : Int) (a2 : Int) (h : JH) : jMt E l 172 [.inr (.inr (.inl 0)), .inl a1, .inl a2] 229 jr0 h (k_X11_basinOf a1 a2 h) := by
  refine jMt0 (nL := 4) (ls := [.inr (.inr (.inl 0)), .inl a1, .inl a2, .inr (.inr (.inr ()))]) (by decide +kernel) (by decide +kernel) (by decide +kernel) rfl rfl ?_
  have f0 : jfr w_X11_basinOf h h := jfr_rf _ _
  refine jGo_blk qX11_basinOf_0 ?_
  refine st_cs (na := 2) (st := [.inl 6, .inl a1]) rfl rfl rfl (c_X11_within a1 6 h) rfl ?_
  rintro _ _ _ ⟨rfl, rfl, t1, rfl, ht1, zt1⟩ kt1
  replace kt1 : -2147483648 ≤ t1 ∧ t1 ≤ 2147483647 := kt1
  replace ht1 : 0 ≤ t1 ∧ t1 ≤ 1 := ht1
  replace zt1 : (t1 = 1 ∧ 0 ≤ a1 ∧ a1 < (6 : Int)) ∨ (t1 = 0 ∧ ¬ (0 ≤ a1 ∧ a1 < (6 : Int))) := zt1
  refine And.intro (fun c3 => ?_) (fun c3 => ?_)
  · replace c3 : ¬ t1 = 0 := c3
    show jGo E l 172 229 229 _ 15 [.inr (.inr (.inl 0)), .inl a1, .inl a2, .inr (.inr (.inr ()))] [] 229 jr0 h
    refine jGo_blk qX11_basinOf_15 ?_
    refine st_gr jo_0 jr_0_5 ?_
    refine st_gr jo_29 jr_29_1 ?_
    refine st_ai jo_31 (show 0 ≤ a1 by omega) (show a1 < ((6 : Nat) : Int) by omega) (fun v4 ev4 b5 => ?_)
    replace ev4 : v4 = h 31 a1 := ev4
    replace b5 := (jba_31 a1 _).1 b5
    refine And.intro (fun c6 => ?_) (And.intro (fun c6 => ?_) (And.intro (fun c6 => ?_) (And.intro (fun c6 => ?_) (trivial))))
    · replace c6 : a2 < 0 ∨ 2 < a2 := c6
      show jGo E l 172 229 229 _ 94 [.inr (.inr (.inl 0)), .inl a1, .inl a2, .inl v4] [] 229 jr0 h
      refine jGo_blk qX11_basinOf_94 ?_
      refine st_cv (na := 1) (st := [.inl (-2), .inr (.inr (.inl 0))]) jo_0 rfl rfl rfl (c_X11_refused (-2) h (by omega)) rfl ?_
      rintro _ _ g8 ⟨rfl, ft7, t7, rfl, ht7, zt7⟩ kt7
      replace kt7 : -2147483648 ≤ t7 ∧ t7 ≤ 2147483647 := kt7
      replace ht7 : -7 ≤ t7 ∧ t7 ≤ -1 := ht7
      have fg8 : jfr w_X11_basinOf h g8 := jfr_tr f0 ft7 (fun i k q => by unfold w_X11_refused at q; unfold w_X11_basinOf; omega)
      replace zt7 : t7 = (-2 : Int) := zt7
      exact st_r0 (ls := []) ⟨rfl, rfl, fg8, t7, rfl, trivial, (by unfold P_X11_basinOf; first | exact Or.inl (by omega) | (refine Or.inr ⟨by omega, ?_⟩; first | exact Or.inl (by omega) | exact Or.inr (Or.inl (by omega)) | exact Or.inr (Or.inr (Or.inl (by omega))) | exact Or.inr (Or.inr (Or.inr (Or.inl (by omega)))) | exact Or.inr (Or.inr (Or.inr (Or.inr (Or.inl (by omega))))) | exact Or.inr (Or.inr (Or.inr (Or.inr (Or.inr (Or.inl (by omega)))))) | exact Or.inr (Or.inr (Or.inr (Or.inr (Or.inr (Or.inr (by omega))))))))⟩
    · replace c6 : a2 = 0 := c6
      show jGo E l 172 229 229 _ 52 [.inr (.inr (.inl 0)), .inl a1, .inl a2, .inl v4] [] 229 jr0 h
      refine jGo_blk qX11_basinOf_52 ?_
      refine And.intro (fun c9 => ?_) (fun c9 => ?_)
      · replace c9 : ¬ v4 = (-1) := c9
        show jGo E l 172 229 229 _ 61 [.inr (.inr (.inl 0)), .inl a1, .inl a2, .inl v4] [] 229 jr0 h
        refine jGo_blk qX11_basinOf_61 ?_
        refine And.intro (fun c10 => ?_) (fun c10 => ?_)
        · replace c10 : ¬ v4 = (-2) := c10
          show jGo E l 172 229 229 _ 71 [.inr (.inr (.inl 0)), .inl a1, .inl a2, .inl v4] [] 229 jr0 h
          refine jGo_blk qX11_basinOf_71 ?_
          show jGo E l 172 229 229 _ 72 [.inr (.inr (.inl 0)), .inl a1, .inl a2, .inl v4] [.inl 1] 229 jr0 h
          refine jGo_blk qX11_basinOf_72 ?_
          exact st_r0 (ls := []) ⟨rfl, rfl, f0, 1, rfl, trivial, (by unfold P_X11_basinOf; first | exact Or.inl (by omega) | (refine Or.inr ⟨by omega, ?_⟩; first | exact Or.inl (by omega) | exact Or.inr (Or.inl (by omega)) | exact Or.inr (Or.inr (Or.inl (by omega))) | exact Or.inr (Or.inr (Or.inr (Or.inl (by omega)))) | exact Or.inr (Or.inr (Or.inr (Or.inr (Or.inl (by omega))))) | exact Or.inr (Or.inr (Or.inr (Or.inr (Or.inr (Or.inl (by omega)))))) | exact Or.inr (Or.inr (Or.inr (Or.inr (Or.inr (Or.inr (by omega))))))))⟩
        · replace c10 : v4 = (-2) := by first | exact c10 | exact Int.not_le.mp c10 | exact Int.not_lt.mp c10 | exact Decidable.not_not.mp c10
          show jGo E l 172 229 229 _ 72 [.inr (.inr (.inl 0)), .inl a1, .inl a2, .inl v4] [.inl 2] 229 jr0 h
          refine jGo_blk qX11_basinOf_72 ?_
          exact st_r0 (ls := []) ⟨rfl, rfl, f0, 2, rfl, trivial, (by unfold P_X11_basinOf; first | exact Or.inl (by omega) | (refine Or.inr ⟨by omega, ?_⟩; first | exact Or.inl (by omega) | exact Or.inr (Or.inl (by omega)) | exact Or.inr (Or.inr (Or.inl (by omega))) | exact Or.inr (Or.inr (Or.inr (Or.inl (by omega)))) | exact Or.inr (Or.inr (Or.inr (Or.inr (Or.inl (by omega))))) | exact Or.inr (Or.inr (Or.inr (Or.inr (Or.inr (Or.inl (by omega)))))) | exact Or.inr (Or.inr (Or.inr (Or.inr (Or.inr (Or.inr (by omega))))))))⟩
      · replace c9 : v4 = (-1) := by first | exact c9 | exact Int.not_le.mp c9 | exact Int.not_lt.mp c9 | exact Decidable.not_not.mp c9
        show jGo E l 172 229 229 _ 72 [.inr (.inr (.inl 0)), .inl a1, .inl a2, .inl v4] [.inl 0] 229 jr0 h
        refine jGo_blk qX11_basinOf_72 ?_
        exact st_r0 (ls := []) ⟨rfl, rfl, f0, 0, rfl, trivial, (by unfold P_X11_basinOf; first | exact Or.inl (by omega) | (refine Or.inr ⟨by omega, ?_⟩; first | exact Or.inl (by omega) | exact Or.inr (Or.inl (by omega)) | exact Or.inr (Or.inr (Or.inl (by omega))) | exact Or.inr (Or.inr (Or.inr (Or.inl (by omega)))) | exact Or.inr (Or.inr (Or.inr (Or.inr (Or.inl (by omega))))) | exact Or.inr (Or.inr (Or.inr (Or.inr (Or.inr (Or.inl (by omega)))))) | exact Or.inr (Or.inr (Or.inr (Or.inr (Or.inr (Or.inr (by omega))))))))⟩
    · replace c6 : a2 = 1 := c6
      show jGo E l 172 229 229 _ 73 [.inr (.inr (.inl 0)), .inl a1, .inl a2, .inl v4] [] 229 jr0 h
      refine jGo_blk qX11_basinOf_73 ?_
      refine And.intro (fun c11 => ?_) (fun c11 => ?_)
      · replace c11 : 0 ≤ v4 := c11
        show jGo E l 172 229 229 _ 82 [.inr (.inr (.inl 0)), .inl a1, .inl a2, .inl v4] [] 229 jr0 h
        refine jGo_blk qX11_basinOf_82 ?_
        show jGo E l 172 229 229 _ 83 [.inr (.inr (.inl 0)), .inl a1, .inl a2, .inl v4] [.inl v4] 229 jr0 h
        refine jGo_blk qX11_basinOf_83 ?_
        exact st_r0 (ls := []) ⟨rfl, rfl, f0, v4, rfl, trivial, (by unfold P_X11_basinOf; first | exact Or.inl (by omega) | (refine Or.inr ⟨by omega, ?_⟩; first | exact Or.inl (by omega) | exact Or.inr (Or.inl (by omega)) | exact Or.inr (Or.inr (Or.inl (by omega))) | exact Or.inr (Or.inr (Or.inr (Or.inl (by omega)))) | exact Or.inr (Or.inr (Or.inr (Or.inr (Or.inl (by omega))))) | exact Or.inr (Or.inr (Or.inr (Or.inr (Or.inr (Or.inl (by omega)))))) | exact Or.inr (Or.inr (Or.inr (Or.inr (Or.inr (Or.inr (by omega))))))))⟩
      · replace c11 : v4 < 0 := by first | exact c11 | exact Int.not_le.mp c11 | exact Int.not_lt.mp c11 | exact Decidable.not_not.mp c11
        show jGo E l 172 229 229 _ 83 [.inr (.inr (.inl 0)), .inl a1, .inl a2, .inl v4] [.inl (-9)] 229 jr0 h
        refine jGo_blk qX11_basinOf_83 ?_
        exact st_r0 (ls := []) ⟨rfl, rfl, f0, (-9), rfl, trivial, (by unfold P_X11_basinOf; first | exact Or.inl (by omega) | (refine Or.inr ⟨by omega, ?_⟩; first | exact Or.inl (by omega) | exact Or.inr (Or.inl (by omega)) | exact Or.inr (Or.inr (Or.inl (by omega))) | exact Or.inr (Or.inr (Or.inr (Or.inl (by omega)))) | exact Or.inr (Or.inr (Or.inr (Or.inr (Or.inl (by omega))))) | exact Or.inr (Or.inr (Or.inr (Or.inr (Or.inr (Or.inl (by omega)))))) | exact Or.inr (Or.inr (Or.inr (Or.inr (Or.inr (Or.inr (by omega))))))))⟩
    · replace c6 : a2 = 2 := c6
      show jGo E l 172 229 229 _ 84 [.inr (.inr (.inl 0)), .inl a1, .inl a2, .inl v4] [] 229 jr0 h
      refine jGo_blk qX11_basinOf_84 ?_
      refine st_gr jo_0 jr_0_5 ?_
      refine st_gr jo_29 jr_29_2 ?_
      refine st_ai jo_32 (show 0 ≤ a1 by omega) (show a1 < ((6 : Nat) : Int) by omega) (fun v12 ev12 b13 => ?_)
      replace ev12 : v12 = h 32 a1 := ev12
      replace b13 := (jba_32 a1 _).1 b13
      exact st_r0 (ls := []) ⟨rfl, rfl, f0, v12, rfl, trivial, (by unfold P_X11_basinOf; first | exact Or.inl (by omega) | (refine Or.inr ⟨by omega, ?_⟩; first | exact Or.inl (by omega) | exact Or.inr (Or.inl (by omega)) | exact Or.inr (Or.inr (Or.inl (by omega))) | exact Or.inr (Or.inr (Or.inr (Or.inl (by omega)))) | exact Or.inr (Or.inr (Or.inr (Or.inr (Or.inl (by omega))))) | exact Or.inr (Or.inr (Or.inr (Or.inr (Or.inr (Or.inl (by omega)))))) | exact Or.inr (Or.inr (Or.inr (Or.inr (Or.inr (Or.inr (by omega))))))))⟩
  · replace c3 : t1 = 0 := by first | exact c3 | exact Int.not_le.mp c3 | exact Int.not_lt.mp c3 | exact Decidable.not_not.mp c3
    refine st_cv (na := 1) (st := [.inl (-1), .inr (.inr (.inl 0))]) jo_0 rfl rfl rfl (c_X11_refused (-1) h (by omega)) rfl ?_
    rintro _ _ g15 ⟨rfl, ft14, t14, rfl, ht14, zt14⟩ kt14
    replace kt14 : -2147483648 ≤ t14 ∧ t14 ≤ 2147483647 := kt14
    replace ht14 : -7 ≤ t14 ∧ t14 ≤ -1 := ht14
    have fg15 : jfr w_X11_basinOf h g15 := jfr_tr f0 ft14 (fun i k q => by unfold w_X11_refused at q; unfold w_X11_basinOf; omega)
    replace zt14 : t14 = (-1 : Int) := zt14
    exact st_r0 (ls := []) ⟨rfl, rfl, fg15, t14, rfl, trivial, (by unfold P_X11_basinOf; first | exact Or.inl (by omega) | (refine Or.inr ⟨by omega, ?_⟩; first | exact Or.inl (by omega) | exact Or.inr (Or.inl (by omega)) | exact Or.inr (Or.inr (Or.inl (by omega))) | exact Or.inr (Or.inr (Or.inr (Or.inl (by omega)))) | exact Or.inr (Or.inr (Or.inr (Or.inr (Or.inl (by omega))))) | exact Or.inr (Or.inr (Or.inr (Or.inr (Or.inr (Or.inl (by omega)))))) | exact Or.inr (Or.inr (Or.inr (Or.inr (Or.inr (Or.inr (by omega))))))))⟩

def w_X12_basinOf (i k : Int) : Prop := (i = 219)
def k_X12_basinOf (a1 : Int) (a2 : Int) (h : JH) (v : Option JV) (r' g : JH) : Prop := r' = jr0 ∧ jfr w_X12_basinOf h g ∧ ∃ x : Int, v = some (.inl x) ∧ (True) ∧ (P_X12_basinOf a1 a2 x h)
set_option maxHeartbeats 4000000 in
theorem c_X12_basinOf {E : JE} {l : Launch} (a1 : Int) (a2 : Int) (h : JH) : jMt E l 173 [.inr (.inr (.inl 176)), .inl a1, .inl a2] 229 jr0 h (k_X12_basinOf a1 a2 h) := by
  refine jMt0 (nL := 4) (ls := [.inr (.inr (.inl 176)), .inl a1, .inl a2, .inr (.inr (.inr ()))]) (by decide +kernel) (by decide +kernel) (by decide +kernel) rfl rfl ?_
  have f0 : jfr w_X12_basinOf h h := jfr_rf _ _
  refine jGo_blk qX12_basinOf_0 ?_
  refine st_cs (na := 3) (st := [.inl 5, .inl 0, .inl a1]) rfl rfl rfl (c_X12_in a1 0 5 h) rfl ?_
  rintro _ _ _ ⟨rfl, rfl, t1, rfl, ht1, zt1⟩ kt1
  replace kt1 : -2147483648 ≤ t1 ∧ t1 ≤ 2147483647 := kt1
  replace ht1 : 0 ≤ t1 ∧ t1 ≤ 1 := ht1
  replace zt1 : (t1 = 1 ∧ (0 : Int) ≤ a1 ∧ a1 ≤ (5 : Int)) ∨ (t1 = 0 ∧ ¬ ((0 : Int) ≤ a1 ∧ a1 ≤ (5 : Int))) := zt1
  refine And.intro (fun c3 => ?_) (fun c3 => ?_)
  · replace c3 : ¬ t1 = 0 := c3
    show jGo E l 173 229 229 _ 15 [.inr (.inr (.inl 176)), .inl a1, .inl a2, .inr (.inr (.inr ()))] [] 229 jr0 h
    refine jGo_blk qX12_basinOf_15 ?_
    refine st_gr jo_176 jr_176_28 ?_
    refine st_ai jo_202 (show 0 ≤ a1 by omega) (show a1 < ((6 : Nat) : Int) by omega) (fun v4 ev4 b5 => ?_)
    replace ev4 : v4 = h 202 a1 := ev4
    replace b5 := (jba_202 a1 _).1 b5
    refine And.intro (fun c6 => ?_) (fun c6 => ?_)
    · replace c6 : ¬ v4 = 100 := c6
      show jGo E l 173 229 229 _ 30 [.inr (.inr (.inl 176)), .inl a1, .inl a2, .inr (.inr (.inr ()))] [] 229 jr0 h
      refine jGo_blk qX12_basinOf_30 ?_
      show jGo E l 173 229 229 _ 31 [.inr (.inr (.inl 176)), .inl a1, .inl a2, .inr (.inr (.inr ()))] [.inl 0] 229 jr0 h
      refine jGo_blk qX12_basinOf_31 ?_
      refine And.intro (fun c7 => ?_) (And.intro (fun c7 => ?_) (And.intro (fun c7 => ?_) (And.intro (fun c7 => ?_) (trivial))))
      · replace c7 : a2 < 0 ∨ 2 < a2 := c7
        show jGo E l 173 229 229 _ 123 [.inr (.inr (.inl 176)), .inl a1, .inl a2, .inl 0] [] 229 jr0 h
        refine jGo_blk qX12_basinOf_123 ?_
        refine st_cv (na := 1) (st := [.inl (-2), .inr (.inr (.inl 176))]) jo_176 rfl rfl rfl (c_X12_refuse (-2) h (by omega)) rfl ?_
        rintro _ _ g9 ⟨rfl, ft8, t8, rfl, ht8, zt8⟩ kt8
        replace kt8 : -2147483648 ≤ t8 ∧ t8 ≤ 2147483647 := kt8
        replace ht8 : -7 ≤ t8 ∧ t8 ≤ -1 := ht8
        have fg9 : jfr w_X12_basinOf h g9 := jfr_tr f0 ft8 (fun i k q => by unfold w_X12_refuse at q; unfold w_X12_basinOf; omega)
        replace zt8 : t8 = (-2 : Int) := zt8
        exact st_r0 (ls := []) ⟨rfl, rfl, fg9, t8, rfl, trivial, (by unfold P_X12_basinOf; first | exact Or.inl (by omega) | (refine Or.inr ⟨by omega, ?_⟩; first | exact Or.inl (by omega) | exact Or.inr (Or.inl (by omega)) | exact Or.inr (Or.inr (Or.inl (by omega))) | exact Or.inr (Or.inr (Or.inr (Or.inl (by omega)))) | exact Or.inr (Or.inr (Or.inr (Or.inr (Or.inl (by omega))))) | exact Or.inr (Or.inr (Or.inr (Or.inr (Or.inr (Or.inl (by omega)))))) | exact Or.inr (Or.inr (Or.inr (Or.inr (Or.inr (Or.inr (Or.inl (by omega))))))) | exact Or.inr (Or.inr (Or.inr (Or.inr (Or.inr (Or.inr (Or.inr (by omega)))))))))⟩
      · replace c7 : a2 = 0 := c7
        show jGo E l 173 229 229 _ 60 [.inr (.inr (.inl 176)), .inl a1, .inl a2, .inl 0] [] 229 jr0 h
        refine jGo_blk qX12_basinOf_60 ?_
        refine st_gr jo_176 jr_176_28 ?_
        refine st_ai jo_202 (show 0 ≤ a1 by omega) (show a1 < ((6 : Nat) : Int) by omega) (fun v10 ev10 b11 => ?_)
        replace ev10 : v10 = h 202 a1 := ev10
        replace b11 := (jba_202 a1 _).1 b11
        refine And.intro (fun c12 => ?_) (fun c12 => ?_)
        · replace c12 : 0 ≤ v10 := c12
          show jGo E l 173 229 229 _ 73 [.inr (.inr (.inl 176)), .inl a1, .inl a2, .inl 0] [] 229 jr0 h
          refine jGo_blk qX12_basinOf_73 ?_
          refine And.intro (fun c13 => ?_) (fun c13 => ?_)
          · replace c13 : (0 : Int) = 0 := c13
            show jGo E l 173 229 229 _ 81 [.inr (.inr (.inl 176)), .inl a1, .inl a2, .inl 0] [] 229 jr0 h
            refine jGo_blk qX12_basinOf_81 ?_
            show jGo E l 173 229 229 _ 82 [.inr (.inr (.inl 176)), .inl a1, .inl a2, .inl 0] [.inl 1] 229 jr0 h
            refine jGo_blk qX12_basinOf_82 ?_
            exact st_r0 (ls := []) ⟨rfl, rfl, f0, 1, rfl, trivial, (by unfold P_X12_basinOf; first | exact Or.inl (by omega) | (refine Or.inr ⟨by omega, ?_⟩; first | exact Or.inl (by omega) | exact Or.inr (Or.inl (by omega)) | exact Or.inr (Or.inr (Or.inl (by omega))) | exact Or.inr (Or.inr (Or.inr (Or.inl (by omega)))) | exact Or.inr (Or.inr (Or.inr (Or.inr (Or.inl (by omega))))) | exact Or.inr (Or.inr (Or.inr (Or.inr (Or.inr (Or.inl (by omega)))))) | exact Or.inr (Or.inr (Or.inr (Or.inr (Or.inr (Or.inr (Or.inl (by omega))))))) | exact Or.inr (Or.inr (Or.inr (Or.inr (Or.inr (Or.inr (Or.inr (by omega)))))))))⟩
          · replace c13 : ¬ (0 : Int) = 0 := by first | exact c13 | exact Int.not_le.mp c13 | exact Int.not_lt.mp c13 | exact Decidable.not_not.mp c13
            exfalso; omega
        · replace c12 : v10 < 0 := by first | exact c12 | exact Int.not_le.mp c12 | exact Int.not_lt.mp c12 | exact Decidable.not_not.mp c12
          show jGo E l 173 229 229 _ 82 [.inr (.inr (.inl 176)), .inl a1, .inl a2, .inl 0] [.inl 0] 229 jr0 h
          refine jGo_blk qX12_basinOf_82 ?_
          exact st_r0 (ls := []) ⟨rfl, rfl, f0, 0, rfl, trivial, (by unfold P_X12_basinOf; first | exact Or.inl (by omega) | (refine Or.inr ⟨by omega, ?_⟩; first | exact Or.inl (by omega) | exact Or.inr (Or.inl (by omega)) | exact Or.inr (Or.inr (Or.inl (by omega))) | exact Or.inr (Or.inr (Or.inr (Or.inl (by omega)))) | exact Or.inr (Or.inr (Or.inr (Or.inr (Or.inl (by omega))))) | exact Or.inr (Or.inr (Or.inr (Or.inr (Or.inr (Or.inl (by omega)))))) | exact Or.inr (Or.inr (Or.inr (Or.inr (Or.inr (Or.inr (Or.inl (by omega))))))) | exact Or.inr (Or.inr (Or.inr (Or.inr (Or.inr (Or.inr (Or.inr (by omega)))))))))⟩
      · replace c7 : a2 = 1 := c7
        show jGo E l 173 229 229 _ 83 [.inr (.inr (.inl 176)), .inl a1, .inl a2, .inl 0] [] 229 jr0 h
        refine jGo_blk qX12_basinOf_83 ?_
        refine st_gr jo_176 jr_176_28 ?_
        refine st_ai jo_202 (show 0 ≤ a1 by omega) (show a1 < ((6 : Nat) : Int) by omega) (fun v14 ev14 b15 => ?_)
        replace ev14 : v14 = h 202 a1 := ev14
        replace b15 := (jba_202 a1 _).1 b15
        refine And.intro (fun c16 => ?_) (fun c16 => ?_)
        · replace c16 : v14 < 0 := c16
          show jGo E l 173 229 229 _ 96 [.inr (.inr (.inl 176)), .inl a1, .inl a2, .inl 0] [] 229 jr0 h
          refine jGo_blk qX12_basinOf_96 ?_
          show jGo E l 173 229 229 _ 107 [.inr (.inr (.inl 176)), .inl a1, .inl a2, .inl 0] [.inl (-9)] 229 jr0 h
          refine jGo_blk qX12_basinOf_107 ?_
          exact st_r0 (ls := []) ⟨rfl, rfl, f0, (-9), rfl, trivial, (by unfold P_X12_basinOf; first | exact Or.inl (by omega) | (refine Or.inr ⟨by omega, ?_⟩; first | exact Or.inl (by omega) | exact Or.inr (Or.inl (by omega)) | exact Or.inr (Or.inr (Or.inl (by omega))) | exact Or.inr (Or.inr (Or.inr (Or.inl (by omega)))) | exact Or.inr (Or.inr (Or.inr (Or.inr (Or.inl (by omega))))) | exact Or.inr (Or.inr (Or.inr (Or.inr (Or.inr (Or.inl (by omega)))))) | exact Or.inr (Or.inr (Or.inr (Or.inr (Or.inr (Or.inr (Or.inl (by omega))))))) | exact Or.inr (Or.inr (Or.inr (Or.inr (Or.inr (Or.inr (Or.inr (by omega)))))))))⟩
        · replace c16 : 0 ≤ v14 := by first | exact c16 | exact Int.not_le.mp c16 | exact Int.not_lt.mp c16 | exact Decidable.not_not.mp c16
          refine And.intro (fun c17 => ?_) (fun c17 => ?_)
          · replace c17 : (0 : Int) = 0 := c17
            show jGo E l 173 229 229 _ 101 [.inr (.inr (.inl 176)), .inl a1, .inl a2, .inl 0] [] 229 jr0 h
            refine jGo_blk qX12_basinOf_101 ?_
            refine st_gr jo_176 jr_176_28 ?_
            refine st_ai jo_202 (show 0 ≤ a1 by omega) (show a1 < ((6 : Nat) : Int) by omega) (fun v18 ev18 b19 => ?_)
            replace ev18 : v18 = h 202 a1 := ev18
            replace b19 := (jba_202 a1 _).1 b19
            show jGo E l 173 229 229 _ 107 [.inr (.inr (.inl 176)), .inl a1, .inl a2, .inl 0] [.inl v18] 229 jr0 h
            refine jGo_blk qX12_basinOf_107 ?_
            exact st_r0 (ls := []) ⟨rfl, rfl, f0, v18, rfl, trivial, (by unfold P_X12_basinOf; first | exact Or.inl (by omega) | (refine Or.inr ⟨by omega, ?_⟩; first | exact Or.inl (by omega) | exact Or.inr (Or.inl (by omega)) | exact Or.inr (Or.inr (Or.inl (by omega))) | exact Or.inr (Or.inr (Or.inr (Or.inl (by omega)))) | exact Or.inr (Or.inr (Or.inr (Or.inr (Or.inl (by omega))))) | exact Or.inr (Or.inr (Or.inr (Or.inr (Or.inr (Or.inl (by omega)))))) | exact Or.inr (Or.inr (Or.inr (Or.inr (Or.inr (Or.inr (Or.inl (by omega))))))) | exact Or.inr (Or.inr (Or.inr (Or.inr (Or.inr (Or.inr (Or.inr (by omega)))))))))⟩
          · replace c17 : ¬ (0 : Int) = 0 := by first | exact c17 | exact Int.not_le.mp c17 | exact Int.not_lt.mp c17 | exact Decidable.not_not.mp c17
            exfalso; omega
      · replace c7 : a2 = 2 := c7
        show jGo E l 173 229 229 _ 108 [.inr (.inr (.inl 176)), .inl a1, .inl a2, .inl 0] [] 229 jr0 h
        refine jGo_blk qX12_basinOf_108 ?_
        refine And.intro (fun c20 => ?_) (fun c20 => ?_)
        · replace c20 : (0 : Int) = 0 := c20
          show jGo E l 173 229 229 _ 121 [.inr (.inr (.inl 176)), .inl a1, .inl a2, .inl 0] [] 229 jr0 h
          refine jGo_blk qX12_basinOf_121 ?_
          show jGo E l 173 229 229 _ 122 [.inr (.inr (.inl 176)), .inl a1, .inl a2, .inl 0] [.inl 0] 229 jr0 h
          refine jGo_blk qX12_basinOf_122 ?_
          exact st_r0 (ls := []) ⟨rfl, rfl, f0, 0, rfl, trivial, (by unfold P_X12_basinOf; first | exact Or.inl (by omega) | (refine Or.inr ⟨by omega, ?_⟩; first | exact Or.inl (by omega) | exact Or.inr (Or.inl (by omega)) | exact Or.inr (Or.inr (Or.inl (by omega))) | exact Or.inr (Or.inr (Or.inr (Or.inl (by omega)))) | exact Or.inr (Or.inr (Or.inr (Or.inr (Or.inl (by omega))))) | exact Or.inr (Or.inr (Or.inr (Or.inr (Or.inr (Or.inl (by omega)))))) | exact Or.inr (Or.inr (Or.inr (Or.inr (Or.inr (Or.inr (Or.inl (by omega))))))) | exact Or.inr (Or.inr (Or.inr (Or.inr (Or.inr (Or.inr (Or.inr (by omega)))))))))⟩
        · replace c20 : ¬ (0 : Int) = 0 := by first | exact c20 | exact Int.not_le.mp c20 | exact Int.not_lt.mp c20 | exact Decidable.not_not.mp c20
          exfalso; omega
    · replace c6 : v4 = 100 := by first | exact c6 | exact Int.not_le.mp c6 | exact Int.not_lt.mp c6 | exact Decidable.not_not.mp c6
      show jGo E l 173 229 229 _ 31 [.inr (.inr (.inl 176)), .inl a1, .inl a2, .inr (.inr (.inr ()))] [.inl 1] 229 jr0 h
      refine jGo_blk qX12_basinOf_31 ?_
      refine And.intro (fun c21 => ?_) (And.intro (fun c21 => ?_) (And.intro (fun c21 => ?_) (And.intro (fun c21 => ?_) (trivial))))
      · replace c21 : a2 < 0 ∨ 2 < a2 := c21
        show jGo E l 173 229 229 _ 123 [.inr (.inr (.inl 176)), .inl a1, .inl a2, .inl 1] [] 229 jr0 h
        refine jGo_blk qX12_basinOf_123 ?_
        refine st_cv (na := 1) (st := [.inl (-2), .inr (.inr (.inl 176))]) jo_176 rfl rfl rfl (c_X12_refuse (-2) h (by omega)) rfl ?_
        rintro _ _ g23 ⟨rfl, ft22, t22, rfl, ht22, zt22⟩ kt22
        replace kt22 : -2147483648 ≤ t22 ∧ t22 ≤ 2147483647 := kt22
        replace ht22 : -7 ≤ t22 ∧ t22 ≤ -1 := ht22
        have fg23 : jfr w_X12_basinOf h g23 := jfr_tr f0 ft22 (fun i k q => by unfold w_X12_refuse at q; unfold w_X12_basinOf; omega)
        replace zt22 : t22 = (-2 : Int) := zt22
        exact st_r0 (ls := []) ⟨rfl, rfl, fg23, t22, rfl, trivial, (by unfold P_X12_basinOf; first | exact Or.inl (by omega) | (refine Or.inr ⟨by omega, ?_⟩; first | exact Or.inl (by omega) | exact Or.inr (Or.inl (by omega)) | exact Or.inr (Or.inr (Or.inl (by omega))) | exact Or.inr (Or.inr (Or.inr (Or.inl (by omega)))) | exact Or.inr (Or.inr (Or.inr (Or.inr (Or.inl (by omega))))) | exact Or.inr (Or.inr (Or.inr (Or.inr (Or.inr (Or.inl (by omega)))))) | exact Or.inr (Or.inr (Or.inr (Or.inr (Or.inr (Or.inr (Or.inl (by omega))))))) | exact Or.inr (Or.inr (Or.inr (Or.inr (Or.inr (Or.inr (Or.inr (by omega)))))))))⟩
      · replace c21 : a2 = 0 := c21
        show jGo E l 173 229 229 _ 60 [.inr (.inr (.inl 176)), .inl a1, .inl a2, .inl 1] [] 229 jr0 h
        refine jGo_blk qX12_basinOf_60 ?_
        refine st_gr jo_176 jr_176_28 ?_
        refine st_ai jo_202 (show 0 ≤ a1 by omega) (show a1 < ((6 : Nat) : Int) by omega) (fun v24 ev24 b25 => ?_)
        replace ev24 : v24 = h 202 a1 := ev24
        replace b25 := (jba_202 a1 _).1 b25
        refine And.intro (fun c26 => ?_) (fun c26 => ?_)
        · replace c26 : 0 ≤ v24 := c26
          show jGo E l 173 229 229 _ 73 [.inr (.inr (.inl 176)), .inl a1, .inl a2, .inl 1] [] 229 jr0 h
          refine jGo_blk qX12_basinOf_73 ?_
          refine And.intro (fun c27 => ?_) (fun c27 => ?_)
          · replace c27 : (1 : Int) = 0 := c27
            exfalso; omega
          · replace c27 : ¬ (1 : Int) = 0 := by first | exact c27 | exact Int.not_le.mp c27 | exact Int.not_lt.mp c27 | exact Decidable.not_not.mp c27
            show jGo E l 173 229 229 _ 82 [.inr (.inr (.inl 176)), .inl a1, .inl a2, .inl 1] [.inl 2] 229 jr0 h
            refine jGo_blk qX12_basinOf_82 ?_
            exact st_r0 (ls := []) ⟨rfl, rfl, f0, 2, rfl, trivial, (by unfold P_X12_basinOf; first | exact Or.inl (by omega) | (refine Or.inr ⟨by omega, ?_⟩; first | exact Or.inl (by omega) | exact Or.inr (Or.inl (by omega)) | exact Or.inr (Or.inr (Or.inl (by omega))) | exact Or.inr (Or.inr (Or.inr (Or.inl (by omega)))) | exact Or.inr (Or.inr (Or.inr (Or.inr (Or.inl (by omega))))) | exact Or.inr (Or.inr (Or.inr (Or.inr (Or.inr (Or.inl (by omega)))))) | exact Or.inr (Or.inr (Or.inr (Or.inr (Or.inr (Or.inr (Or.inl (by omega))))))) | exact Or.inr (Or.inr (Or.inr (Or.inr (Or.inr (Or.inr (Or.inr (by omega)))))))))⟩
        · replace c26 : v24 < 0 := by first | exact c26 | exact Int.not_le.mp c26 | exact Int.not_lt.mp c26 | exact Decidable.not_not.mp c26
          exfalso; omega
      · replace c21 : a2 = 1 := c21
        show jGo E l 173 229 229 _ 83 [.inr (.inr (.inl 176)), .inl a1, .inl a2, .inl 1] [] 229 jr0 h
        refine jGo_blk qX12_basinOf_83 ?_
        refine st_gr jo_176 jr_176_28 ?_
        refine st_ai jo_202 (show 0 ≤ a1 by omega) (show a1 < ((6 : Nat) : Int) by omega) (fun v28 ev28 b29 => ?_)
        replace ev28 : v28 = h 202 a1 := ev28
        replace b29 := (jba_202 a1 _).1 b29
        refine And.intro (fun c30 => ?_) (fun c30 => ?_)
        · replace c30 : v28 < 0 := c30
          exfalso; omega
        · replace c30 : 0 ≤ v28 := by first | exact c30 | exact Int.not_le.mp c30 | exact Int.not_lt.mp c30 | exact Decidable.not_not.mp c30
          refine And.intro (fun c31 => ?_) (fun c31 => ?_)
          · replace c31 : (1 : Int) = 0 := c31
            exfalso; omega
          · replace c31 : ¬ (1 : Int) = 0 := by first | exact c31 | exact Int.not_le.mp c31 | exact Int.not_lt.mp c31 | exact Decidable.not_not.mp c31
            show jGo E l 173 229 229 _ 96 [.inr (.inr (.inl 176)), .inl a1, .inl a2, .inl 1] [] 229 jr0 h
            refine jGo_blk qX12_basinOf_96 ?_
            show jGo E l 173 229 229 _ 107 [.inr (.inr (.inl 176)), .inl a1, .inl a2, .inl 1] [.inl (-9)] 229 jr0 h
            refine jGo_blk qX12_basinOf_107 ?_
            exact st_r0 (ls := []) ⟨rfl, rfl, f0, (-9), rfl, trivial, (by unfold P_X12_basinOf; first | exact Or.inl (by omega) | (refine Or.inr ⟨by omega, ?_⟩; first | exact Or.inl (by omega) | exact Or.inr (Or.inl (by omega)) | exact Or.inr (Or.inr (Or.inl (by omega))) | exact Or.inr (Or.inr (Or.inr (Or.inl (by omega)))) | exact Or.inr (Or.inr (Or.inr (Or.inr (Or.inl (by omega))))) | exact Or.inr (Or.inr (Or.inr (Or.inr (Or.inr (Or.inl (by omega)))))) | exact Or.inr (Or.inr (Or.inr (Or.inr (Or.inr (Or.inr (Or.inl (by omega))))))) | exact Or.inr (Or.inr (Or.inr (Or.inr (Or.inr (Or.inr (Or.inr (by omega)))))))))⟩
      · replace c21 : a2 = 2 := c21
        show jGo E l 173 229 229 _ 108 [.inr (.inr (.inl 176)), .inl a1, .inl a2, .inl 1] [] 229 jr0 h
        refine jGo_blk qX12_basinOf_108 ?_
        refine And.intro (fun c32 => ?_) (fun c32 => ?_)
        · replace c32 : (1 : Int) = 0 := c32
          exfalso; omega
        · replace c32 : ¬ (1 : Int) = 0 := by first | exact c32 | exact Int.not_le.mp c32 | exact Int.not_lt.mp c32 | exact Decidable.not_not.mp c32
          refine st_gr jo_176 jr_176_29 ?_
          refine st_ai jo_203 (show 0 ≤ a1 by omega) (show a1 < ((6 : Nat) : Int) by omega) (fun v33 ev33 b34 => ?_)
          replace ev33 : v33 = h 203 a1 := ev33
          replace b34 := (jba_203 a1 _).1 b34
          show jGo E l 173 229 229 _ 122 [.inr (.inr (.inl 176)), .inl a1, .inl a2, .inl 1] [.inl v33] 229 jr0 h
          refine jGo_blk qX12_basinOf_122 ?_
          exact st_r0 (ls := []) ⟨rfl, rfl, f0, v33, rfl, trivial, (by unfold P_X12_basinOf; first | exact Or.inl (by omega) | (refine Or.inr ⟨by omega, ?_⟩; first | exact Or.inl (by omega) | exact Or.inr (Or.inl (by omega)) | exact Or.inr (Or.inr (Or.inl (by omega))) | exact Or.inr (Or.inr (Or.inr (Or.inl (by omega)))) | exact Or.inr (Or.inr (Or.inr (Or.inr (Or.inl (by omega))))) | exact Or.inr (Or.inr (Or.inr (Or.inr (Or.inr (Or.inl (by omega)))))) | exact Or.inr (Or.inr (Or.inr (Or.inr (Or.inr (Or.inr (Or.inl (by omega))))))) | exact Or.inr (Or.inr (Or.inr (Or.inr (Or.inr (Or.inr (Or.inr (by omega)))))))))⟩
  · replace c3 : t1 = 0 := by first | exact c3 | exact Int.not_le.mp c3 | exact Int.not_lt.mp c3 | exact Decidable.not_not.mp c3
    refine st_cv (na := 1) (st := [.inl (-1), .inr (.inr (.inl 176))]) jo_176 rfl rfl rfl (c_X12_refuse (-1) h (by omega)) rfl ?_
    rintro _ _ g36 ⟨rfl, ft35, t35, rfl, ht35, zt35⟩ kt35
    replace kt35 : -2147483648 ≤ t35 ∧ t35 ≤ 2147483647 := kt35
    replace ht35 : -7 ≤ t35 ∧ t35 ≤ -1 := ht35
    have fg36 : jfr w_X12_basinOf h g36 := jfr_tr f0 ft35 (fun i k q => by unfold w_X12_refuse at q; unfold w_X12_basinOf; omega)
    replace zt35 : t35 = (-1 : Int) := zt35
    exact st_r0 (ls := []) ⟨rfl, rfl, fg36, t35, rfl, trivial, (by unfold P_X12_basinOf; first | exact Or.inl (by omega) | (refine Or.inr ⟨by omega, ?_⟩; first | exact Or.inl (by omega) | exact Or.inr (Or.inl (by omega)) | exact Or.inr (Or.inr (Or.inl (by omega))) | exact Or.inr (Or.inr (Or.inr (Or.inl (by omega)))) | exact Or.inr (Or.inr (Or.inr (Or.inr (Or.inl (by omega))))) | exact Or.inr (Or.inr (Or.inr (Or.inr (Or.inr (Or.inl (by omega)))))) | exact Or.inr (Or.inr (Or.inr (Or.inr (Or.inr (Or.inr (Or.inl (by omega))))))) | exact Or.inr (Or.inr (Or.inr (Or.inr (Or.inr (Or.inr (Or.inr (by omega)))))))))⟩
