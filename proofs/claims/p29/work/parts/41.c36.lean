def w_X11_basinOf (i k : Int) : Prop := (i = 1)
theorem ws_X11_refused__X11_basinOf (i k : Int) (q : w_X11_refused i k) : w_X11_basinOf i k := by
  unfold w_X11_refused at q; unfold w_X11_basinOf
  exact (by omega)
def k_X11_basinOf (a1 : Int) (a2 : Int) (h : JH) (v : Option JV) (r' g : JH) : Prop := r' = jr0 ∧ jfr w_X11_basinOf h g ∧ ∃ x : Int, v = some (.inl x) ∧ (True) ∧ (P_X11_basinOf a1 a2 x h)
set_option maxHeartbeats 4000000 in
theorem c_X11_basinOf {E : JE} {l : Launch} (a1 : Int) (a2 : Int) (h : JH) : jMt E l 172 [.inr (.inr (.inl 0)), .inl a1, .inl a2] 229 jr0 h (k_X11_basinOf a1 a2 h) := by
  refine jMt0 (nL := 4) (ls := [.inr (.inr (.inl 0)), .inl a1, .inl a2, .inr (.inr (.inr ()))]) (by decide +kernel) (by decide +kernel) (by decide +kernel) rfl rfl ?_
  have f0 : jfr w_X11_basinOf h h := jfr_rf _ _
  refine jGo_blk qX11_basinOf_0 ?_
  refine st_cs (na := 2) (st := [.inl 6, .inl a1]) rfl rfl rfl (c_X11_within a1 6 h) rfl ?_
  rintro _ _ _ ⟨rfl, rfl, t1, rfl, ht1, zt1⟩ kt1
  replace kt1 : -2147483648 ≤ t1 ∧ t1 ≤ 2147483647 := kt1
  replace ht1 : 0 ≤ t1 ∧ t1 ≤ 1 := ht1
  replace zt1 : (t1 = 1 ∧ 0 ≤ a1 ∧ a1 < (6 : Int)) ∨ (t1 = 0 ∧ ¬ (0 ≤ a1 ∧ a1 < (6 : Int))) := zt1
  refine And.intro (fun c3 => ?_) (fun c3 => ?_)
  · replace c3 : ¬ t1 = 0 := c3
    show jGo E l 172 229 229 _ 15 [.inr (.inr (.inl 0)), .inl a1, .inl a2, .inr (.inr (.inr ()))] [] 229 jr0 h
    refine jGo_blk qX11_basinOf_15 ?_
    refine st_gr jo_0 jr_0_5 ?_
    refine st_gr jo_29 jr_29_1 ?_
    refine st_ai jo_31 (show 0 ≤ a1 by omega) (show a1 < ((6 : Nat) : Int) by omega) (fun v4 ev4 b5 => ?_)
    replace ev4 : v4 = h 31 a1 := ev4
    replace b5 := (jba_31 a1 _).1 b5
    refine And.intro (fun c6 => ?_) (And.intro (fun c6 => ?_) (And.intro (fun c6 => ?_) (And.intro (fun c6 => ?_) (trivial))))
    · replace c6 : a2 < 0 ∨ 2 < a2 := c6
      show jGo E l 172 229 229 _ 94 [.inr (.inr (.inl 0)), .inl a1, .inl a2, .inl v4] [] 229 jr0 h
      refine jGo_blk qX11_basinOf_94 ?_
      refine st_cv (na := 1) (st := [.inl (-2), .inr (.inr (.inl 0))]) jo_0 rfl rfl rfl (c_X11_refused (-2) h (by omega)) rfl ?_
      rintro _ _ g8 ⟨rfl, ft7, t7, rfl, ht7, zt7⟩ kt7
      replace kt7 : -2147483648 ≤ t7 ∧ t7 ≤ 2147483647 := kt7
      replace ht7 : -7 ≤ t7 ∧ t7 ≤ -1 := ht7
      have fg8 : jfr w_X11_basinOf h g8 := jfr_tr f0 ft7 ws_X11_refused__X11_basinOf
      replace zt7 : t7 = (-2 : Int) := zt7
      exact st_r0 (ls := []) ⟨rfl, rfl, fg8, t7, rfl, trivial, (by unfold P_X11_basinOf; first | exact Or.inl (by omega) | (refine Or.inr ⟨by omega, ?_⟩; first | exact Or.inl (by omega) | exact Or.inr (Or.inl (by omega)) | exact Or.inr (Or.inr (Or.inl (by omega))) | exact Or.inr (Or.inr (Or.inr (Or.inl (by omega)))) | exact Or.inr (Or.inr (Or.inr (Or.inr (Or.inl (by omega))))) | exact Or.inr (Or.inr (Or.inr (Or.inr (Or.inr (Or.inl (by omega)))))) | exact Or.inr (Or.inr (Or.inr (Or.inr (Or.inr (Or.inr (by omega))))))))⟩
    · replace c6 : a2 = 0 := c6
      show jGo E l 172 229 229 _ 52 [.inr (.inr (.inl 0)), .inl a1, .inl a2, .inl v4] [] 229 jr0 h
      refine jGo_blk qX11_basinOf_52 ?_
      refine And.intro (fun c9 => ?_) (fun c9 => ?_)
      · replace c9 : ¬ v4 = (-1) := c9
        show jGo E l 172 229 229 _ 61 [.inr (.inr (.inl 0)), .inl a1, .inl a2, .inl v4] [] 229 jr0 h
        refine jGo_blk qX11_basinOf_61 ?_
        refine And.intro (fun c10 => ?_) (fun c10 => ?_)
        · replace c10 : ¬ v4 = (-2) := c10
          show jGo E l 172 229 229 _ 71 [.inr (.inr (.inl 0)), .inl a1, .inl a2, .inl v4] [] 229 jr0 h
          refine jGo_blk qX11_basinOf_71 ?_
          show jGo E l 172 229 229 _ 72 [.inr (.inr (.inl 0)), .inl a1, .inl a2, .inl v4] [.inl 1] 229 jr0 h
          refine jGo_blk qX11_basinOf_72 ?_
          exact st_r0 (ls := []) ⟨rfl, rfl, f0, 1, rfl, trivial, (by unfold P_X11_basinOf; first | exact Or.inl (by omega) | (refine Or.inr ⟨by omega, ?_⟩; first | exact Or.inl (by omega) | exact Or.inr (Or.inl (by omega)) | exact Or.inr (Or.inr (Or.inl (by omega))) | exact Or.inr (Or.inr (Or.inr (Or.inl (by omega)))) | exact Or.inr (Or.inr (Or.inr (Or.inr (Or.inl (by omega))))) | exact Or.inr (Or.inr (Or.inr (Or.inr (Or.inr (Or.inl (by omega)))))) | exact Or.inr (Or.inr (Or.inr (Or.inr (Or.inr (Or.inr (by omega))))))))⟩
        · replace c10 : v4 = (-2) := by first | exact c10 | exact Int.not_le.mp c10 | exact Int.not_lt.mp c10 | exact Decidable.not_not.mp c10
          show jGo E l 172 229 229 _ 72 [.inr (.inr (.inl 0)), .inl a1, .inl a2, .inl v4] [.inl 2] 229 jr0 h
          refine jGo_blk qX11_basinOf_72 ?_
          exact st_r0 (ls := []) ⟨rfl, rfl, f0, 2, rfl, trivial, (by unfold P_X11_basinOf; first | exact Or.inl (by omega) | (refine Or.inr ⟨by omega, ?_⟩; first | exact Or.inl (by omega) | exact Or.inr (Or.inl (by omega)) | exact Or.inr (Or.inr (Or.inl (by omega))) | exact Or.inr (Or.inr (Or.inr (Or.inl (by omega)))) | exact Or.inr (Or.inr (Or.inr (Or.inr (Or.inl (by omega))))) | exact Or.inr (Or.inr (Or.inr (Or.inr (Or.inr (Or.inl (by omega)))))) | exact Or.inr (Or.inr (Or.inr (Or.inr (Or.inr (Or.inr (by omega))))))))⟩
      · replace c9 : v4 = (-1) := by first | exact c9 | exact Int.not_le.mp c9 | exact Int.not_lt.mp c9 | exact Decidable.not_not.mp c9
        show jGo E l 172 229 229 _ 72 [.inr (.inr (.inl 0)), .inl a1, .inl a2, .inl v4] [.inl 0] 229 jr0 h
        refine jGo_blk qX11_basinOf_72 ?_
        exact st_r0 (ls := []) ⟨rfl, rfl, f0, 0, rfl, trivial, (by unfold P_X11_basinOf; first | exact Or.inl (by omega) | (refine Or.inr ⟨by omega, ?_⟩; first | exact Or.inl (by omega) | exact Or.inr (Or.inl (by omega)) | exact Or.inr (Or.inr (Or.inl (by omega))) | exact Or.inr (Or.inr (Or.inr (Or.inl (by omega)))) | exact Or.inr (Or.inr (Or.inr (Or.inr (Or.inl (by omega))))) | exact Or.inr (Or.inr (Or.inr (Or.inr (Or.inr (Or.inl (by omega)))))) | exact Or.inr (Or.inr (Or.inr (Or.inr (Or.inr (Or.inr (by omega))))))))⟩
    · replace c6 : a2 = 1 := c6
      show jGo E l 172 229 229 _ 73 [.inr (.inr (.inl 0)), .inl a1, .inl a2, .inl v4] [] 229 jr0 h
      refine jGo_blk qX11_basinOf_73 ?_
      refine And.intro (fun c11 => ?_) (fun c11 => ?_)
      · replace c11 : 0 ≤ v4 := c11
        show jGo E l 172 229 229 _ 82 [.inr (.inr (.inl 0)), .inl a1, .inl a2, .inl v4] [] 229 jr0 h
        refine jGo_blk qX11_basinOf_82 ?_
        show jGo E l 172 229 229 _ 83 [.inr (.inr (.inl 0)), .inl a1, .inl a2, .inl v4] [.inl v4] 229 jr0 h
        refine jGo_blk qX11_basinOf_83 ?_
        exact st_r0 (ls := []) ⟨rfl, rfl, f0, v4, rfl, trivial, (by unfold P_X11_basinOf; first | exact Or.inl (by omega) | (refine Or.inr ⟨by omega, ?_⟩; first | exact Or.inl (by omega) | exact Or.inr (Or.inl (by omega)) | exact Or.inr (Or.inr (Or.inl (by omega))) | exact Or.inr (Or.inr (Or.inr (Or.inl (by omega)))) | exact Or.inr (Or.inr (Or.inr (Or.inr (Or.inl (by omega))))) | exact Or.inr (Or.inr (Or.inr (Or.inr (Or.inr (Or.inl (by omega)))))) | exact Or.inr (Or.inr (Or.inr (Or.inr (Or.inr (Or.inr (by omega))))))))⟩
      · replace c11 : v4 < 0 := by first | exact c11 | exact Int.not_le.mp c11 | exact Int.not_lt.mp c11 | exact Decidable.not_not.mp c11
        show jGo E l 172 229 229 _ 83 [.inr (.inr (.inl 0)), .inl a1, .inl a2, .inl v4] [.inl (-9)] 229 jr0 h
        refine jGo_blk qX11_basinOf_83 ?_
        exact st_r0 (ls := []) ⟨rfl, rfl, f0, (-9), rfl, trivial, (by unfold P_X11_basinOf; first | exact Or.inl (by omega) | (refine Or.inr ⟨by omega, ?_⟩; first | exact Or.inl (by omega) | exact Or.inr (Or.inl (by omega)) | exact Or.inr (Or.inr (Or.inl (by omega))) | exact Or.inr (Or.inr (Or.inr (Or.inl (by omega)))) | exact Or.inr (Or.inr (Or.inr (Or.inr (Or.inl (by omega))))) | exact Or.inr (Or.inr (Or.inr (Or.inr (Or.inr (Or.inl (by omega)))))) | exact Or.inr (Or.inr (Or.inr (Or.inr (Or.inr (Or.inr (by omega))))))))⟩
    · replace c6 : a2 = 2 := c6
      show jGo E l 172 229 229 _ 84 [.inr (.inr (.inl 0)), .inl a1, .inl a2, .inl v4] [] 229 jr0 h
      refine jGo_blk qX11_basinOf_84 ?_
      refine st_gr jo_0 jr_0_5 ?_
      refine st_gr jo_29 jr_29_2 ?_
      refine st_ai jo_32 (show 0 ≤ a1 by omega) (show a1 < ((6 : Nat) : Int) by omega) (fun v12 ev12 b13 => ?_)
      replace ev12 : v12 = h 32 a1 := ev12
      replace b13 := (jba_32 a1 _).1 b13
      exact st_r0 (ls := []) ⟨rfl, rfl, f0, v12, rfl, trivial, (by unfold P_X11_basinOf; first | exact Or.inl (by omega) | (refine Or.inr ⟨by omega, ?_⟩; first | exact Or.inl (by omega) | exact Or.inr (Or.inl (by omega)) | exact Or.inr (Or.inr (Or.inl (by omega))) | exact Or.inr (Or.inr (Or.inr (Or.inl (by omega)))) | exact Or.inr (Or.inr (Or.inr (Or.inr (Or.inl (by omega))))) | exact Or.inr (Or.inr (Or.inr (Or.inr (Or.inr (Or.inl (by omega)))))) | exact Or.inr (Or.inr (Or.inr (Or.inr (Or.inr (Or.inr (by omega))))))))⟩
  · replace c3 : t1 = 0 := by first | exact c3 | exact Int.not_le.mp c3 | exact Int.not_lt.mp c3 | exact Decidable.not_not.mp c3
    refine st_cv (na := 1) (st := [.inl (-1), .inr (.inr (.inl 0))]) jo_0 rfl rfl rfl (c_X11_refused (-1) h (by omega)) rfl ?_
    rintro _ _ g15 ⟨rfl, ft14, t14, rfl, ht14, zt14⟩ kt14
    replace kt14 : -2147483648 ≤ t14 ∧ t14 ≤ 2147483647 := kt14
    replace ht14 : -7 ≤ t14 ∧ t14 ≤ -1 := ht14
    have fg15 : jfr w_X11_basinOf h g15 := jfr_tr f0 ft14 ws_X11_refused__X11_basinOf
    replace zt14 : t14 = (-1 : Int) := zt14
    exact st_r0 (ls := []) ⟨rfl, rfl, fg15, t14, rfl, trivial, (by unfold P_X11_basinOf; first | exact Or.inl (by omega) | (refine Or.inr ⟨by omega, ?_⟩; first | exact Or.inl (by omega) | exact Or.inr (Or.inl (by omega)) | exact Or.inr (Or.inr (Or.inl (by omega))) | exact Or.inr (Or.inr (Or.inr (Or.inl (by omega)))) | exact Or.inr (Or.inr (Or.inr (Or.inr (Or.inl (by omega))))) | exact Or.inr (Or.inr (Or.inr (Or.inr (Or.inr (Or.inl (by omega)))))) | exact Or.inr (Or.inr (Or.inr (Or.inr (Or.inr (Or.inr (by omega))))))))⟩

def w_X12_basinOf (i k : Int) : Prop := (i = 219)
theorem ws_X12_refuse__X12_basinOf (i k : Int) (q : w_X12_refuse i k) : w_X12_basinOf i k := by
  unfold w_X12_refuse at q; unfold w_X12_basinOf
  exact (by omega)
def k_X12_basinOf (a1 : Int) (a2 : Int) (h : JH) (v : Option JV) (r' g : JH) : Prop := r' = jr0 ∧ jfr w_X12_basinOf h g ∧ ∃ x : Int, v = some (.inl x) ∧ (True) ∧ (P_X12_basinOf a1 a2 x h)
set_option maxHeartbeats 4000000 in
theorem c_X12_basinOf {E : JE} {l : Launch} (a1 : Int) (a2 : Int) (h : JH) : jMt E l 173 [.inr (.inr (.inl 176)), .inl a1, .inl a2] 229 jr0 h (k_X12_basinOf a1 a2 h) := by
  refine jMt0 (nL := 4) (ls := [.inr (.inr (.inl 176)), .inl a1, .inl a2, .inr (.inr (.inr ()))]) (by decide +kernel) (by decide +kernel) (by decide +kernel) rfl rfl ?_
  have f0 : jfr w_X12_basinOf h h := jfr_rf _ _
  refine jGo_blk qX12_basinOf_0 ?_
  refine st_cs (na := 3) (st := [.inl 5, .inl 0, .inl a1]) rfl rfl rfl (c_X12_in a1 0 5 h) rfl ?_
  rintro _ _ _ ⟨rfl, rfl, t1, rfl, ht1, zt1⟩ kt1
  replace kt1 : -2147483648 ≤ t1 ∧ t1 ≤ 2147483647 := kt1
  replace ht1 : 0 ≤ t1 ∧ t1 ≤ 1 := ht1
  replace zt1 : (t1 = 1 ∧ (0 : Int) ≤ a1 ∧ a1 ≤ (5 : Int)) ∨ (t1 = 0 ∧ ¬ ((0 : Int) ≤ a1 ∧ a1 ≤ (5 : Int))) := zt1
  refine And.intro (fun c3 => ?_) (fun c3 => ?_)
  · replace c3 : ¬ t1 = 0 := c3
    show jGo E l 173 229 229 _ 15 [.inr (.inr (.inl 176)), .inl a1, .inl a2, .inr (.inr (.inr ()))] [] 229 jr0 h
    refine jGo_blk qX12_basinOf_15 ?_
    refine st_gr jo_176 jr_176_28 ?_
    refine st_ai jo_202 (show 0 ≤ a1 by omega) (show a1 < ((6 : Nat) : Int) by omega) (fun v4 ev4 b5 => ?_)
    replace ev4 : v4 = h 202 a1 := ev4
    replace b5 := (jba_202 a1 _).1 b5
    refine And.intro (fun c6 => ?_) (fun c6 => ?_)
    · replace c6 : ¬ v4 = 100 := c6
      show jGo E l 173 229 229 _ 30 [.inr (.inr (.inl 176)), .inl a1, .inl a2, .inr (.inr (.inr ()))] [] 229 jr0 h
      refine jGo_blk qX12_basinOf_30 ?_
      show jGo E l 173 229 229 _ 31 [.inr (.inr (.inl 176)), .inl a1, .inl a2, .inr (.inr (.inr ()))] [.inl 0] 229 jr0 h
      refine jGo_blk qX12_basinOf_31 ?_
      refine And.intro (fun c7 => ?_) (And.intro (fun c7 => ?_) (And.intro (fun c7 => ?_) (And.intro (fun c7 => ?_) (trivial))))
      · replace c7 : a2 < 0 ∨ 2 < a2 := c7
        show jGo E l 173 229 229 _ 123 [.inr (.inr (.inl 176)), .inl a1, .inl a2, .inl 0] [] 229 jr0 h
        refine jGo_blk qX12_basinOf_123 ?_
        refine st_cv (na := 1) (st := [.inl (-2), .inr (.inr (.inl 176))]) jo_176 rfl rfl rfl (c_X12_refuse (-2) h (by omega)) rfl ?_
        rintro _ _ g9 ⟨rfl, ft8, t8, rfl, ht8, zt8⟩ kt8
        replace kt8 : -2147483648 ≤ t8 ∧ t8 ≤ 2147483647 := kt8
        replace ht8 : -7 ≤ t8 ∧ t8 ≤ -1 := ht8
        have fg9 : jfr w_X12_basinOf h g9 := jfr_tr f0 ft8 ws_X12_refuse__X12_basinOf
        replace zt8 : t8 = (-2 : Int) := zt8
        exact st_r0 (ls := []) ⟨rfl, rfl, fg9, t8, rfl, trivial, (by unfold P_X12_basinOf; first | exact Or.inl (by omega) | (refine Or.inr ⟨by omega, ?_⟩; first | exact Or.inl (by omega) | exact Or.inr (Or.inl (by omega)) | exact Or.inr (Or.inr (Or.inl (by omega))) | exact Or.inr (Or.inr (Or.inr (Or.inl (by omega)))) | exact Or.inr (Or.inr (Or.inr (Or.inr (Or.inl (by omega))))) | exact Or.inr (Or.inr (Or.inr (Or.inr (Or.inr (Or.inl (by omega)))))) | exact Or.inr (Or.inr (Or.inr (Or.inr (Or.inr (Or.inr (Or.inl (by omega))))))) | exact Or.inr (Or.inr (Or.inr (Or.inr (Or.inr (Or.inr (Or.inr (by omega)))))))))⟩
      · replace c7 : a2 = 0 := c7
        show jGo E l 173 229 229 _ 60 [.inr (.inr (.inl 176)), .inl a1, .inl a2, .inl 0] [] 229 jr0 h
        refine jGo_blk qX12_basinOf_60 ?_
        refine st_gr jo_176 jr_176_28 ?_
        refine st_ai jo_202 (show 0 ≤ a1 by omega) (show a1 < ((6 : Nat) : Int) by omega) (fun v10 ev10 b11 => ?_)
        replace ev10 : v10 = h 202 a1 := ev10
        replace b11 := (jba_202 a1 _).1 b11
        refine And.intro (fun c12 => ?_) (fun c12 => ?_)
        · replace c12 : 0 ≤ v10 := c12
          show jGo E l 173 229 229 _ 73 [.inr (.inr (.inl 176)), .inl a1, .inl a2, .inl 0] [] 229 jr0 h
          refine jGo_blk qX12_basinOf_73 ?_
          refine And.intro (fun c13 => ?_) (fun c13 => ?_)
          · replace c13 : (0 : Int) = 0 := c13
            show jGo E l 173 229 229 _ 81 [.inr (.inr (.inl 176)), .inl a1, .inl a2, .inl 0] [] 229 jr0 h
            refine jGo_blk qX12_basinOf_81 ?_
            show jGo E l 173 229 229 _ 82 [.inr (.inr (.inl 176)), .inl a1, .inl a2, .inl 0] [.inl 1] 229 jr0 h
            refine jGo_blk qX12_basinOf_82 ?_
            exact st_r0 (ls := []) ⟨rfl, rfl, f0, 1, rfl, trivial, (by unfold P_X12_basinOf; first | exact Or.inl (by omega) | (refine Or.inr ⟨by omega, ?_⟩; first | exact Or.inl (by omega) | exact Or.inr (Or.inl (by omega)) | exact Or.inr (Or.inr (Or.inl (by omega))) | exact Or.inr (Or.inr (Or.inr (Or.inl (by omega)))) | exact Or.inr (Or.inr (Or.inr (Or.inr (Or.inl (by omega))))) | exact Or.inr (Or.inr (Or.inr (Or.inr (Or.inr (Or.inl (by omega)))))) | exact Or.inr (Or.inr (Or.inr (Or.inr (Or.inr (Or.inr (Or.inl (by omega))))))) | exact Or.inr (Or.inr (Or.inr (Or.inr (Or.inr (Or.inr (Or.inr (by omega)))))))))⟩
          · replace c13 : ¬ (0 : Int) = 0 := by first | exact c13 | exact Int.not_le.mp c13 | exact Int.not_lt.mp c13 | exact Decidable.not_not.mp c13
            exfalso; omega
        · replace c12 : v10 < 0 := by first | exact c12 | exact Int.not_le.mp c12 | exact Int.not_lt.mp c12 | exact Decidable.not_not.mp c12
          show jGo E l 173 229 229 _ 82 [.inr (.inr (.inl 176)), .inl a1, .inl a2, .inl 0] [.inl 0] 229 jr0 h
          refine jGo_blk qX12_basinOf_82 ?_
          exact st_r0 (ls := []) ⟨rfl, rfl, f0, 0, rfl, trivial, (by unfold P_X12_basinOf; first | exact Or.inl (by omega) | (refine Or.inr ⟨by omega, ?_⟩; first | exact Or.inl (by omega) | exact Or.inr (Or.inl (by omega)) | exact Or.inr (Or.inr (Or.inl (by omega))) | exact Or.inr (Or.inr (Or.inr (Or.inl (by omega)))) | exact Or.inr (Or.inr (Or.inr (Or.inr (Or.inl (by omega))))) | exact Or.inr (Or.inr (Or.inr (Or.inr (Or.inr (Or.inl (by omega)))))) | exact Or.inr (Or.inr (Or.inr (Or.inr (Or.inr (Or.inr (Or.inl (by omega))))))) | exact Or.inr (Or.inr (Or.inr (Or.inr (Or.inr (Or.inr (Or.inr (by omega)))))))))⟩
      · replace c7 : a2 = 1 := c7
        show jGo E l 173 229 229 _ 83 [.inr (.inr (.inl 176)), .inl a1, .inl a2, .inl 0] [] 229 jr0 h
        refine jGo_blk qX12_basinOf_83 ?_
        refine st_gr jo_176 jr_176_28 ?_
        refine st_ai jo_202 (show 0 ≤ a1 by omega) (show a1 < ((6 : Nat) : Int) by omega) (fun v14 ev14 b15 => ?_)
        replace ev14 : v14 = h 202 a1 := ev14
        replace b15 := (jba_202 a1 _).1 b15
        refine And.intro (fun c16 => ?_) (fun c16 => ?_)
        · replace c16 : v14 < 0 := c16
          show jGo E l 173 229 229 _ 96 [.inr (.inr (.inl 176)), .inl a1, .inl a2, .inl 0] [] 229 jr0 h
          refine jGo_blk qX12_basinOf_96 ?_
          show jGo E l 173 229 229 _ 107 [.inr (.inr (.inl 176)), .inl a1, .inl a2, .inl 0] [.inl (-9)] 229 jr0 h
          refine jGo_blk qX12_basinOf_107 ?_
          exact st_r0 (ls := []) ⟨rfl, rfl, f0, (-9), rfl, trivial, (by unfold P_X12_basinOf; first | exact Or.inl (by omega) | (refine Or.inr ⟨by omega, ?_⟩; first | exact Or.inl (by omega) | exact Or.inr (Or.inl (by omega)) | exact Or.inr (Or.inr (Or.inl (by omega))) | exact Or.inr (Or.inr (Or.inr (Or.inl (by omega)))) | exact Or.inr (Or.inr (Or.inr (Or.inr (Or.inl (by omega))))) | exact Or.inr (Or.inr (Or.inr (Or.inr (Or.inr (Or.inl (by omega)))))) | exact Or.inr (Or.inr (Or.inr (Or.inr (Or.inr (Or.inr (Or.inl (by omega))))))) | exact Or.inr (Or.inr (Or.inr (Or.inr (Or.inr (Or.inr (Or.inr (by omega)))))))))⟩
        · replace c16 : 0 ≤ v14 := by first | exact c16 | exact Int.not_le.mp c16 | exact Int.not_lt.mp c16 | exact Decidable.not_not.mp c16
          refine And.intro (fun c17 => ?_) (fun c17 => ?_)
          · replace c17 : (0 : Int) = 0 := c17
            show jGo E l 173 229 229 _ 101 [.inr (.inr (.inl 176)), .inl a1, .inl a2, .inl 0] [] 229 jr0 h
            refine jGo_blk qX12_basinOf_101 ?_
            refine st_gr jo_176 jr_176_28 ?_
            refine st_ai jo_202 (show 0 ≤ a1 by omega) (show a1 < ((6 : Nat) : Int) by omega) (fun v18 ev18 b19 => ?_)
            replace ev18 : v18 = h 202 a1 := ev18
            replace b19 := (jba_202 a1 _).1 b19
            show jGo E l 173 229 229 _ 107 [.inr (.inr (.inl 176)), .inl a1, .inl a2, .inl 0] [.inl v18] 229 jr0 h
            refine jGo_blk qX12_basinOf_107 ?_
            exact st_r0 (ls := []) ⟨rfl, rfl, f0, v18, rfl, trivial, (by unfold P_X12_basinOf; first | exact Or.inl (by omega) | (refine Or.inr ⟨by omega, ?_⟩; first | exact Or.inl (by omega) | exact Or.inr (Or.inl (by omega)) | exact Or.inr (Or.inr (Or.inl (by omega))) | exact Or.inr (Or.inr (Or.inr (Or.inl (by omega)))) | exact Or.inr (Or.inr (Or.inr (Or.inr (Or.inl (by omega))))) | exact Or.inr (Or.inr (Or.inr (Or.inr (Or.inr (Or.inl (by omega)))))) | exact Or.inr (Or.inr (Or.inr (Or.inr (Or.inr (Or.inr (Or.inl (by omega))))))) | exact Or.inr (Or.inr (Or.inr (Or.inr (Or.inr (Or.inr (Or.inr (by omega)))))))))⟩
          · replace c17 : ¬ (0 : Int) = 0 := by first | exact c17 | exact Int.not_le.mp c17 | exact Int.not_lt.mp c17 | exact Decidable.not_not.mp c17
            exfalso; omega
      · replace c7 : a2 = 2 := c7
        show jGo E l 173 229 229 _ 108 [.inr (.inr (.inl 176)), .inl a1, .inl a2, .inl 0] [] 229 jr0 h
        refine jGo_blk qX12_basinOf_108 ?_
        refine And.intro (fun c20 => ?_) (fun c20 => ?_)
        · replace c20 : (0 : Int) = 0 := c20
          show jGo E l 173 229 229 _ 121 [.inr (.inr (.inl 176)), .inl a1, .inl a2, .inl 0] [] 229 jr0 h
          refine jGo_blk qX12_basinOf_121 ?_
          show jGo E l 173 229 229 _ 122 [.inr (.inr (.inl 176)), .inl a1, .inl a2, .inl 0] [.inl 0] 229 jr0 h
          refine jGo_blk qX12_basinOf_122 ?_
          exact st_r0 (ls := []) ⟨rfl, rfl, f0, 0, rfl, trivial, (by unfold P_X12_basinOf; first | exact Or.inl (by omega) | (refine Or.inr ⟨by omega, ?_⟩; first | exact Or.inl (by omega) | exact Or.inr (Or.inl (by omega)) | exact Or.inr (Or.inr (Or.inl (by omega))) | exact Or.inr (Or.inr (Or.inr (Or.inl (by omega)))) | exact Or.inr (Or.inr (Or.inr (Or.inr (Or.inl (by omega))))) | exact Or.inr (Or.inr (Or.inr (Or.inr (Or.inr (Or.inl (by omega)))))) | exact Or.inr (Or.inr (Or.inr (Or.inr (Or.inr (Or.inr (Or.inl (by omega))))))) | exact Or.inr (Or.inr (Or.inr (Or.inr (Or.inr (Or.inr (Or.inr (by omega)))))))))⟩
        · replace c20 : ¬ (0 : Int) = 0 := by first | exact c20 | exact Int.not_le.mp c20 | exact Int.not_lt.mp c20 | exact Decidable.not_not.mp c20
          exfalso; omega
    · replace c6 : v4 = 100 := by first | exact c6 | exact Int.not_le.mp c6 | exact Int.not_lt.mp c6 | exact Decidable.not_not.mp c6
      show jGo E l 173 229 229 _ 31 [.inr (.inr (.inl 176)), .inl a1, .inl a2, .inr (.inr (.inr ()))] [.inl 1] 229 jr0 h
      refine jGo_blk qX12_basinOf_31 ?_
      refine And.intro (fun c21 => ?_) (And.intro (fun c21 => ?_) (And.intro (fun c21 => ?_) (And.intro (fun c21 => ?_) (trivial))))
      · replace c21 : a2 < 0 ∨ 2 < a2 := c21
        show jGo E l 173 229 229 _ 123 [.inr (.inr (.inl 176)), .inl a1, .inl a2, .inl 1] [] 229 jr0 h
        refine jGo_blk qX12_basinOf_123 ?_
        refine st_cv (na := 1) (st := [.inl (-2), .inr (.inr (.inl 176))]) jo_176 rfl rfl rfl (c_X12_refuse (-2) h (by omega)) rfl ?_
        rintro _ _ g23 ⟨rfl, ft22, t22, rfl, ht22, zt22⟩ kt22
        replace kt22 : -2147483648 ≤ t22 ∧ t22 ≤ 2147483647 := kt22
        replace ht22 : -7 ≤ t22 ∧ t22 ≤ -1 := ht22
        have fg23 : jfr w_X12_basinOf h g23 := jfr_tr f0 ft22 ws_X12_refuse__X12_basinOf
        replace zt22 : t22 = (-2 : Int) := zt22
        exact st_r0 (ls := []) ⟨rfl, rfl, fg23, t22, rfl, trivial, (by unfold P_X12_basinOf; first | exact Or.inl (by omega) | (refine Or.inr ⟨by omega, ?_⟩; first | exact Or.inl (by omega) | exact Or.inr (Or.inl (by omega)) | exact Or.inr (Or.inr (Or.inl (by omega))) | exact Or.inr (Or.inr (Or.inr (Or.inl (by omega)))) | exact Or.inr (Or.inr (Or.inr (Or.inr (Or.inl (by omega))))) | exact Or.inr (Or.inr (Or.inr (Or.inr (Or.inr (Or.inl (by omega)))))) | exact Or.inr (Or.inr (Or.inr (Or.inr (Or.inr (Or.inr (Or.inl (by omega))))))) | exact Or.inr (Or.inr (Or.inr (Or.inr (Or.inr (Or.inr (Or.inr (by omega)))))))))⟩
      · replace c21 : a2 = 0 := c21
        show jGo E l 173 229 229 _ 60 [.inr (.inr (.inl 176)), .inl a1, .inl a2, .inl 1] [] 229 jr0 h
        refine jGo_blk qX12_basinOf_60 ?_
        refine st_gr jo_176 jr_176_28 ?_
        refine st_ai jo_202 (show 0 ≤ a1 by omega) (show a1 < ((6 : Nat) : Int) by omega) (fun v24 ev24 b25 => ?_)
        replace ev24 : v24 = h 202 a1 := ev24
        replace b25 := (jba_202 a1 _).1 b25
        refine And.intro (fun c26 => ?_) (fun c26 => ?_)
        · replace c26 : 0 ≤ v24 := c26
          show jGo E l 173 229 229 _ 73 [.inr (.inr (.inl 176)), .inl a1, .inl a2, .inl 1] [] 229 jr0 h
          refine jGo_blk qX12_basinOf_73 ?_
          refine And.intro (fun c27 => ?_) (fun c27 => ?_)
          · replace c27 : (1 : Int) = 0 := c27
            exfalso; omega
          · replace c27 : ¬ (1 : Int) = 0 := by first | exact c27 | exact Int.not_le.mp c27 | exact Int.not_lt.mp c27 | exact Decidable.not_not.mp c27
            show jGo E l 173 229 229 _ 82 [.inr (.inr (.inl 176)), .inl a1, .inl a2, .inl 1] [.inl 2] 229 jr0 h
            refine jGo_blk qX12_basinOf_82 ?_
            exact st_r0 (ls := []) ⟨rfl, rfl, f0, 2, rfl, trivial, (by unfold P_X12_basinOf; first | exact Or.inl (by omega) | (refine Or.inr ⟨by omega, ?_⟩; first | exact Or.inl (by omega) | exact Or.inr (Or.inl (by omega)) | exact Or.inr (Or.inr (Or.inl (by omega))) | exact Or.inr (Or.inr (Or.inr (Or.inl (by omega)))) | exact Or.inr (Or.inr (Or.inr (Or.inr (Or.inl (by omega))))) | exact Or.inr (Or.inr (Or.inr (Or.inr (Or.inr (Or.inl (by omega)))))) | exact Or.inr (Or.inr (Or.inr (Or.inr (Or.inr (Or.inr (Or.inl (by omega))))))) | exact Or.inr (Or.inr (Or.inr (Or.inr (Or.inr (Or.inr (Or.inr (by omega)))))))))⟩
        · replace c26 : v24 < 0 := by first | exact c26 | exact Int.not_le.mp c26 | exact Int.not_lt.mp c26 | exact Decidable.not_not.mp c26
          exfalso; omega
      · replace c21 : a2 = 1 := c21
        show jGo E l 173 229 229 _ 83 [.inr (.inr (.inl 176)), .inl a1, .inl a2, .inl 1] [] 229 jr0 h
        refine jGo_blk qX12_basinOf_83 ?_
        refine st_gr jo_176 jr_176_28 ?_
        refine st_ai jo_202 (show 0 ≤ a1 by omega) (show a1 < ((6 : Nat) : Int) by omega) (fun v28 ev28 b29 => ?_)
        replace ev28 : v28 = h 202 a1 := ev28
        replace b29 := (jba_202 a1 _).1 b29
        refine And.intro (fun c30 => ?_) (fun c30 => ?_)
        · replace c30 : v28 < 0 := c30
          exfalso; omega
        · replace c30 : 0 ≤ v28 := by first | exact c30 | exact Int.not_le.mp c30 | exact Int.not_lt.mp c30 | exact Decidable.not_not.mp c30
          refine And.intro (fun c31 => ?_) (fun c31 => ?_)
          · replace c31 : (1 : Int) = 0 := c31
            exfalso; omega
          · replace c31 : ¬ (1 : Int) = 0 := by first | exact c31 | exact Int.not_le.mp c31 | exact Int.not_lt.mp c31 | exact Decidable.not_not.mp c31
            show jGo E l 173 229 229 _ 96 [.inr (.inr (.inl 176)), .inl a1, .inl a2, .inl 1] [] 229 jr0 h
            refine jGo_blk qX12_basinOf_96 ?_
            show jGo E l 173 229 229 _ 107 [.inr (.inr (.inl 176)), .inl a1, .inl a2, .inl 1] [.inl (-9)] 229 jr0 h
            refine jGo_blk qX12_basinOf_107 ?_
            exact st_r0 (ls := []) ⟨rfl, rfl, f0, (-9), rfl, trivial, (by unfold P_X12_basinOf; first | exact Or.inl (by omega) | (refine Or.inr ⟨by omega, ?_⟩; first | exact Or.inl (by omega) | exact Or.inr (Or.inl (by omega)) | exact Or.inr (Or.inr (Or.inl (by omega))) | exact Or.inr (Or.inr (Or.inr (Or.inl (by omega)))) | exact Or.inr (Or.inr (Or.inr (Or.inr (Or.inl (by omega))))) | exact Or.inr (Or.inr (Or.inr (Or.inr (Or.inr (Or.inl (by omega)))))) | exact Or.inr (Or.inr (Or.inr (Or.inr (Or.inr (Or.inr (Or.inl (by omega))))))) | exact Or.inr (Or.inr (Or.inr (Or.inr (Or.inr (Or.inr (Or.inr (by omega)))))))))⟩
      · replace c21 : a2 = 2 := c21
        show jGo E l 173 229 229 _ 108 [.inr (.inr (.inl 176)), .inl a1, .inl a2, .inl 1] [] 229 jr0 h
        refine jGo_blk qX12_basinOf_108 ?_
        refine And.intro (fun c32 => ?_) (fun c32 => ?_)
        · replace c32 : (1 : Int) = 0 := c32
          exfalso; omega
        · replace c32 : ¬ (1 : Int) = 0 := by first | exact c32 | exact Int.not_le.mp c32 | exact Int.not_lt.mp c32 | exact Decidable.not_not.mp c32
          refine st_gr jo_176 jr_176_29 ?_
          refine st_ai jo_203 (show 0 ≤ a1 by omega) (show a1 < ((6 : Nat) : Int) by omega) (fun v33 ev33 b34 => ?_)
          replace ev33 : v33 = h 203 a1 := ev33
          replace b34 := (jba_203 a1 _).1 b34
          show jGo E l 173 229 229 _ 122 [.inr (.inr (.inl 176)), .inl a1, .inl a2, .inl 1] [.inl v33] 229 jr0 h
          refine jGo_blk qX12_basinOf_122 ?_
          exact st_r0 (ls := []) ⟨rfl, rfl, f0, v33, rfl, trivial, (by unfold P_X12_basinOf; first | exact Or.inl (by omega) | (refine Or.inr ⟨by omega, ?_⟩; first | exact Or.inl (by omega) | exact Or.inr (Or.inl (by omega)) | exact Or.inr (Or.inr (Or.inl (by omega))) | exact Or.inr (Or.inr (Or.inr (Or.inl (by omega)))) | exact Or.inr (Or.inr (Or.inr (Or.inr (Or.inl (by omega))))) | exact Or.inr (Or.inr (Or.inr (Or.inr (Or.inr (Or.inl (by omega)))))) | exact Or.inr (Or.inr (Or.inr (Or.inr (Or.inr (Or.inr (Or.inl (by omega))))))) | exact Or.inr (Or.inr (Or.inr (Or.inr (Or.inr (Or.inr (Or.inr (by omega)))))))))⟩
  · replace c3 : t1 = 0 := by first | exact c3 | exact Int.not_le.mp c3 | exact Int.not_lt.mp c3 | exact Decidable.not_not.mp c3
    refine st_cv (na := 1) (st := [.inl (-1), .inr (.inr (.inl 176))]) jo_176 rfl rfl rfl (c_X12_refuse (-1) h (by omega)) rfl ?_
    rintro _ _ g36 ⟨rfl, ft35, t35, rfl, ht35, zt35⟩ kt35
    replace kt35 : -2147483648 ≤ t35 ∧ t35 ≤ 2147483647 := kt35
    replace ht35 : -7 ≤ t35 ∧ t35 ≤ -1 := ht35
    have fg36 : jfr w_X12_basinOf h g36 := jfr_tr f0 ft35 ws_X12_refuse__X12_basinOf
    replace zt35 : t35 = (-1 : Int) := zt35
    exact st_r0 (ls := []) ⟨rfl, rfl, fg36, t35, rfl, trivial, (by unfold P_X12_basinOf; first | exact Or.inl (by omega) | (refine Or.inr ⟨by omega, ?_⟩; first | exact Or.inl (by omega) | exact Or.inr (Or.inl (by omega)) | exact Or.inr (Or.inr (Or.inl (by omega))) | exact Or.inr (Or.inr (Or.inr (Or.inl (by omega)))) | exact Or.inr (Or.inr (Or.inr (Or.inr (Or.inl (by omega))))) | exact Or.inr (Or.inr (Or.inr (Or.inr (Or.inr (Or.inl (by omega)))))) | exact Or.inr (Or.inr (Or.inr (Or.inr (Or.inr (Or.inr (Or.inl (by omega))))))) | exact Or.inr (Or.inr (Or.inr (Or.inr (Or.inr (Or.inr (Or.inr (by omega)))))))))⟩

def w_X11_stock (i k : Int) : Prop := (i = 1)
theorem ws_X11_refused__X11_stock (i k : Int) (q : w_X11_refused i k) : w_X11_stock i k := by
  unfold w_X11_refused at q; unfold w_X11_stock
  exact (by omega)
def k_X11_stock (a1 : Int) (h : JH) (v : Option JV) (r' g : JH) : Prop := r' = jr0 ∧ jfr w_X11_stock h g ∧ ∃ x : Int, v = some (.inl x) ∧ (True) ∧ (P_X11_stock a1 x h)
set_option maxHeartbeats 4000000 in
theorem c_X11_stock {E : JE} {l : Launch} (a1 : Int) (h : JH) : jMt E l 174 [.inr (.inr (.inl 0)), .inl a1] 229 jr0 h (k_X11_stock a1 h) := by
  refine jMt0 (nL := 2) (ls := [.inr (.inr (.inl 0)), .inl a1]) (by decide +kernel) (by decide +kernel) (by decide +kernel) rfl rfl ?_
  have f0 : jfr w_X11_stock h h := jfr_rf _ _
  refine jGo_blk qX11_stock_0 ?_
  refine st_cs (na := 2) (st := [.inl 6, .inl a1]) rfl rfl rfl (c_X11_within a1 6 h) rfl ?_
  rintro _ _ _ ⟨rfl, rfl, t1, rfl, ht1, zt1⟩ kt1
  replace kt1 : -2147483648 ≤ t1 ∧ t1 ≤ 2147483647 := kt1
  replace ht1 : 0 ≤ t1 ∧ t1 ≤ 1 := ht1
  replace zt1 : (t1 = 1 ∧ 0 ≤ a1 ∧ a1 < (6 : Int)) ∨ (t1 = 0 ∧ ¬ (0 ≤ a1 ∧ a1 < (6 : Int))) := zt1
  refine And.intro (fun c3 => ?_) (fun c3 => ?_)
  · replace c3 : ¬ t1 = 0 := c3
    show jGo E l 174 229 229 _ 17 [.inr (.inr (.inl 0)), .inl a1] [] 229 jr0 h
    refine jGo_blk qX11_stock_17 ?_
    refine st_gr jo_0 jr_0_5 ?_
    refine st_gr jo_29 jr_29_0 ?_
    refine st_ai jo_30 (show 0 ≤ a1 by omega) (show a1 < ((6 : Nat) : Int) by omega) (fun v4 ev4 b5 => ?_)
    replace ev4 : v4 = h 30 a1 := ev4
    replace b5 := (jba_30 a1 _).1 b5
    show jGo E l 174 229 229 _ 26 [.inr (.inr (.inl 0)), .inl a1] [.inl v4] 229 jr0 h
    refine jGo_blk qX11_stock_26 ?_
    exact st_r0 (ls := []) ⟨rfl, rfl, f0, v4, rfl, trivial, (by unfold P_X11_stock; first | exact Or.inl (by omega) | (refine Or.inr ⟨by omega, ?_⟩; first | exact (by omega)))⟩
  · replace c3 : t1 = 0 := by first | exact c3 | exact Int.not_le.mp c3 | exact Int.not_lt.mp c3 | exact Decidable.not_not.mp c3
    refine st_cv (na := 1) (st := [.inl (-1), .inr (.inr (.inl 0))]) jo_0 rfl rfl rfl (c_X11_refused (-1) h (by omega)) rfl ?_
    rintro _ _ g7 ⟨rfl, ft6, t6, rfl, ht6, zt6⟩ kt6
    replace kt6 : -2147483648 ≤ t6 ∧ t6 ≤ 2147483647 := kt6
    replace ht6 : -7 ≤ t6 ∧ t6 ≤ -1 := ht6
    have fg7 : jfr w_X11_stock h g7 := jfr_tr f0 ft6 ws_X11_refused__X11_stock
    replace zt6 : t6 = (-1 : Int) := zt6
    show jGo E l 174 229 229 _ 26 [.inr (.inr (.inl 0)), .inl a1] [.inl t6] 229 jr0 g7
    refine jGo_blk qX11_stock_26 ?_
    exact st_r0 (ls := []) ⟨rfl, rfl, fg7, t6, rfl, trivial, (by unfold P_X11_stock; first | exact Or.inl (by omega) | (refine Or.inr ⟨by omega, ?_⟩; first | exact (by omega)))⟩

def w_X12_stock (i k : Int) : Prop := (i = 219)
theorem ws_X12_refuse__X12_stock (i k : Int) (q : w_X12_refuse i k) : w_X12_stock i k := by
  unfold w_X12_refuse at q; unfold w_X12_stock
  exact (by omega)
def k_X12_stock (a1 : Int) (h : JH) (v : Option JV) (r' g : JH) : Prop := r' = jr0 ∧ jfr w_X12_stock h g ∧ ∃ x : Int, v = some (.inl x) ∧ (True) ∧ (P_X12_stock a1 x h)
set_option maxHeartbeats 4000000 in
theorem c_X12_stock {E : JE} {l : Launch} (a1 : Int) (h : JH) : jMt E l 175 [.inr (.inr (.inl 176)), .inl a1] 229 jr0 h (k_X12_stock a1 h) := by
  refine jMt0 (nL := 2) (ls := [.inr (.inr (.inl 176)), .inl a1]) (by decide +kernel) (by decide +kernel) (by decide +kernel) rfl rfl ?_
  have f0 : jfr w_X12_stock h h := jfr_rf _ _
  refine jGo_blk qX12_stock_0 ?_
  refine st_cs (na := 3) (st := [.inl 5, .inl 0, .inl a1]) rfl rfl rfl (c_X12_in a1 0 5 h) rfl ?_
  rintro _ _ _ ⟨rfl, rfl, t1, rfl, ht1, zt1⟩ kt1
  replace kt1 : -2147483648 ≤ t1 ∧ t1 ≤ 2147483647 := kt1
  replace ht1 : 0 ≤ t1 ∧ t1 ≤ 1 := ht1
  replace zt1 : (t1 = 1 ∧ (0 : Int) ≤ a1 ∧ a1 ≤ (5 : Int)) ∨ (t1 = 0 ∧ ¬ ((0 : Int) ≤ a1 ∧ a1 ≤ (5 : Int))) := zt1
  refine And.intro (fun c3 => ?_) (fun c3 => ?_)
  · replace c3 : t1 = 0 := c3
    show jGo E l 175 229 229 _ 18 [.inr (.inr (.inl 176)), .inl a1] [] 229 jr0 h
    refine jGo_blk qX12_stock_18 ?_
    refine st_cv (na := 1) (st := [.inl (-1), .inr (.inr (.inl 176))]) jo_176 rfl rfl rfl (c_X12_refuse (-1) h (by omega)) rfl ?_
    rintro _ _ g5 ⟨rfl, ft4, t4, rfl, ht4, zt4⟩ kt4
    replace kt4 : -2147483648 ≤ t4 ∧ t4 ≤ 2147483647 := kt4
    replace ht4 : -7 ≤ t4 ∧ t4 ≤ -1 := ht4
    have fg5 : jfr w_X12_stock h g5 := jfr_tr f0 ft4 ws_X12_refuse__X12_stock
    replace zt4 : t4 = (-1 : Int) := zt4
    show jGo E l 175 229 229 _ 23 [.inr (.inr (.inl 176)), .inl a1] [.inl t4] 229 jr0 g5
    refine jGo_blk qX12_stock_23 ?_
    exact st_r0 (ls := []) ⟨rfl, rfl, fg5, t4, rfl, trivial, (by unfold P_X12_stock; first | exact Or.inl (by omega) | (refine Or.inr ⟨by omega, ?_⟩; first | exact (by omega)))⟩
  · replace c3 : ¬ t1 = 0 := by first | exact c3 | exact Int.not_le.mp c3 | exact Int.not_lt.mp c3 | exact Decidable.not_not.mp c3
    refine st_gr jo_176 jr_176_5 ?_
    refine st_ai jo_181 (show 0 ≤ a1 by omega) (show a1 < ((6 : Nat) : Int) by omega) (fun v6 ev6 b7 => ?_)
    replace ev6 : v6 = h 181 a1 := ev6
    replace b7 := (jba_181 a1 _).1 b7
    show jGo E l 175 229 229 _ 23 [.inr (.inr (.inl 176)), .inl a1] [.inl v6] 229 jr0 h
    refine jGo_blk qX12_stock_23 ?_
    exact st_r0 (ls := []) ⟨rfl, rfl, f0, v6, rfl, trivial, (by unfold P_X12_stock; first | exact Or.inl (by omega) | (refine Or.inr ⟨by omega, ?_⟩; first | exact (by omega)))⟩

def k_X3_standing (h : JH) (v : Option JV) (r' g : JH) : Prop := r' = jr0 ∧ h = g ∧ ∃ x : Int, v = some (.inl x) ∧ (True) ∧ (True)
set_option maxHeartbeats 4000000 in
theorem c_X3_standing {E : JE} {l : Launch} (h : JH) : jMt E l 176 [.inr (.inr (.inl 84))] 229 jr0 h (k_X3_standing h) := by
  refine jMt0 (nL := 3) (ls := [.inr (.inr (.inl 84)), .inr (.inr (.inr ())), .inr (.inr (.inr ()))]) (by decide +kernel) (by decide +kernel) (by decide +kernel) rfl rfl ?_
  have key : ∀ N : Nat, (∀ (x1 : Int) (x2 : Int), (0 ≤ x2 ∧ x2 ≤ 40) → (40 - x2) < (N : Int) → jGo E l 176 229 229 (jRK (k_X3_standing h)) 4 [.inr (.inr (.inl 84)), .inl x1, .inl x2] [] 229 jr0 h) := by
    intro N
    induction N with
    | zero => exact fun _ _ hi hN => absurd hN (by omega)
    | succ N ih =>
      intro x1 x2 hi hN
      refine jGo_ok (fun hls _ => ?_)
      have rx1 : -2147483648 ≤ x1 ∧ x1 ≤ 2147483647 := hls (.inl x1) (by simp)
      refine jGo_blk qX3_standing_4 ?_
      refine st_gi jo_84 (fun v1 ev1 b2 => ?_)
      replace ev1 : v1 = h 84 0 := ev1
      replace b2 := (jbf_3_0 jo_84 _).1 b2
      refine And.intro (fun c3 => ?_) (fun c3 => ?_)
      · replace c3 : v1 ≤ x2 := c3
        show jGo E l 176 229 229 _ 29 [.inr (.inr (.inl 84)), .inl x1, .inl x2] [] 229 jr0 h
        refine jGo_blk qX3_standing_29 ?_
        exact st_r0 (ls := []) ⟨rfl, rfl, rfl, x1, rfl, trivial, trivial⟩
      · replace c3 : x2 < v1 := by first | exact c3 | exact Int.not_le.mp c3 | exact Int.not_lt.mp c3 | exact Decidable.not_not.mp c3
        refine st_cv (na := 1) (st := [.inl x2, .inr (.inr (.inl 84))]) jo_84 rfl rfl rfl (c_X3_stands x2 h (by omega)) rfl ?_
        rintro _ _ _ ⟨rfl, rfl, t4, rfl, ht4, zt4⟩ kt4
        replace kt4 : -2147483648 ≤ t4 ∧ t4 ≤ 2147483647 := kt4
        replace ht4 : 0 ≤ t4 ∧ t4 ≤ 1 := ht4
        replace zt4 : (t4 = 1 ∧ h 88 x2 = -9) ∨ (t4 = 0 ∧ ¬ h 88 x2 = -9) := zt4
        refine And.intro (fun c6 => ?_) (fun c6 => ?_)
        · replace c6 : t4 = 0 := c6
          show jGo E l 176 229 229 _ 23 [.inr (.inr (.inl 84)), .inl x1, .inl x2] [] 229 jr0 h
          refine jGo_blk qX3_standing_23 ?_
          have e7 : jw32 (x2 + 1) = x2 + 1 := jzj32 (by omega)
          show jGo E l 176 229 229 _ 4 [.inr (.inr (.inl 84)), .inl x1, .inl (jw32 (x2 + 1))] [] 229 jr0 h
          exact ih x1 (jw32 (x2 + 1)) (by omega) (by omega)
        · replace c6 : ¬ t4 = 0 := by first | exact c6 | exact Int.not_le.mp c6 | exact Int.not_lt.mp c6 | exact Decidable.not_not.mp c6
          show jGo E l 176 229 229 _ 23 [.inr (.inr (.inl 84)), .inl (jw32 (x1 + 1)), .inl x2] [] 229 jr0 h
          refine jGo_blk qX3_standing_23 ?_
          have e8 : jw32 (x2 + 1) = x2 + 1 := jzj32 (by omega)
          show jGo E l 176 229 229 _ 4 [.inr (.inr (.inl 84)), .inl (jw32 (x1 + 1)), .inl (jw32 (x2 + 1))] [] 229 jr0 h
          exact ih (jw32 (x1 + 1)) (jw32 (x2 + 1)) (by omega) (by omega)
  refine jGo_blk qX3_standing_0 ?_
  show jGo E l 176 229 229 _ 4 [.inr (.inr (.inl 84)), .inl 0, .inl 0] [] 229 jr0 h
  exact (key 1000000000000) 0 0 (by omega) (by omega)

def k_X11_told (a1 : Int) (h : JH) (v : Option JV) (r' g : JH) : Prop := r' = jr0 ∧ h = g ∧ ∃ x : Int, v = some (.inl x) ∧ (True) ∧ (True)
set_option maxHeartbeats 4000000 in
theorem c_X11_told {E : JE} {l : Launch} (a1 : Int) (h : JH) : jMt E l 177 [.inr (.inr (.inl 0)), .inl a1] 229 jr0 h (k_X11_told a1 h) := by
  refine jMt0 (nL := 2) (ls := [.inr (.inr (.inl 0)), .inl a1]) (by decide +kernel) (by decide +kernel) (by decide +kernel) rfl rfl ?_
  refine jGo_blk qX11_told_0 ?_
  refine And.intro (fun c1 => ?_) (And.intro (fun c1 => ?_) (And.intro (fun c1 => ?_) (And.intro (fun c1 => ?_) (And.intro (fun c1 => ?_) (And.intro (fun c1 => ?_) (And.intro (fun c1 => ?_) (And.intro (fun c1 => ?_) (And.intro (fun c1 => ?_) (And.intro (fun c1 => ?_) (trivial))))))))))
  · replace c1 : a1 < 0 ∨ 8 < a1 := c1
    show jGo E l 177 229 229 _ 122 [.inr (.inr (.inl 0)), .inl a1] [] 229 jr0 h
    refine jGo_blk qX11_told_122 ?_
    refine And.intro (fun c2 => ?_) (fun c2 => ?_)
    · replace c2 : a1 < 11 := c2
      show jGo E l 177 229 229 _ 146 [.inr (.inr (.inl 0)), .inl a1] [] 229 jr0 h
      refine jGo_blk qX11_told_146 ?_
      show jGo E l 177 229 229 _ 148 [.inr (.inr (.inl 0)), .inl a1] [.inl (-9)] 229 jr0 h
      refine jGo_blk qX11_told_148 ?_
      exact st_r0 (ls := []) ⟨rfl, rfl, rfl, (-9), rfl, trivial, trivial⟩
    · replace c2 : 11 ≤ a1 := by first | exact c2 | exact Int.not_le.mp c2 | exact Int.not_lt.mp c2 | exact Decidable.not_not.mp c2
      refine And.intro (fun c3 => ?_) (fun c3 => ?_)
      · replace c3 : 17 < a1 := c3
        show jGo E l 177 229 229 _ 146 [.inr (.inr (.inl 0)), .inl a1] [] 229 jr0 h
        refine jGo_blk qX11_told_146 ?_
        show jGo E l 177 229 229 _ 148 [.inr (.inr (.inl 0)), .inl a1] [.inl (-9)] 229 jr0 h
        refine jGo_blk qX11_told_148 ?_
        exact st_r0 (ls := []) ⟨rfl, rfl, rfl, (-9), rfl, trivial, trivial⟩
      · replace c3 : a1 ≤ 17 := by first | exact c3 | exact Int.not_le.mp c3 | exact Int.not_lt.mp c3 | exact Decidable.not_not.mp c3
        refine st_gr jo_0 jr_0_1 ?_
        have e4 : jw32 (a1 - 10) = a1 - 10 := jzj32 (by omega)
        refine st_ai jo_1 (show 0 ≤ jw32 (a1 - 10) by omega) (show jw32 (a1 - 10) < ((8 : Nat) : Int) by omega) (fun v5 ev5 b6 => ?_)
        replace ev5 : v5 = h 1 (jw32 (a1 - 10)) := ev5
        replace b6 := (jba_1 (jw32 (a1 - 10)) _).1 b6
        show jGo E l 177 229 229 _ 148 [.inr (.inr (.inl 0)), .inl a1] [.inl v5] 229 jr0 h
        refine jGo_blk qX11_told_148 ?_
        exact st_r0 (ls := []) ⟨rfl, rfl, rfl, v5, rfl, trivial, trivial⟩
  · replace c1 : a1 = 0 := c1
    show jGo E l 177 229 229 _ 52 [.inr (.inr (.inl 0)), .inl a1] [] 229 jr0 h
    refine jGo_blk qX11_told_52 ?_
    refine st_gi jo_0 (fun v7 ev7 b8 => ?_)
    replace ev7 : v7 = h 0 0 := ev7
    replace b8 := (jbf_11_0 jo_0 _).1 b8
    exact st_r0 (ls := []) ⟨rfl, rfl, rfl, v7, rfl, trivial, trivial⟩
  · replace c1 : a1 = 1 := c1
    show jGo E l 177 229 229 _ 57 [.inr (.inr (.inl 0)), .inl a1] [] 229 jr0 h
    refine jGo_blk qX11_told_57 ?_
    refine st_gr jo_0 jr_0_5 ?_
    refine st_gi jo_29 (fun v9 ev9 b10 => ?_)
    replace ev9 : v9 = h 29 4 := ev9
    replace b10 := (jbf_10_4 jo_29 _).1 b10
    exact st_r0 (ls := []) ⟨rfl, rfl, rfl, v9, rfl, trivial, trivial⟩
  · replace c1 : a1 = 2 := c1
    show jGo E l 177 229 229 _ 65 [.inr (.inr (.inl 0)), .inl a1] [] 229 jr0 h
    refine jGo_blk qX11_told_65 ?_
    refine st_gr jo_0 jr_0_5 ?_
    refine st_cv (na := 1) (st := [.inl 2, .inr (.inr (.inl 29))]) jo_29 rfl rfl rfl (c_X10_countOf_29 2 h) rfl ?_
    rintro _ _ _ ⟨rfl, rfl, t11, rfl, ht11, zt11⟩ kt11
    replace kt11 : -2147483648 ≤ t11 ∧ t11 ≤ 2147483647 := kt11
    replace zt11 : (t11 = jct (jcS h) (2 : Int) (h 29 4).toNat) ∧ 0 ≤ t11 ∧ t11 ≤ 16 := zt11
    exact st_r0 (ls := []) ⟨rfl, rfl, rfl, t11, rfl, trivial, trivial⟩
  · replace c1 : a1 = 3 := c1
    show jGo E l 177 229 229 _ 74 [.inr (.inr (.inl 0)), .inl a1] [] 229 jr0 h
    refine jGo_blk qX11_told_74 ?_
    refine st_gr jo_0 jr_0_6 ?_
    refine st_cv (na := 0) (st := [.inr (.inr (.inl 84))]) jo_84 rfl rfl rfl (c_X3_standing h) rfl ?_
    rintro _ _ _ ⟨rfl, rfl, t13, rfl, ht13, zt13⟩ kt13
    replace kt13 : -2147483648 ≤ t13 ∧ t13 ≤ 2147483647 := kt13
    exact st_r0 (ls := []) ⟨rfl, rfl, rfl, t13, rfl, trivial, trivial⟩
  · replace c1 : a1 = 4 := c1
    show jGo E l 177 229 229 _ 82 [.inr (.inr (.inl 0)), .inl a1] [] 229 jr0 h
    refine jGo_blk qX11_told_82 ?_
    refine st_gr jo_0 jr_0_5 ?_
    refine st_gi jo_29 (fun v15 ev15 b16 => ?_)
    replace ev15 : v15 = h 29 7 := ev15
    replace b16 := (jbf_10_7 jo_29 _).1 b16
    exact st_r0 (ls := []) ⟨rfl, rfl, rfl, v15, rfl, trivial, trivial⟩
  · replace c1 : a1 = 5 := c1
    show jGo E l 177 229 229 _ 90 [.inr (.inr (.inl 0)), .inl a1] [] 229 jr0 h
    refine jGo_blk qX11_told_90 ?_
    refine st_gr jo_0 jr_0_5 ?_
    refine st_gi jo_29 (fun v17 ev17 b18 => ?_)
    replace ev17 : v17 = h 29 8 := ev17
    replace b18 := (jbf_10_8 jo_29 _).1 b18
    exact st_r0 (ls := []) ⟨rfl, rfl, rfl, v17, rfl, trivial, trivial⟩
  · replace c1 : a1 = 6 := c1
    show jGo E l 177 229 229 _ 98 [.inr (.inr (.inl 0)), .inl a1] [] 229 jr0 h
    refine jGo_blk qX11_told_98 ?_
    refine st_gr jo_0 jr_0_5 ?_
    refine st_gi jo_29 (fun v19 ev19 b20 => ?_)
    replace ev19 : v19 = h 29 9 := ev19
    replace b20 := (jbf_10_9 jo_29 _).1 b20
    exact st_r0 (ls := []) ⟨rfl, rfl, rfl, v19, rfl, trivial, trivial⟩
  · replace c1 : a1 = 7 := c1
    show jGo E l 177 229 229 _ 106 [.inr (.inr (.inl 0)), .inl a1] [] 229 jr0 h
    refine jGo_blk qX11_told_106 ?_
    refine st_gr jo_0 jr_0_3 ?_
    refine st_gi jo_11 (fun v21 ev21 b22 => ?_)
    replace ev21 : v21 = h 11 0 := ev21
    replace b22 := (jbf_2_0 jo_11 _).1 b22
    exact st_r0 (ls := []) ⟨rfl, rfl, rfl, v21, rfl, trivial, trivial⟩
  · replace c1 : a1 = 8 := c1
    show jGo E l 177 229 229 _ 114 [.inr (.inr (.inl 0)), .inl a1] [] 229 jr0 h
    refine jGo_blk qX11_told_114 ?_
    refine st_gr jo_0 jr_0_9 ?_
    refine st_gi jo_101 (fun v23 ev23 b24 => ?_)
    replace ev23 : v23 = h 101 0 := ev23
    replace b24 := (jbf_5_0 jo_101 _).1 b24
    exact st_r0 (ls := []) ⟨rfl, rfl, rfl, v23, rfl, trivial, trivial⟩

def k_X12_told (a1 : Int) (h : JH) (v : Option JV) (r' g : JH) : Prop := r' = jr0 ∧ h = g ∧ ∃ x : Int, v = some (.inl x) ∧ (True) ∧ (True)
set_option maxHeartbeats 4000000 in
theorem c_X12_told {E : JE} {l : Launch} (a1 : Int) (h : JH) : jMt E l 178 [.inr (.inr (.inl 176)), .inl a1] 229 jr0 h (k_X12_told a1 h) := by
  refine jMt0 (nL := 4) (ls := [.inr (.inr (.inl 176)), .inl a1, .inr (.inr (.inr ())), .inr (.inr (.inr ()))]) (by decide +kernel) (by decide +kernel) (by decide +kernel) rfl rfl ?_
  have key : ∀ N : Nat, (∀ (x2 : Int) (x3 : Int), (2 ≤ a1 ∧ a1 ≤ 2 ∧ 0 ≤ x3 ∧ x3 ≤ 16) → (16 - x3) + 20000 < (N : Int) → jGo E l 178 229 229 (jRK (k_X12_told a1 h)) 64 [.inr (.inr (.inl 176)), .inl a1, .inl x2, .inl x3] [] 229 jr0 h) ∧
      (∀ (x2 : Int) (x3 : Int), (3 ≤ a1 ∧ a1 ≤ 3 ∧ 0 ≤ x3 ∧ x3 ≤ 40) → (40 - x3) < (N : Int) → jGo E l 178 229 229 (jRK (k_X12_told a1 h)) 100 [.inr (.inr (.inl 176)), .inl a1, .inl x2, .inl x3] [] 229 jr0 h) := by
    intro N
    induction N with
    | zero => exact ⟨fun _ _ hi hN => absurd hN (by omega), fun _ _ hi hN => absurd hN (by omega)⟩
    | succ N ih =>
      refine ⟨?_, ?_⟩
      · intro x2 x3 hi hN
        refine jGo_ok (fun hls _ => ?_)
        have rx2 : -2147483648 ≤ x2 ∧ x2 ≤ 2147483647 := hls (.inl x2) (by simp)
        refine jGo_blk qX12_told_64 ?_
        refine st_gi jo_176 (fun v1 ev1 b2 => ?_)
        replace ev1 : v1 = h 176 14 := ev1
        replace b2 := (jbf_12_14 jo_176 _).1 b2
        refine And.intro (fun c3 => ?_) (fun c3 => ?_)
        · replace c3 : v1 ≤ x3 := c3
          show jGo E l 178 229 229 _ 96 [.inr (.inr (.inl 176)), .inl a1, .inl x2, .inl x3] [] 229 jr0 h
          refine jGo_blk qX12_told_96 ?_
          exact st_r0 (ls := []) ⟨rfl, rfl, rfl, x2, rfl, trivial, trivial⟩
        · replace c3 : x3 < v1 := by first | exact c3 | exact Int.not_le.mp c3 | exact Int.not_lt.mp c3 | exact Decidable.not_not.mp c3
          refine st_gr jo_176 jr_176_18 ?_
          refine st_ai jo_192 (show 0 ≤ x3 by omega) (show x3 < ((16 : Nat) : Int) by omega) (fun v4 ev4 b5 => ?_)
          replace ev4 : v4 = h 192 x3 := ev4
          replace b5 := (jba_192 x3 _).1 b5
          refine And.intro (fun c6 => ?_) (fun c6 => ?_)
          · replace c6 : ¬ v4 = 2 := c6
            show jGo E l 178 229 229 _ 87 [.inr (.inr (.inl 176)), .inl a1, .inl x2, .inl x3] [.inl x2] 229 jr0 h
            refine jGo_blk qX12_told_87 ?_
            show jGo E l 178 229 229 _ 88 [.inr (.inr (.inl 176)), .inl a1, .inl x2, .inl x3] [.inl 0, .inl x2] 229 jr0 h
            refine jGo_blk qX12_told_88 ?_
            have e7 : jw32 (x3 + 1) = x3 + 1 := jzj32 (by omega)
            show jGo E l 178 229 229 _ 64 [.inr (.inr (.inl 176)), .inl a1, .inl (jw32 (x2 + 0)), .inl (jw32 (x3 + 1))] [] 229 jr0 h
            exact ih.1 (jw32 (x2 + 0)) (jw32 (x3 + 1)) (by omega) (by omega)
          · replace c6 : v4 = 2 := by first | exact c6 | exact Int.not_le.mp c6 | exact Int.not_lt.mp c6 | exact Decidable.not_not.mp c6
            show jGo E l 178 229 229 _ 88 [.inr (.inr (.inl 176)), .inl a1, .inl x2, .inl x3] [.inl 1, .inl x2] 229 jr0 h
            refine jGo_blk qX12_told_88 ?_
            have e8 : jw32 (x3 + 1) = x3 + 1 := jzj32 (by omega)
            show jGo E l 178 229 229 _ 64 [.inr (.inr (.inl 176)), .inl a1, .inl (jw32 (x2 + 1)), .inl (jw32 (x3 + 1))] [] 229 jr0 h
            exact ih.1 (jw32 (x2 + 1)) (jw32 (x3 + 1)) (by omega) (by omega)
      · intro x2 x3 hi hN
        refine jGo_ok (fun hls _ => ?_)
        have rx2 : -2147483648 ≤ x2 ∧ x2 ≤ 2147483647 := hls (.inl x2) (by simp)
        refine jGo_blk qX12_told_100 ?_
        refine st_gi jo_176 (fun v9 ev9 b10 => ?_)
        replace ev9 : v9 = h 176 34 := ev9
        replace b10 := (jbf_12_34 jo_176 _).1 b10
        refine And.intro (fun c11 => ?_) (fun c11 => ?_)
        · replace c11 : v9 ≤ x3 := c11
          show jGo E l 178 229 229 _ 131 [.inr (.inr (.inl 176)), .inl a1, .inl x2, .inl x3] [] 229 jr0 h
          refine jGo_blk qX12_told_131 ?_
          exact st_r0 (ls := []) ⟨rfl, rfl, rfl, x2, rfl, trivial, trivial⟩
        · replace c11 : x3 < v9 := by first | exact c11 | exact Int.not_le.mp c11 | exact Int.not_lt.mp c11 | exact Decidable.not_not.mp c11
          refine st_gr jo_176 jr_176_38 ?_
          refine st_ai jo_208 (show 0 ≤ x3 by omega) (show x3 < ((40 : Nat) : Int) by omega) (fun v12 ev12 b13 => ?_)
          replace ev12 : v12 = h 208 x3 := ev12
          replace b13 := (jba_208 x3 _).1 b13
          refine And.intro (fun c14 => ?_) (fun c14 => ?_)
          · replace c14 : 0 ≤ v12 := c14
            show jGo E l 178 229 229 _ 122 [.inr (.inr (.inl 176)), .inl a1, .inl x2, .inl x3] [.inl x2] 229 jr0 h
            refine jGo_blk qX12_told_122 ?_
            show jGo E l 178 229 229 _ 123 [.inr (.inr (.inl 176)), .inl a1, .inl x2, .inl x3] [.inl 0, .inl x2] 229 jr0 h
            refine jGo_blk qX12_told_123 ?_
            have e15 : jw32 (x3 + 1) = x3 + 1 := jzj32 (by omega)
            show jGo E l 178 229 229 _ 100 [.inr (.inr (.inl 176)), .inl a1, .inl (jw32 (x2 + 0)), .inl (jw32 (x3 + 1))] [] 229 jr0 h
            exact ih.2 (jw32 (x2 + 0)) (jw32 (x3 + 1)) (by omega) (by omega)
          · replace c14 : v12 < 0 := by first | exact c14 | exact Int.not_le.mp c14 | exact Int.not_lt.mp c14 | exact Decidable.not_not.mp c14
            show jGo E l 178 229 229 _ 123 [.inr (.inr (.inl 176)), .inl a1, .inl x2, .inl x3] [.inl 1, .inl x2] 229 jr0 h
            refine jGo_blk qX12_told_123 ?_
            have e16 : jw32 (x3 + 1) = x3 + 1 := jzj32 (by omega)
            show jGo E l 178 229 229 _ 100 [.inr (.inr (.inl 176)), .inl a1, .inl (jw32 (x2 + 1)), .inl (jw32 (x3 + 1))] [] 229 jr0 h
            exact ih.2 (jw32 (x2 + 1)) (jw32 (x3 + 1)) (by omega) (by omega)
  refine jGo_blk qX12_told_0 ?_
  refine And.intro (fun c17 => ?_) (And.intro (fun c17 => ?_) (And.intro (fun c17 => ?_) (And.intro (fun c17 => ?_) (And.intro (fun c17 => ?_) (And.intro (fun c17 => ?_) (And.intro (fun c17 => ?_) (And.intro (fun c17 => ?_) (And.intro (fun c17 => ?_) (And.intro (fun c17 => ?_) (trivial))))))))))
  · replace c17 : a1 < 0 ∨ 8 < a1 := c17
    show jGo E l 178 229 229 _ 158 [.inr (.inr (.inl 176)), .inl a1, .inl 0, .inr (.inr (.inr ()))] [] 229 jr0 h
    refine jGo_blk qX12_told_158 ?_
    refine st_cs (na := 3) (st := [.inl 17, .inl 11, .inl a1]) rfl rfl rfl (c_X12_in a1 11 17 h) rfl ?_
    rintro _ _ _ ⟨rfl, rfl, t18, rfl, ht18, zt18⟩ kt18
    replace kt18 : -2147483648 ≤ t18 ∧ t18 ≤ 2147483647 := kt18
    replace ht18 : 0 ≤ t18 ∧ t18 ≤ 1 := ht18
    replace zt18 : (t18 = 1 ∧ (11 : Int) ≤ a1 ∧ a1 ≤ (17 : Int)) ∨ (t18 = 0 ∧ ¬ ((11 : Int) ≤ a1 ∧ a1 ≤ (17 : Int))) := zt18
    refine And.intro (fun c20 => ?_) (fun c20 => ?_)
    · replace c20 : t18 = 0 := c20
      show jGo E l 178 229 229 _ 181 [.inr (.inr (.inl 176)), .inl a1, .inl 0, .inr (.inr (.inr ()))] [] 229 jr0 h
      refine jGo_blk qX12_told_181 ?_
      show jGo E l 178 229 229 _ 183 [.inr (.inr (.inl 176)), .inl a1, .inl 0, .inr (.inr (.inr ()))] [.inl (-9)] 229 jr0 h
      refine jGo_blk qX12_told_183 ?_
      exact st_r0 (ls := []) ⟨rfl, rfl, rfl, (-9), rfl, trivial, trivial⟩
    · replace c20 : ¬ t18 = 0 := by first | exact c20 | exact Int.not_le.mp c20 | exact Int.not_lt.mp c20 | exact Decidable.not_not.mp c20
      refine st_gr jo_176 jr_176_50 ?_
      have e21 : jw32 (a1 - 10) = a1 - 10 := jzj32 (by omega)
      refine st_ai jo_219 (show 0 ≤ jw32 (a1 - 10) by omega) (show jw32 (a1 - 10) < ((8 : Nat) : Int) by omega) (fun v22 ev22 b23 => ?_)
      replace ev22 : v22 = h 219 (jw32 (a1 - 10)) := ev22
      replace b23 := (jba_219 (jw32 (a1 - 10)) _).1 b23
      show jGo E l 178 229 229 _ 183 [.inr (.inr (.inl 176)), .inl a1, .inl 0, .inr (.inr (.inr ()))] [.inl v22] 229 jr0 h
      refine jGo_blk qX12_told_183 ?_
      exact st_r0 (ls := []) ⟨rfl, rfl, rfl, v22, rfl, trivial, trivial⟩
  · replace c17 : a1 = 0 := c17
    show jGo E l 178 229 229 _ 52 [.inr (.inr (.inl 176)), .inl a1, .inl 0, .inr (.inr (.inr ()))] [] 229 jr0 h
    refine jGo_blk qX12_told_52 ?_
    refine st_gi jo_176 (fun v24 ev24 b25 => ?_)
    replace ev24 : v24 = h 176 0 := ev24
    replace b25 := (jbf_12_0 jo_176 _).1 b25
    exact st_r0 (ls := []) ⟨rfl, rfl, rfl, v24, rfl, trivial, trivial⟩
  · replace c17 : a1 = 1 := c17
    show jGo E l 178 229 229 _ 57 [.inr (.inr (.inl 176)), .inl a1, .inl 0, .inr (.inr (.inr ()))] [] 229 jr0 h
    refine jGo_blk qX12_told_57 ?_
    refine st_gi jo_176 (fun v26 ev26 b27 => ?_)
    replace ev26 : v26 = h 176 14 := ev26
    replace b27 := (jbf_12_14 jo_176 _).1 b27
    exact st_r0 (ls := []) ⟨rfl, rfl, rfl, v26, rfl, trivial, trivial⟩
  · replace c17 : a1 = 2 := c17
    show jGo E l 178 229 229 _ 62 [.inr (.inr (.inl 176)), .inl a1, .inl 0, .inr (.inr (.inr ()))] [] 229 jr0 h
    refine jGo_blk qX12_told_62 ?_
    show jGo E l 178 229 229 _ 64 [.inr (.inr (.inl 176)), .inl a1, .inl 0, .inl 0] [] 229 jr0 h
    exact (key 1000000000000).1 0 0 (by omega) (by omega)
  · replace c17 : a1 = 3 := c17
    show jGo E l 178 229 229 _ 98 [.inr (.inr (.inl 176)), .inl a1, .inl 0, .inr (.inr (.inr ()))] [] 229 jr0 h
    refine jGo_blk qX12_told_98 ?_
    show jGo E l 178 229 229 _ 100 [.inr (.inr (.inl 176)), .inl a1, .inl 0, .inl 0] [] 229 jr0 h
    exact (key 1000000000000).2 0 0 (by omega) (by omega)
  · replace c17 : a1 = 4 := c17
    show jGo E l 178 229 229 _ 133 [.inr (.inr (.inl 176)), .inl a1, .inl 0, .inr (.inr (.inr ()))] [] 229 jr0 h
    refine jGo_blk qX12_told_133 ?_
    refine st_gi jo_176 (fun v28 ev28 b29 => ?_)
    replace ev28 : v28 = h 176 30 := ev28
    replace b29 := (jbf_12_30 jo_176 _).1 b29
    exact st_r0 (ls := []) ⟨rfl, rfl, rfl, v28, rfl, trivial, trivial⟩
  · replace c17 : a1 = 5 := c17
    show jGo E l 178 229 229 _ 138 [.inr (.inr (.inl 176)), .inl a1, .inl 0, .inr (.inr (.inr ()))] [] 229 jr0 h
    refine jGo_blk qX12_told_138 ?_
    refine st_gi jo_176 (fun v30 ev30 b31 => ?_)
    replace ev30 : v30 = h 176 31 := ev30
    replace b31 := (jbf_12_31 jo_176 _).1 b31
    exact st_r0 (ls := []) ⟨rfl, rfl, rfl, v30, rfl, trivial, trivial⟩
  · replace c17 : a1 = 6 := c17
    show jGo E l 178 229 229 _ 143 [.inr (.inr (.inl 176)), .inl a1, .inl 0, .inr (.inr (.inr ()))] [] 229 jr0 h
    refine jGo_blk qX12_told_143 ?_
    refine st_gi jo_176 (fun v32 ev32 b33 => ?_)
    replace ev32 : v32 = h 176 32 := ev32
    replace b33 := (jbf_12_32 jo_176 _).1 b33
    exact st_r0 (ls := []) ⟨rfl, rfl, rfl, v32, rfl, trivial, trivial⟩
  · replace c17 : a1 = 7 := c17
    show jGo E l 178 229 229 _ 148 [.inr (.inr (.inl 176)), .inl a1, .inl 0, .inr (.inr (.inr ()))] [] 229 jr0 h
    refine jGo_blk qX12_told_148 ?_
    refine st_gi jo_176 (fun v34 ev34 b35 => ?_)
    replace ev34 : v34 = h 176 6 := ev34
    replace b35 := (jbf_12_6 jo_176 _).1 b35
    exact st_r0 (ls := []) ⟨rfl, rfl, rfl, v34, rfl, trivial, trivial⟩
  · replace c17 : a1 = 8 := c17
    show jGo E l 178 229 229 _ 153 [.inr (.inr (.inl 176)), .inl a1, .inl 0, .inr (.inr (.inr ()))] [] 229 jr0 h
    refine jGo_blk qX12_told_153 ?_
    refine st_gi jo_176 (fun v36 ev36 b37 => ?_)
    replace ev36 : v36 = h 176 45 := ev36
    replace b37 := (jbf_12_45 jo_176 _).1 b37
    exact st_r0 (ls := []) ⟨rfl, rfl, rfl, v36, rfl, trivial, trivial⟩
