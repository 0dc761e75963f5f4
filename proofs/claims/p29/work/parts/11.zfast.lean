/-! ===== THE FAST CHECK GIVES THE SLOW ONE ===== -/
theorem jztq_u {m p k i a : Nat} {b : Int} (h : jztq m p k i a b = true) : m < 180 ∧ ∃ P w, jztw k (jzMC.getD m 0) i a b = some w ∧ lw_tbl[P]? = some w ∧ P < 100000 ∧ (k ≤ 11 → goodWord w = true) ∧ (11 < k → P ∈ jNP) := by
  unfold jztq at h
  obtain ⟨hm, hp, e⟩ := of_decide_eq_true h
  have ok := jztok_all hp
  unfold jztok at ok
  rw [e] at ok
  replace ok : jztokw (jztk p).1 k (jztw k (jzMC.getD m 0) i a b) = true := ok
  refine ⟨hm, (jztk p).1, ?_⟩
  cases hw : jztw k (jzMC.getD m 0) i a b with
  | none => rw [hw] at ok; exact Bool.noConfusion ok
  | some w =>
    rw [hw] at ok
    simp only [jztokw, Bool.and_eq_true, decide_eq_true_eq] at ok
    obtain ⟨⟨o1, o2⟩, o3⟩ := ok
    refine ⟨w, rfl, o1, o3, fun q => ?_, fun q => ?_⟩
    · rw [if_pos q] at o2; exact o2
    · rw [if_neg (by omega)] at o2; exact of_decide_eq_true o2
theorem jzMC_ok {m : Nat} (h : m < 180) : jzCN.getD (jzMC.getD m 0) "" = (jM m).1.cls := jzMC_all m h
theorem jzt_c {m p k i a : Nat} {b : Int} {W : Cond} (h : jztq m p k i a b = true) (hk : k ≤ 11) (e : m < 180 → jztw k (jzMC.getD m 0) i a b = some W) : ∃ P, P < 100000 ∧ jcw P W = true := by
  obtain ⟨hm, P, w, e1, e2, e3, e4, e5⟩ := jztq_u h
  have e6 : w = W := Option.some.inj (e1.symm.trans (e hm))
  subst e6
  refine ⟨P, e3, ?_⟩
  unfold jcw
  rw [e2, decide_eq_true rfl, e4 hk]
  rfl
theorem jzt_n {m p k i a : Nat} {b : Int} {W : Cond} (h : jztq m p k i a b = true) (hk : 11 < k) (e : m < 180 → jztw k (jzMC.getD m 0) i a b = some W) : ∃ P, P < 100000 ∧ P ∈ jNP ∧ lw_tbl[P]? = some W := by
  obtain ⟨hm, P, w, e1, e2, e3, e4, e5⟩ := jztq_u h
  have e6 : w = W := Option.some.inj (e1.symm.trans (e hm))
  subst e6
  exact ⟨P, e3, e5 hk, e2⟩
theorem jzcallF_u {m a na c : Nat} (h : jzcallF m a na c = true) : a < 179 ∧ jcall m a na c = true := by
  unfold jzcallF at h
  obtain ⟨h1, h2, h3, h4, h5⟩ := of_decide_eq_true h
  refine ⟨h1, ?_⟩
  unfold jcall
  exact decide_eq_true ⟨h1, h2, h3, h4, by rw [jzNA_all a h1, h5]⟩
/-- a call by an ordinary word or by a nest mate's -/
theorem jzt_cn {m p i a : Nat} (h : jztq m p 8 i a 0 = true ∨ jztq m p 12 i a 0 = true) : ∃ P, (if P < 100000 then jcw P (.methodLink (jM m).1.cls i (jM a).1) else decide (P - 100000 ∈ jNP ∧ lw_tbl[P - 100000]? = some (.methodLinkNest (jM m).1.cls i (jM a).1 "ArsenalRow"))) = true := by
  rcases h with h | h
  · obtain ⟨P, h1, h2⟩ := jzt_c (W := .methodLink (jM m).1.cls i (jM a).1) h (by decide) (fun hm => by rw [← jzMC_ok hm]; rfl)
    exact ⟨P, by rw [if_pos h1]; exact h2⟩
  · obtain ⟨P, h1, h2, h3⟩ := jzt_n (W := .methodLinkNest (jM m).1.cls i (jM a).1 "ArsenalRow") h (by decide) (fun hm => by rw [← jzMC_ok hm]; rfl)
    refine ⟨P + 100000, ?_⟩
    rw [if_neg (by omega), Nat.add_sub_cancel]
    exact decide_eq_true ⟨h2, h3⟩
set_option maxHeartbeats 4000000 in
theorem jzchkF_i {m pc len a t u p : Nat} {b : Int} {ins : Instr} (h : jzchkF m pc (ins, len, a, b, t, u, p) = true) : ∃ P, jchkI m pc (ins, len, a, b, t, u, P) = true := by
  cases ins with
  | ldc i =>
    simp only [jzchkF, Bool.and_eq_true, decide_eq_true_eq] at h
    obtain ⟨P, _, hc⟩ := jzt_c (W := .constant (jM m).1.cls i (Int32.ofInt b)) h.1.2 (by decide) (fun hm => by rw [← jzMC_ok hm]; rfl)
    refine ⟨P, ?_⟩
    simp only [jchkI, Bool.and_eq_true, decide_eq_true_eq]
    exact ⟨⟨h.1.1, hc⟩, h.2⟩
  | ldc_w i =>
    simp only [jzchkF, Bool.and_eq_true, decide_eq_true_eq] at h
    obtain ⟨P, _, hc⟩ := jzt_c (W := .constant (jM m).1.cls i (Int32.ofInt b)) h.1.2 (by decide) (fun hm => by rw [← jzMC_ok hm]; rfl)
    refine ⟨P, ?_⟩
    simp only [jchkI, Bool.and_eq_true, decide_eq_true_eq]
    exact ⟨⟨h.1.1, hc⟩, h.2⟩
  | ldc2_w i =>
    simp only [jzchkF, Bool.and_eq_true, decide_eq_true_eq] at h
    obtain ⟨P, _, hc⟩ := jzt_c (W := .constantLong (jM m).1.cls i (Int64.ofInt b)) h.1.2 (by decide) (fun hm => by rw [← jzMC_ok hm]; rfl)
    refine ⟨P, ?_⟩
    simp only [jchkI, Bool.and_eq_true, decide_eq_true_eq]
    exact ⟨⟨h.1.1, hc⟩, h.2⟩
  | getfield i =>
    simp only [jzchkF, Bool.and_eq_true, decide_eq_true_eq] at h
    obtain ⟨h1, h2⟩ := h
    cases hc : vwCl[a]? with
    | none => rw [hc] at h2; cases h2
    | some w =>
      obtain ⟨CN, TT, N⟩ := w
      rw [hc] at h2
      simp only [Bool.and_eq_true, decide_eq_true_eq] at h2
      obtain ⟨P, _, hw⟩ := jzt_c (W := .fieldLink (jM m).1.cls i (TT b.toNat).1 (TT b.toNat).2.1 (TT b.toNat).2.2.1) h2.2 (by decide) (fun hm => by rw [← jzMC_ok hm]; simp only [jztw, hc])
      refine ⟨P, ?_⟩
      simp only [jchkI, Bool.and_eq_true, decide_eq_true_eq]
      refine ⟨h1, ?_⟩
      rw [hc]
      simp only [Bool.and_eq_true, decide_eq_true_eq]
      exact ⟨h2.1, hw⟩
  | putfield i =>
    simp only [jzchkF, Bool.and_eq_true, decide_eq_true_eq] at h
    obtain ⟨h1, h2⟩ := h
    cases hc : vwCl[a]? with
    | none => rw [hc] at h2; cases h2
    | some w =>
      obtain ⟨CN, TT, N⟩ := w
      rw [hc] at h2
      simp only [Bool.and_eq_true, decide_eq_true_eq] at h2
      obtain ⟨⟨h3, h4⟩, h5⟩ := h2
      obtain ⟨P, _, hw⟩ := jzt_c (W := .fieldLink (jM m).1.cls i (TT b.toNat).1 (TT b.toNat).2.1 (TT b.toNat).2.2.1) h4 (by decide) (fun hm => by rw [← jzMC_ok hm]; simp only [jztw, hc])
      refine ⟨P, ?_⟩
      simp only [jchkI, Bool.and_eq_true, decide_eq_true_eq]
      refine ⟨h1, ?_⟩
      rw [hc]
      simp only [Bool.and_eq_true, decide_eq_true_eq]
      exact ⟨⟨h3, hw⟩, h5⟩
  | getstatic i =>
    simp only [jzchkF, Bool.and_eq_true, decide_eq_true_eq] at h
    obtain ⟨h1, h2⟩ := h
    cases hc : jST[(-3 - b).toNat]? with
    | none => rw [hc] at h2; cases h2
    | some w =>
      obtain ⟨CN, nn, dd, tt, xs⟩ := w
      rw [hc] at h2
      simp only [Bool.and_eq_true, decide_eq_true_eq] at h2
      obtain ⟨h3, h4⟩ := h2
      by_cases ht : t = 0
      · rw [if_pos ht] at h4
        obtain ⟨P, _, hw⟩ := jzt_c (W := .fieldLink (jM m).1.cls i CN nn dd) h4 (by decide) (fun hm => by rw [← jzMC_ok hm]; simp only [jztw, hc])
        refine ⟨P, ?_⟩
        simp only [jchkI, Bool.and_eq_true, decide_eq_true_eq]
        refine ⟨h1, ?_⟩
        rw [hc]
        simp only [Bool.and_eq_true, decide_eq_true_eq]
        exact ⟨h3, by rw [if_pos ht]; exact hw⟩
      · rw [if_neg ht] at h4
        obtain ⟨P, _, hn, hw⟩ := jzt_n (W := .fieldLinkNest (jM m).1.cls i CN nn dd "ArsenalRow") h4 (by decide) (fun hm => by rw [← jzMC_ok hm]; simp only [jztw, hc])
        refine ⟨P, ?_⟩
        simp only [jchkI, Bool.and_eq_true, decide_eq_true_eq]
        refine ⟨h1, ?_⟩
        rw [hc]
        simp only [Bool.and_eq_true, decide_eq_true_eq]
        exact ⟨h3, by rw [if_neg ht]; exact decide_eq_true ⟨hn, hw⟩⟩
  | new i =>
    simp only [jzchkF, Bool.and_eq_true, decide_eq_true_eq] at h
    obtain ⟨h1, h2⟩ := h
    cases hc : vwCl[a]? with
    | none => rw [hc] at h2; cases h2
    | some w =>
      obtain ⟨CN, TT, N⟩ := w
      rw [hc] at h2
      obtain ⟨P, _, hw⟩ := jzt_c (W := .classLink (jM m).1.cls i CN) (k := 5) (p := p) (a := a) (b := 0) h2 (by decide) (fun hm => by rw [← jzMC_ok hm]; simp only [jztw, hc])
      refine ⟨P, ?_⟩
      simp only [jchkI, Bool.and_eq_true, decide_eq_true_eq]
      refine ⟨h1, ?_⟩
      rw [hc]
      exact hw
  | anewarray i =>
    simp only [jzchkF, Bool.and_eq_true, decide_eq_true_eq] at h
    obtain ⟨P, _, hw⟩ := jzt_c (W := .classLink (jM m).1.cls i "ArsenalRow$Hull") h.2 (by decide) (fun hm => by rw [← jzMC_ok hm]; rfl)
    refine ⟨P, ?_⟩
    simp only [jchkI, Bool.and_eq_true, decide_eq_true_eq]
    exact ⟨h.1, hw⟩
  | multianewarray i d =>
    simp only [jzchkF, Bool.and_eq_true, decide_eq_true_eq] at h
    obtain ⟨P, _, hw⟩ := jzt_c (W := .classLink (jM m).1.cls i "[[I") h.2 (by decide) (fun hm => by rw [← jzMC_ok hm]; rfl)
    refine ⟨P, ?_⟩
    simp only [jchkI, Bool.and_eq_true, decide_eq_true_eq]
    exact ⟨h.1, hw⟩
  | invokevirtual i =>
    simp only [jzchkF, Bool.and_eq_true, decide_eq_true_eq] at h
    obtain ⟨⟨⟨h1, h2, h3, h4, h5, h6⟩, h7⟩, h8⟩ := h
    obtain ⟨h9, h10⟩ := jzcallF_u h7
    obtain ⟨P, _, hw⟩ := jzt_c (W := .methodLink (jM m).1.cls i (jM a).1) h8 (by decide) (fun hm => by rw [← jzMC_ok hm]; rfl)
    refine ⟨P, ?_⟩
    simp only [jchkI, Bool.and_eq_true, decide_eq_true_eq]
    refine ⟨⟨⟨h1, h2, ?_, h5, h6⟩, h10⟩, hw⟩
    rw [jzCN_all u h3, ← h4, jzMC_ok (show a < 180 by omega)]
  | invokestatic i =>
    simp only [jzchkF, Bool.and_eq_true, decide_eq_true_eq] at h
    obtain ⟨h1, h2⟩ := h
    by_cases h9 : a = 999
    · rw [if_pos h9] at h2
      simp only [Bool.and_eq_true, decide_eq_true_eq] at h2
      obtain ⟨P, _, hw⟩ := jzt_c (W := .methodLink (jM m).1.cls i arraycopyName) h2.1 (by decide) (fun hm => by rw [← jzMC_ok hm]; rfl)
      refine ⟨P, ?_⟩
      simp only [jchkI, Bool.and_eq_true, decide_eq_true_eq]
      refine ⟨h1, ?_⟩
      rw [if_pos h9]
      simp only [Bool.and_eq_true, decide_eq_true_eq]
      exact ⟨hw, h2.2⟩
    · rw [if_neg h9] at h2
      by_cases h7 : a = 997
      · rw [if_pos h7] at h2
        simp only [Bool.and_eq_true, decide_eq_true_eq] at h2
        obtain ⟨P, _, hw⟩ := jzt_c (W := .methodLink (jM m).1.cls i (jmn b)) h2.1 (by decide) (fun hm => by rw [← jzMC_ok hm]; rfl)
        refine ⟨P, ?_⟩
        simp only [jchkI, Bool.and_eq_true, decide_eq_true_eq]
        refine ⟨h1, ?_⟩
        rw [if_neg h9, if_pos h7]
        simp only [Bool.and_eq_true, decide_eq_true_eq]
        exact ⟨hw, h2.2⟩
      · rw [if_neg h7] at h2
        simp only [Bool.and_eq_true, Bool.or_eq_true, decide_eq_true_eq] at h2
        obtain ⟨P, hw⟩ := jzt_cn h2.2
        refine ⟨P, ?_⟩
        simp only [jchkI, Bool.and_eq_true, decide_eq_true_eq]
        refine ⟨h1, ?_⟩
        rw [if_neg h9, if_neg h7]
        simp only [Bool.and_eq_true, decide_eq_true_eq]
        exact ⟨⟨h2.1.1, (jzcallF_u h2.1.2).2⟩, hw⟩
  | invokespecial i =>
    simp only [jzchkF, Bool.and_eq_true, decide_eq_true_eq] at h
    obtain ⟨h1, h2⟩ := h
    by_cases h9 : a = 998
    · rw [if_pos h9] at h2
      simp only [Bool.and_eq_true, decide_eq_true_eq] at h2
      obtain ⟨P, _, hw⟩ := jzt_c (W := .methodLink (jM m).1.cls i objectInit) h2.1 (by decide) (fun hm => by rw [← jzMC_ok hm]; rfl)
      refine ⟨P, ?_⟩
      simp only [jchkI, Bool.and_eq_true, decide_eq_true_eq]
      refine ⟨h1, ?_⟩
      rw [if_pos h9]
      simp only [Bool.and_eq_true, decide_eq_true_eq]
      exact ⟨hw, h2.2⟩
    · rw [if_neg h9] at h2
      simp only [Bool.and_eq_true, Bool.or_eq_true, decide_eq_true_eq] at h2
      obtain ⟨P, hw⟩ := jzt_cn h2.2
      refine ⟨P, ?_⟩
      simp only [jchkI, Bool.and_eq_true, decide_eq_true_eq]
      refine ⟨h1, ?_⟩
      rw [if_neg h9]
      simp only [Bool.and_eq_true, decide_eq_true_eq]
      exact ⟨⟨h2.1.1, (jzcallF_u h2.1.2).2⟩, hw⟩
  | _ => exact ⟨p, h⟩
