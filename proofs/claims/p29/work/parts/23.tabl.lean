/-! ===== ROWS: fields and arrays ===== -/
def jty (ci : Nat) : Nat → FieldType := match ci with
  | 0 => tyX0 | 1 => tyX1 | 2 => tyX2 | 3 => tyX3 | 4 => tyX4 | 5 => tyX5 | 6 => tyX6 | 7 => tyX7 | 8 => tyX8 | 9 => tyX9 | 10 => tyX10 | 11 => tyX11 | _ => tyX12
/-- class tables, decided -/
def jzUc (ci : Nat) (q : vw_C) : Bool := ((List.range q.2.2).all (fun k => decide (lw_tbl[(jzUP.getD ci []).getD k 0]? = some (u_lay q.1 q.2.1 k)) && goodWord (u_lay q.1 q.2.1 k)))
theorem jUW0 : ∀ ci, ci < 13 → jzUc ci (vwCl.getD ci ("", TX0, 0)) = true := by decide +kernel
theorem jUW {ci : Nat} {q : vw_C} (h : vwCl[ci]? = some q) : ∀ w ∈ u_ws q.1 q.2.1 q.2.2, w ∈ jG := fun w hw => by
  obtain ⟨k, hk, rfl⟩ := List.mem_map.mp hw
  have h0 : ci < 13 := (List.getElem?_eq_some_iff.mp h).1
  have h1 := jUW0 ci h0
  rw [show vwCl.getD ci ("", TX0, 0) = q by rw [List.getD_eq_getElem?_getD, h]; rfl] at h1
  have h2 := List.all_eq_true.mp h1 k hk
  simp only [Bool.and_eq_true, decide_eq_true_eq] at h2
  exact List.mem_filter.mpr ⟨List.mem_of_getElem? h2.1, h2.2⟩
theorem jTY0 : ∀ ci, ci < 13 → ∀ k, k < (vwCl.getD ci ("", TX0, 0)).2.2 → parseFieldDescriptor ((vwCl.getD ci ("", TX0, 0)).2.1 k).2.2.1 = some (jty ci k) ∧ (((jFT.getD ci []).getD k 0 = 1 ∧ jty ci k = .int) ∨ ((jFT.getD ci []).getD k 0 = 3 ∧ jty ci k = .boolean ∧ (jbF.getD ci []).getD k (-2147483648, 2147483647, 0) = (0, 1, 0)) ∨ ((jFT.getD ci []).getD k 0 = 4 ∧ (jty ci k).isReference = true)) := by decide +kernel
def jzsn (s : String) : Nat := s.toByteArray.data.toList.foldl (fun a x => a * 256 + x.toNat) 1
theorem jzNM1 : ∀ ci, ci < 13 → ∀ a, a < (vwCl.getD ci ("", TX0, 0)).2.2 → ∀ b, b < (vwCl.getD ci ("", TX0, 0)).2.2 → a ≠ b → jzsn ((vwCl.getD ci ("", TX0, 0)).2.1 a).2.1 ≠ jzsn ((vwCl.getD ci ("", TX0, 0)).2.1 b).2.1 := by decide +kernel
theorem jNM0 : ∀ ci, ci < 13 → ∀ a, a < (vwCl.getD ci ("", TX0, 0)).2.2 → ∀ b, b < (vwCl.getD ci ("", TX0, 0)).2.2 → a ≠ b → ((vwCl.getD ci ("", TX0, 0)).2.1 a).2.1 ≠ ((vwCl.getD ci ("", TX0, 0)).2.1 b).2.1 := fun ci h a ha b hb n e => jzNM1 ci h a ha b hb n (congrArg jzsn e)
theorem jci {ci : Nat} {q : vw_C} (h : vwCl[ci]? = some q) : ci < 13 ∧ vwCl.getD ci ("", TX0, 0) = q := ⟨(List.getElem?_eq_some_iff.mp h).1, by rw [List.getD_eq_getElem?_getD, h]; rfl⟩
theorem jTY {ci : Nat} {q : vw_C} (h : vwCl[ci]? = some q) {k : Nat} (hk : k < q.2.2) : parseFieldDescriptor (q.2.1 k).2.2.1 = some (jty ci k) ∧ (((jFT.getD ci []).getD k 0 = 1 ∧ jty ci k = .int) ∨ ((jFT.getD ci []).getD k 0 = 3 ∧ jty ci k = .boolean ∧ (jbF.getD ci []).getD k (-2147483648, 2147483647, 0) = (0, 1, 0)) ∨ ((jFT.getD ci []).getD k 0 = 4 ∧ (jty ci k).isReference = true)) := by
  obtain ⟨h1, h2⟩ := jci h
  have := jTY0 ci h1 k (by rw [h2]; exact hk)
  rw [h2] at this
  exact this
theorem jNM {ci : Nat} {q : vw_C} (h : vwCl[ci]? = some q) : ∀ a, a < q.2.2 → ∀ b, b < q.2.2 → a ≠ b → (q.2.1 a).2.1 ≠ (q.2.1 b).2.1 := by
  obtain ⟨h1, h2⟩ := jci h
  have := jNM0 ci h1
  rw [h2] at this
  exact this
theorem jk_nat {i : Int} (h : 0 ≤ i) : jk ((i.toNat : Nat) : Int) = jk i := by rw [Int.toNat_of_nonneg h]
theorem jtv_ref {E : JE} {i : Int} (h : 0 ≤ i) : jtv E (.inr (.inr (.inl i))) = .ref (jb0 E + i.toNat) := by
  have h1 : i ≠ -1 := by omega
  simp [jtv, jad, h, h1]
theorem jtv_ext {E : JE} {i : Int} (h : i < -1) : jtv E (.inr (.inr (.inl i))) = .ref (E.2.2.2.1 i) := by
  have h1 : i ≠ -1 := by omega
  have h2 : ¬ 0 ≤ i := by omega
  simp [jtv, jad, h1, h2]
theorem jHp_obj {E : JE} {n : Nat} {r h : JH} {H : Heap} (hH : jHp E n r h H) {i : Int} {ci : Nat} (h0 : 0 ≤ i) (h1 : i < n) (hk : jk i = (0, ci)) : ∃ q : vw_C, vwCl[ci]? = some q ∧ t_OB (jb0 E + i.toNat) (E.1.1 ci) q.2.2 (E.1.2 ci) H (fun k => jsv E ((jFT.getD ci []).getD k 0) (h i k) (r i k)) := by
  have h2 := (hH.2.2.1 i.toNat (by omega)).1
  rw [Int.toNat_of_nonneg h0, hk] at h2
  exact h2 rfl
theorem jHp_arr {E : JE} {n : Nat} {r h : JH} {H : Heap} (hH : jHp E n r h H) {i : Int} (h0 : 0 ≤ i) (h1 : i < n) (hk : (jk i).1 ≠ 0) : H[jb0 E + i.toNat]? = some (arrV (E.2.1 (jk i).1) (jk i).2 (fun j => jsv E (jk i).1 (h i j) (r i j))) := by
  have h2 := (hH.2.2.1 i.toNat (by omega)).2
  rw [Int.toNat_of_nonneg h0] at h2
  exact h2 hk
/-- a cell changed -/
theorem jHp_put {E : JE} {n : Nat} {r r' h h' : JH} {H H' : Heap} (hH : jHp E n r h H) {i : Nat} (hi : i < n) (hz : H'.size = H.size) (hq : ∀ q, q ≠ jb0 E + i → H'[q]? = H[q]?) (ho : jO E r' h' H' i) (hr : ∀ (j : Nat) (k : Int), j ≠ i → r' j k = r j k) (hh : ∀ (j : Nat) (k : Int), j ≠ i → h' j k = h j k) (hb : ∀ a b : Int, jbd a b (h' a b)) : jHp E n r' h' H' := by
  refine ⟨hz.trans hH.1, fun q hq' => (hq q (by omega)).trans (hH.2.1 q hq'), fun j hj => ?_, hb⟩
  by_cases e : j = i
  · subst e; exact ho
  · have h1 := hH.2.2.1 j hj
    have hq1 := hq (jb0 E + j) (by omega)
    have er : (fun k : Nat => r' j k) = fun k : Nat => r j k := funext fun k => hr j k e
    have eh : (fun k : Nat => h' j k) = fun k : Nat => h j k := funext fun k => hh j k e
    refine ⟨fun hk => ?_, fun hk => ?_⟩
    · obtain ⟨q, h2, h3⟩ := h1.1 hk
      refine ⟨q, h2, ?_⟩
      have h4 := h3.kept hq1
      exact h4.to (fun k hk => by rw [hr j k e, hh j k e])
    · rw [hq1, h1.2 hk]
      congr 2
      funext k
      rw [hr j k e, hh j k e]
theorem jup_bd {h : JH} (hb : ∀ a b : Int, jbd a b (h a b)) {i k x : Int} (hx : jbd i k x) : ∀ a b : Int, jbd a b (jup h i k x a b) := by
  intro a b
  unfold jup
  by_cases e : a = i ∧ b = k
  · rw [if_pos e, e.1, e.2]; exact hx
  · rw [if_neg e]; exact hb a b
theorem jup_ne {h : JH} {i k x : Int} {a b : Int} (e : ¬ (a = i ∧ b = k)) : jup h i k x a b = h a b := if_neg e
theorem jup_eq {h : JH} {i k x : Int} : jup h i k x i k = x := if_pos ⟨rfl, rfl⟩
theorem jbA_len : jbA.length = 229 := by decide +kernel
theorem jLY_len : jLY.length = 229 := by decide +kernel
theorem jbd_int {i k v : Int} (hk : (jk i).1 ≠ 2) (h : jbd i k v) : jR32 v := by
  have t1 : ∀ q ∈ jbF.flatten, -2147483648 ≤ q.1 ∧ q.2.1 ≤ 2147483647 ∧ -2147483648 ≤ q.2.2 ∧ q.2.2 ≤ 2147483647 := by decide +kernel
  have t2 : ∀ i, i < 229 → (jLY.getD i (9, 0)).1 ≠ 2 → -2147483648 ≤ (jbA.getD i (-2147483648, 2147483647, 0)).1 ∧ (jbA.getD i (-2147483648, 2147483647, 0)).2.1 ≤ 2147483647 ∧ -2147483648 ≤ (jbA.getD i (-2147483648, 2147483647, 0)).2.2 ∧ (jbA.getD i (-2147483648, 2147483647, 0)).2.2 ≤ 2147483647 := by decide +kernel
  have key : -2147483648 ≤ (jbp i k).1 ∧ (jbp i k).2.1 ≤ 2147483647 ∧ -2147483648 ≤ (jbp i k).2.2 ∧ (jbp i k).2.2 ≤ 2147483647 := by
    unfold jbp
    split
    · rename_i ci _
      rw [List.getD_eq_getElem?_getD]
      cases hq : (jbF.getD ci [])[k.toNat]? with
      | none => exact ⟨by decide, by decide, by decide, by decide⟩
      | some q =>
        refine t1 q (List.mem_flatten.mpr ⟨jbF.getD ci [], ?_, List.mem_of_getElem? hq⟩)
        rw [List.getD_eq_getElem?_getD]
        cases hc : jbF[ci]? with
        | none => rw [List.getD_eq_getElem?_getD, hc] at hq; simp at hq
        | some z => exact List.mem_of_getElem? hc
    · by_cases h224 : i = 224
      · rw [if_pos h224]
        unfold jbK
        repeat' split
        all_goals exact ⟨by decide, by decide, by decide, by decide⟩
      rw [if_neg h224]
      by_cases hi : i.toNat < 229
      · exact t2 i.toNat hi hk
      · have e : jbA.getD i.toNat (-2147483648, 2147483647, 0) = (-2147483648, 2147483647, 0) := by
          rw [List.getD_eq_getElem?_getD, List.getElem?_eq_none (by rw [jbA_len]; omega)]
          rfl
        rw [e]
        exact ⟨by decide, by decide, by decide, by decide⟩
  unfold jbd at h
  unfold jR32
  omega
theorem jbd_long {i k v : Int} (hk : (jk i).1 = 2) (h : jbd i k v) : jR64 v := by
  have t2 : ∀ i, i < 229 → (jLY.getD i (9, 0)).1 = 2 → jbA.getD i (-2147483648, 2147483647, 0) = (-9223372036854775808, 9223372036854775807, 0) := by decide +kernel
  have hi : i.toNat < 229 := by
    rcases Nat.lt_or_ge i.toNat 229 with q | q
    · exact q
    · have : jk i = (9, 0) := by
        unfold jk
        rw [List.getD_eq_getElem?_getD, List.getElem?_eq_none (by rw [jLY_len]; omega)]
        rfl
      rw [this] at hk
      cases hk
  have e : jbp i k = (-9223372036854775808, 9223372036854775807, 0) := by
    unfold jbp
    split
    · rename_i ci hc
      rw [hc] at hk
      cases hk
    · by_cases h224 : i = 224
      · subst h224
        exact absurd hk (by decide +kernel)
      · rw [if_neg h224]
        exact t2 i.toNat hi hk
  unfold jbd at h
  rw [e] at h
  dsimp only at h
  unfold jR64
  omega
theorem jbd_bool {i k v : Int} {ci : Nat} (hk : jk i = (0, ci)) (hb : (jbF.getD ci []).getD k.toNat (-2147483648, 2147483647, 0) = (0, 1, 0)) (h : jbd i k v) : v = 0 ∨ v = 1 := by
  have e : jbp i k = (0, 1, 0) := by
    unfold jbp
    rw [hk]
    exact hb
  unfold jbd at h
  rw [e] at h
  dsimp only at h
  omega
theorem jbd_zarr {i k v : Int} (hk : (jk i).1 = 3) (h : jbd i k v) : v = 0 ∨ v = 1 := by
  have t2 : ∀ i, i < 229 → (jLY.getD i (9, 0)).1 = 3 → jbA.getD i (-2147483648, 2147483647, 0) = (0, 1, 0) := by decide +kernel
  have hi : i.toNat < 229 := by
    rcases Nat.lt_or_ge i.toNat 229 with q | q
    · exact q
    · have : jk i = (9, 0) := by
        unfold jk
        rw [List.getD_eq_getElem?_getD, List.getElem?_eq_none (by rw [jLY_len]; omega)]
        rfl
      rw [this] at hk
      cases hk
  have e : jbp i k = (0, 1, 0) := by
    unfold jbp
    split
    · rename_i ci hc
      rw [hc] at hk
      cases hk
    · by_cases h224 : i = 224
      · subst h224
        exact absurd hk (by decide +kernel)
      · rw [if_neg h224]
        exact t2 i.toNat hi hk
  unfold jbd at h
  rw [e] at h
  dsimp only at h
  omega
