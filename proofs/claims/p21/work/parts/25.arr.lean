/-! ===== ROWS: arrays, static rows, the script ===== -/
section jarr
variable {E : JE} {p : Program} {l : Launch} {e : Env} {R : Room} {s : State} {m : MethodId} {args : Array Value} {below : List Frame} {meth : Method} {c : Code} {Q : State → Prop} {mm n0 n1 : Nat} {pc : Nat} {ls st : List JV} {n : Nat} {r h : JH}
theorem jao1 (C : jAt E p R s m args meth c mm n0 n1) (N : Nat) (z : Nat → Value) : s.isArrayOf (arrV (E.2.1 1) N z) .int := (C.2.2.2.2.2.1.1.2 0 _ rfl).1 N z
theorem jao2 (C : jAt E p R s m args meth c mm n0 n1) (N : Nat) (z : Nat → Value) : s.isArrayOf (arrV (E.2.1 2) N z) .long := (C.2.2.2.2.2.1.1.2 1 _ rfl).1 N z
theorem jao3 (C : jAt E p R s m args meth c mm n0 n1) (N : Nat) (z : Nat → Value) : s.isArrayOf (arrV (E.2.1 3) N z) .boolean := (C.2.2.2.2.2.1.1.2 2 _ rfl).1 N z
theorem jao4 (C : jAt E p R s m args meth c mm n0 n1) (N : Nat) (z : Nat → Value) : s.isArrayOf (arrV (E.2.1 4) N z) (.object "ArsenalRow$Hull") := (C.2.2.2.2.2.1.1.2 3 _ rfl).1 N z
theorem jao5 (C : jAt E p R s m args meth c mm n0 n1) (N : Nat) (z : Nat → Value) : s.isArrayOf (arrV (E.2.1 5) N z) (.array .int) := (C.2.2.2.2.2.1.1.2 4 _ rfl).1 N z
theorem jin {k : Int} {N : Nat} (h0 : 0 ≤ k) (hr : jR32 k) (h1 : k < N) (cA : ClassId) (z : Nat → Value) : ¬ (Int32.ofInt k < 0 ∨ (arrV cA N z).slots.size ≤ (Int32.ofInt k).toNatClampNeg) := by
  rw [arrV_size, jclamp h0 hr]
  rintro (q | q)
  · have := (jlt32 (y := 0) hr ⟨by omega, by omega⟩).mp q
    omega
  · omega
theorem jrd {k : Int} {N : Nat} (h0 : 0 ≤ k) (hr : jR32 k) (h1 : k < N) (cA : ClassId) (z : Nat → Value) : (arrV cA N z).slots[(Int32.ofInt k).toNatClampNeg]? = some (z k.toNat) := by
  rw [jclamp h0 hr]
  exact arrV_read cA z (by omega)
theorem jT_at {ty : FieldType} {t N : Nat} {f : Nat → Value} {U : State} {H : Heap} (hH : jHp E n r h H) (hT : va_T ty t N f (jA E) U E.2.2.1) : ∃ cell : Cell, H[t]? = some cell ∧ U.isArrayOf cell ty ∧ cell.vm ≠ .unknown ∧ N ≤ cell.slots.size ∧ cell.slots.size.toInt32 = Int32.ofNat N ∧ ∀ j : Nat, j < N → cell.slots[j]? = some (f j) := by
  obtain ⟨cell, h1, h2, h3, h4, h5, h6, h7⟩ := hT
  exact ⟨cell, by rw [hH.2.1 t (by unfold jA at h7; omega)]; exact h1, h2, h3, h4, h5, h6⟩
theorem jX_at {b L : Nat} {xs : Nat → Int32} {U : State} {H : Heap} (hH : jHp E n r h H) (hX : va_X b L xs U E.2.2.1) : va_X b L xs U H := by
  obtain ⟨cell, h1, h2⟩ := hX
  exact ⟨cell, by rw [hH.2.1 b (Array.getElem?_eq_some_iff.mp h1).1]; exact h1, h2⟩
theorem jst_at {i : Int} (hi : i < -2) (hk : jxk i ≠ 0) : ∃ C n d t xs, jST[(-3 - i).toNat]? = some (C, n, d, t, xs) ∧ jxk i = t ∧ (∀ E, jxl E i = xs.length) ∧ (∀ E k, jxv E i k = xs.getD k.toNat 0) ∧ -3 - (((-3 - i).toNat : Nat) : Int) = i := by
  have h2 : ¬ i = -2 := by omega
  cases hs : jST[(-3 - i).toNat]? with
  | none => exact absurd (by simp [jxk, h2, List.getD_eq_getElem?_getD, hs]) hk
  | some q =>
    obtain ⟨C, n, d, t, xs⟩ := q
    exact ⟨C, n, d, t, xs, rfl, by simp [jxk, h2, List.getD_eq_getElem?_getD, hs], fun E => by simp [jxl, h2, List.getD_eq_getElem?_getD, hs], fun E k => by simp only [jxv, if_neg h2, List.getD_eq_getElem?_getD, hs]; rfl, by omega⟩
theorem jst_vals : ∀ q ∈ jST, (q.2.2.2.1 = 1 ∧ (∀ x ∈ q.2.2.2.2, -2147483648 ≤ x ∧ x ≤ 2147483647)) ∨ (q.2.2.2.1 = 2 ∧ (∀ x ∈ q.2.2.2.2, -9223372036854775808 ≤ x ∧ x ≤ 9223372036854775807)) := by decide +kernel
theorem jgetD_in {xs : List Int} {P : Int → Prop} (h : ∀ x ∈ xs, P x) (h0 : P 0) (j : Nat) : P (xs.getD j 0) := by
  rw [List.getD_eq_getElem?_getD]
  cases hj : xs[j]? with
  | none => exact h0
  | some x => exact h x (List.mem_of_getElem? hj)
/-- iaload -/
theorem js_iald (C : jAt E p R s m args meth c mm n0 n1) {i k : Int} (hd : decode (jM mm).2.1 pc = .ok (.iaload, 1)) (K : jald E 1 (jWj E p l e R s m args below meth c Q mm n0 n1 (pc + 1)) ls (.inl k :: .inr (.inr (.inl i)) :: st) n r h) : jWj E p l e R s m args below meth c Q mm n0 n1 pc ls (.inl k :: .inr (.inr (.inl i)) :: st) n r h := fun lsS H locs hS => by
  have hk0 : jR32 k := hS.2.2.2.1 _ List.mem_cons_self
  have hH := hS.2.2.2.2.1
  obtain ⟨K1, K2⟩ := K
  rcases Int.lt_or_le i 0 with hi | hi
  · obtain ⟨g1, g2, g3, g4, g5⟩ := K2 hi
    have hnx : jok (.inl (jxv E i k)) := by
      by_cases h2 : i = -2
      · subst h2; exact C.2.2.2.2.2.1.2.2.2.2.2.2.2.1 _
      · obtain ⟨CN, nn, d, t, xs, f1, f2, f3, f4, f5⟩ := jst_at (i := i) (by omega) (by omega)
        show jR32 _
        rw [f4]
        rcases jst_vals _ (List.mem_of_getElem? f1) with ⟨q1, q2⟩ | ⟨q1, q2⟩
        · exact jgetD_in q2 ⟨by decide, by decide⟩ _
        · have : t = 2 := q1
          omega
    have h2 := g5 lsS H locs (jS_st hS (jok2 hS.2.2.2.1 hnx))
    rw [List.map_cons, List.map_cons, jtv_ext (by omega)]
    by_cases h2i : i = -2
    · subst h2i
      obtain ⟨scr, x1, x2, x3, x4, x5⟩ := jX_at hH C.2.2.2.2.2.1.2.2.2.2.2.2.1
      have hl : jxl E (-2) = E.2.2.2.2.1 := by simp [jxl]
      have hlt : k.toNat < E.2.2.2.2.1 := by omega
      exact W.iald (v := jtv E (.inl (jxv E (-2) k))) C.1 C.2.1 x1 x2 x3 (by
        rw [x4, jclamp g3 hk0]
        rintro (q | q)
        · have := (jlt32 (y := 0) hk0 ⟨by omega, by omega⟩).mp q
          omega
        · omega) (by rw [jclamp g3 hk0, x5 _ hlt]; simp [jtv, jxv]) rfl rfl hd h2
    · obtain ⟨CN, nn, d, t, xs, f1, f2, f3, f4, f5⟩ := jst_at (i := i) (by omega) (by omega)
      have ht1 : t = 1 := by omega
      subst ht1
      obtain ⟨-, hT⟩ := C.2.2.2.2.2.1.2.2.2.2.2.1 _ _ _ _ _ _ f1
      rw [f5] at hT
      obtain ⟨cell, t1, t2, t3, t4, t5, t6⟩ := jT_at hH hT
      have hl := f3 E
      have hlt : k.toNat < xs.length := by omega
      exact W.iald (v := jtv E (.inl (jxv E i k))) C.1 C.2.1 t1 t2 t3 (by
        rw [jclamp g3 hk0]
        rintro (q | q)
        · have := (jlt32 (y := 0) hk0 ⟨by omega, by omega⟩).mp q
          omega
        · omega) (by rw [jclamp g3 hk0, t6 _ hlt, f4]; rfl) rfl rfl hd h2
  · obtain ⟨g1, g2, g3, g4, g5⟩ := K1 hi
    have hbd := hH.2.2.2 i k
    have h2 := g5 hbd lsS H locs (jS_st hS (jok2 hS.2.2.2.1 (jbd_int (by omega) hbd)))
    have ha := jHp_arr hH hi g1 (by omega)
    rw [g2] at ha
    rw [List.map_cons, List.map_cons, jtv_ref hi]
    exact W.iald (v := jtv E (.inl (h i k))) C.1 C.2.1 ha (jao1 C _ _) (fun q => by cases q) (jin g3 hk0 g4 _ _) (by rw [jrd g3 hk0 g4, Int.toNat_of_nonneg g3]; rfl) rfl rfl hd h2
/-- laload -/
theorem js_lald (C : jAt E p R s m args meth c mm n0 n1) {i k : Int} (hd : decode (jM mm).2.1 pc = .ok (.laload, 1)) (K : jald E 2 (jWj E p l e R s m args below meth c Q mm n0 n1 (pc + 1)) ls (.inl k :: .inr (.inr (.inl i)) :: st) n r h) : jWj E p l e R s m args below meth c Q mm n0 n1 pc ls (.inl k :: .inr (.inr (.inl i)) :: st) n r h := fun lsS H locs hS => by
  have hk0 : jR32 k := hS.2.2.2.1 _ List.mem_cons_self
  have hH := hS.2.2.2.2.1
  obtain ⟨K1, K2⟩ := K
  rcases Int.lt_or_le i 0 with hi | hi
  · obtain ⟨g1, g2, g3, g4, g5⟩ := K2 hi
    have h2i : i ≠ -2 := fun q => by subst q; simp [jxk] at g2
    obtain ⟨CN, nn, d, t, xs, f1, f2, f3, f4, f5⟩ := jst_at (i := i) (by omega) (by omega)
    have hnx : jok (.inr (.inl (jxv E i k))) := by
      show jR64 _
      rw [f4]
      rcases jst_vals _ (List.mem_of_getElem? f1) with ⟨q1, q2⟩ | ⟨q1, q2⟩
      · have : t = 1 := q1
        omega
      · exact jgetD_in q2 ⟨by decide, by decide⟩ _
    have h2 := g5 lsS H locs (jS_st hS (jok2 hS.2.2.2.1 hnx))
    rw [List.map_cons, List.map_cons, jtv_ext (by omega)]
    have ht1 : t = 2 := by omega
    subst ht1
    obtain ⟨-, hT⟩ := C.2.2.2.2.2.1.2.2.2.2.2.1 _ _ _ _ _ _ f1
    rw [f5] at hT
    obtain ⟨cell, t1, t2, t3, t4, t5, t6⟩ := jT_at hH hT
    have hl := f3 E
    have hlt : k.toNat < xs.length := by omega
    exact W.lald (v := jtv E (.inr (.inl (jxv E i k)))) C.1 C.2.1 t1 t2 t3 (by
        rw [jclamp g3 hk0]
        rintro (q | q)
        · have := (jlt32 (y := 0) hk0 ⟨by omega, by omega⟩).mp q
          omega
        · omega) (by rw [jclamp g3 hk0, t6 _ hlt, f4]; rfl) rfl rfl hd h2
  · obtain ⟨g1, g2, g3, g4, g5⟩ := K1 hi
    have hbd := hH.2.2.2 i k
    have h2 := g5 hbd lsS H locs (jS_st hS (jok2 hS.2.2.2.1 (jbd_long (by omega) hbd)))
    have ha := jHp_arr hH hi g1 (by omega)
    rw [g2] at ha
    rw [List.map_cons, List.map_cons, jtv_ref hi]
    exact W.lald (v := jtv E (.inr (.inl (h i k)))) C.1 C.2.1 ha (jao2 C _ _) (fun q => by cases q) (jin g3 hk0 g4 _ _) (by rw [jrd g3 hk0 g4, Int.toNat_of_nonneg g3]; rfl) rfl rfl hd h2
/-- baload of booleans -/
theorem js_bald (C : jAt E p R s m args meth c mm n0 n1) {i k : Int} (hd : decode (jM mm).2.1 pc = .ok (.baload, 1)) (K : jald E 3 (jWj E p l e R s m args below meth c Q mm n0 n1 (pc + 1)) ls (.inl k :: .inr (.inr (.inl i)) :: st) n r h) : jWj E p l e R s m args below meth c Q mm n0 n1 pc ls (.inl k :: .inr (.inr (.inl i)) :: st) n r h := fun lsS H locs hS => by
  have hk0 : jR32 k := hS.2.2.2.1 _ List.mem_cons_self
  have hH := hS.2.2.2.2.1
  obtain ⟨K1, K2⟩ := K
  rcases Int.lt_or_le i 0 with hi | hi
  · obtain ⟨g1, g2, g3, g4, g5⟩ := K2 hi
    have h2i : i ≠ -2 := fun q => by subst q; simp [jxk] at g2
    obtain ⟨CN, nn, d, t, xs, f1, f2, f3, f4, f5⟩ := jst_at (i := i) (by omega) (by omega)
    rcases jst_vals _ (List.mem_of_getElem? f1) with ⟨q1, q2⟩ | ⟨q1, q2⟩
    · have : t = 1 := q1
      omega
    · have : t = 2 := q1
      omega
  · obtain ⟨g1, g2, g3, g4, g5⟩ := K1 hi
    have hbd := hH.2.2.2 i k
    have h2 := g5 hbd lsS H locs (jS_st hS (jok2 hS.2.2.2.1 (jbd_int (by omega) hbd)))
    have ha := jHp_arr hH hi g1 (by omega)
    rw [g2] at ha
    rw [List.map_cons, List.map_cons, jtv_ref hi]
    exact W.zald (v := jtv E (.inl (h i k))) C.1 C.2.1 ha (jao3 C _ _) (fun q => by cases q) (jin g3 hk0 g4 _ _) (by rw [jrd g3 hk0 g4, Int.toNat_of_nonneg g3]; rfl) rfl rfl hd h2
/-- aaload -/
theorem js_aald (C : jAt E p R s m args meth c mm n0 n1) {i k : Int} (hd : decode (jM mm).2.1 pc = .ok (.aaload, 1)) (K : jalr (jWj E p l e R s m args below meth c Q mm n0 n1 (pc + 1)) ls (.inl k :: .inr (.inr (.inl i)) :: st) n r h) : jWj E p l e R s m args below meth c Q mm n0 n1 pc ls (.inl k :: .inr (.inr (.inl i)) :: st) n r h := fun lsS H locs hS => by
  have hk0 : jR32 k := hS.2.2.2.1 _ List.mem_cons_self
  have hH := hS.2.2.2.2.1
  obtain ⟨hi, g1, g2, g3, g4, g5⟩ := K
  have h2 := g5 lsS H locs (jS_st hS (jok2 hS.2.2.2.1 trivial))
  have ha := jHp_arr hH hi g1 (by omega)
  rw [List.map_cons, List.map_cons, jtv_ref hi]
  rcases g2 with g2 | g2
  · rw [g2] at ha
    exact W.aald (v := jtv E (.inr (.inr (.inl (r i k))))) C.1 C.2.1 ha (jao4 C _ _) rfl (fun q => by cases q) (jin g3 hk0 g4 _ _) (by rw [jrd g3 hk0 g4, Int.toNat_of_nonneg g3]; rfl) rfl rfl hd h2
  · rw [g2] at ha
    exact W.aald (v := jtv E (.inr (.inr (.inl (r i k))))) C.1 C.2.1 ha (jao5 C _ _) rfl (fun q => by cases q) (jin g3 hk0 g4 _ _) (by rw [jrd g3 hk0 g4, Int.toNat_of_nonneg g3]; rfl) rfl rfl hd h2
theorem jarr_up {E : JE} {h r : JH} {i k x : Int} {t N : Nat} {cA : ClassId} {v : Value} (h0 : 0 ≤ k) (hv : v = jsv E t x (r i k)) : (arrV cA N (fun j : Nat => jsv E t (h i j) (r i j))).setSlot k.toNat v = arrV cA N (fun j : Nat => jsv E t (jup h i k x i j) (r i j)) := by
  rw [arrV_store]
  congr 1
  funext j
  unfold updV
  by_cases ej : j = k.toNat
  · subst ej
    rw [if_pos rfl, Int.toNat_of_nonneg h0, jup_eq, hv]
  · rw [if_neg ej, jup_ne (fun q => ej (by omega))]
theorem jast_end (C : jAt E p R s m args meth c mm n0 n1) {i k x : Int} {H H' : Heap} (hH : jHp E n r h H) (h0 : 0 ≤ i) (h1 : i < n) (ht : (jk i).1 ≠ 0) (hk0 : 0 ≤ k) (hx : jbd i k x) {v : Value} (hv : v = jsv E (jk i).1 x (r i k)) (e1 : H'[jb0 E + i.toNat]? = some ((arrV (E.2.1 (jk i).1) (jk i).2 (fun j : Nat => jsv E (jk i).1 (h i j) (r i j))).setSlot k.toNat v)) (e2 : H'.size = H.size) (e3 : ∀ q, q ≠ jb0 E + i.toNat → H'[q]? = H[q]?) : jHp E n r (jup h i k x) H' :=
  jHp_put hH (i := i.toNat) (by omega) e2 e3 (jo_arr h0 ht (by rw [e1, jarr_up hk0 hv])) (fun _ _ _ => rfl) (fun j k hj => jup_ne (fun q => hj (by omega))) (jup_bd hH.2.2.2 hx)
theorem js_iast (C : jAt E p R s m args meth c mm n0 n1) {i k x : Int} (hd : decode (jM mm).2.1 pc = .ok (.iastore, 1)) (K : jast 1 (jWj E p l e R s m args below meth c Q mm n0 n1 (pc + 1)) ls (.inl x :: .inl k :: .inr (.inr (.inl i)) :: st) n r h) : jWj E p l e R s m args below meth c Q mm n0 n1 pc ls (.inl x :: .inl k :: .inr (.inr (.inl i)) :: st) n r h := fun lsS H locs hS => by
  have hk0 : jR32 k := hS.2.2.2.1 _ (List.mem_cons_of_mem _ List.mem_cons_self)
  have hH := hS.2.2.2.2.1
  obtain ⟨hi, g1, g2, g3, g4, g5, g6⟩ := K
  have g5 := g5 (hS.2.2.2.1 _ List.mem_cons_self)
  have ha := jHp_arr hH hi g1 (by omega)
  have hA := jao1 C (jk i).2 (fun j => jsv E (jk i).1 (h i j) (r i j))
  rw [← g2] at hA
  rw [List.map_cons, List.map_cons, List.map_cons, jtv_ref hi]
  refine W.iast (x := Int32.ofInt x) C.1 C.2.1 ha hA (fun q => by cases q) (jin g3 hk0 g4 _ _) rfl rfl hd fun H' e1 e2 e3 => ?_
  rw [jclamp g3 hk0] at e1 ⊢
  exact g6 lsS H' _ (jS_put hS (jokd (jokd (jokd hS.2.2.2.1))) (jast_end C hH hi g1 (by omega) g3 g5 (by rw [g2]; rfl) e1 e2 e3))
theorem js_bast (C : jAt E p R s m args meth c mm n0 n1) {i k x : Int} (hd : decode (jM mm).2.1 pc = .ok (.bastore, 1)) (K : jast 3 (jWj E p l e R s m args below meth c Q mm n0 n1 (pc + 1)) ls (.inl x :: .inl k :: .inr (.inr (.inl i)) :: st) n r h) : jWj E p l e R s m args below meth c Q mm n0 n1 pc ls (.inl x :: .inl k :: .inr (.inr (.inl i)) :: st) n r h := fun lsS H locs hS => by
  have hk0 : jR32 k := hS.2.2.2.1 _ (List.mem_cons_of_mem _ List.mem_cons_self)
  have hH := hS.2.2.2.2.1
  obtain ⟨hi, g1, g2, g3, g4, g5, g6⟩ := K
  have g5 := g5 (hS.2.2.2.1 _ List.mem_cons_self)
  have ha := jHp_arr hH hi g1 (by omega)
  have hA := jao3 C (jk i).2 (fun j => jsv E (jk i).1 (h i j) (r i j))
  rw [← g2] at hA
  have hnar : narrow .boolean (.int (Int32.ofInt x)) = .int (Int32.ofInt x) := by
    rcases jbd_zarr g2 g5 with rfl | rfl <;> decide
  rw [List.map_cons, List.map_cons, List.map_cons, jtv_ref hi]
  refine W.zast (x := Int32.ofInt x) C.1 C.2.1 ha hA (fun q => by cases q) (jin g3 hk0 g4 _ _) rfl rfl hd fun H' e1 e2 e3 => ?_
  rw [jclamp g3 hk0, hnar] at e1
  rw [jclamp g3 hk0]
  exact g6 lsS H' _ (jS_put hS (jokd (jokd (jokd hS.2.2.2.1))) (jast_end C hH hi g1 (by omega) g3 g5 (by rw [g2]; rfl) e1 e2 e3))
theorem js_last (C : jAt E p R s m args meth c mm n0 n1) {i k x : Int} (hd : decode (jM mm).2.1 pc = .ok (.lastore, 1)) (K : jasl (jWj E p l e R s m args below meth c Q mm n0 n1 (pc + 1)) ls (.inr (.inl x) :: .inl k :: .inr (.inr (.inl i)) :: st) n r h) : jWj E p l e R s m args below meth c Q mm n0 n1 pc ls (.inr (.inl x) :: .inl k :: .inr (.inr (.inl i)) :: st) n r h := fun lsS H locs hS => by
  have hk0 : jR32 k := hS.2.2.2.1 _ (List.mem_cons_of_mem _ List.mem_cons_self)
  have hH := hS.2.2.2.2.1
  obtain ⟨hi, g1, g2, g3, g4, g5, g6⟩ := K
  have g5 := g5 (hS.2.2.2.1 _ List.mem_cons_self)
  have ha := jHp_arr hH hi g1 (by omega)
  have hA := jao2 C (jk i).2 (fun j => jsv E (jk i).1 (h i j) (r i j))
  rw [← g2] at hA
  rw [List.map_cons, List.map_cons, List.map_cons, jtv_ref hi]
  refine W.last (x := Int64.ofInt x) C.1 C.2.1 ha hA (fun q => by cases q) (jin g3 hk0 g4 _ _) rfl rfl hd fun H' e1 e2 e3 => ?_
  rw [jclamp g3 hk0] at e1 ⊢
  exact g6 lsS H' _ (jS_put hS (jokd (jokd (jokd hS.2.2.2.1))) (jast_end C hH hi g1 (by omega) g3 g5 (by rw [g2]; rfl) e1 e2 e3))
theorem js_alen (C : jAt E p R s m args meth c mm n0 n1) {i : Int} (hd : decode (jM mm).2.1 pc = .ok (.arraylength, 1)) (K : jaln E (jWj E p l e R s m args below meth c Q mm n0 n1 (pc + 1)) ls (.inr (.inr (.inl i)) :: st) n r h) : jWj E p l e R s m args below meth c Q mm n0 n1 pc ls (.inr (.inr (.inl i)) :: st) n r h := fun lsS H locs hS => by
  have hH := hS.2.2.2.2.1
  obtain ⟨K1, K2⟩ := K
  rcases Int.lt_or_le i 0 with hi | hi
  · obtain ⟨g1, g2⟩ := K2 hi
    subst g1
    have hL := C.2.2.2.2.2.1.2.2.2.2.2.2.2.2
    have hl : jxl E (-2) = E.2.2.2.2.1 := by simp [jxl]
    have h2 := g2 lsS H locs (jS_st hS (jok1 hS.2.2.2.1 (show jR32 _ by rw [hl]; exact ⟨by omega, by omega⟩)))
    obtain ⟨scr, x1, x2, x3, x4, x5⟩ := jX_at hH C.2.2.2.2.2.1.2.2.2.2.2.2.1
    rw [List.map_cons, jtv_ext (by omega)]
    exact W.alen (n := Int32.ofInt ((jxl E (-2) : Nat) : Int)) C.1 C.2.1 x1 x2 (by rw [x4, hl, Int32.ofInt_eq_ofNat]) rfl rfl hd h2
  · obtain ⟨g1, g2, g3, g4⟩ := K1 hi
    have hlen : (jk i).2 ≤ 100000 := by
      have t : ∀ q ∈ jLY, q.2 ≤ 100000 := by decide +kernel
      unfold jk
      rw [List.getD_eq_getElem?_getD]
      cases hq : jLY[i.toNat]? with
      | none => exact Nat.zero_le _
      | some q => exact t q (List.mem_of_getElem? hq)
    have h2 := g4 lsS H locs (jS_st hS (jok1 hS.2.2.2.1 (show jR32 _ from ⟨by omega, by omega⟩)))
    have ha := jHp_arr hH hi g1 (by omega)
    rw [List.map_cons, jtv_ref hi]
    have hn : ∀ (cA : ClassId) (z : Nat → Value), (arrV cA (jk i).2 z).slots.size.toInt32 = Int32.ofInt (((jk i).2 : Nat) : Int) := fun cA z => by rw [arrV_size, Int32.ofInt_eq_ofNat]
    have hkk : (jk i).1 = 1 ∨ (jk i).1 = 2 ∨ (jk i).1 = 3 := by omega
    rcases hkk with g | g | g
    · have hA := jao1 C (jk i).2 (fun j => jsv E (jk i).1 (h i j) (r i j))
      rw [← g] at hA
      exact W.alen C.1 C.2.1 ha hA (hn _ _) rfl rfl hd h2
    · have hA := jao2 C (jk i).2 (fun j => jsv E (jk i).1 (h i j) (r i j))
      rw [← g] at hA
      exact W.alen C.1 C.2.1 ha hA (hn _ _) rfl rfl hd h2
    · have hA := jao3 C (jk i).2 (fun j => jsv E (jk i).1 (h i j) (r i j))
      rw [← g] at hA
      exact W.alen C.1 C.2.1 ha hA (hn _ _) rfl rfl hd h2
/-- getstatic of a static row -/
theorem js_gets (C : jAt E p R s m args meth c mm n0 n1) {b : Int} {idx pp t : Nat} {CN nn d : String} {tt : Nat} {xs : List Int} (hb : b ≤ -3) (hs : jST[(-3 - b).toNat]? = some (CN, nn, d, tt, xs)) (hw : if t = 0 then jcw pp (.fieldLink (jM mm).1.cls idx CN nn d) = true else (pp ∈ jNP ∧ lw_tbl[pp]? = some (.fieldLinkNest (jM mm).1.cls idx CN nn d "ArsenalRow")))
    (hd : decode (jM mm).2.1 pc = .ok (.getstatic idx, 3)) (k : jWj E p l e R s m args below meth c Q mm n0 n1 (pc + 3) ls (.inr (.inr (.inl b)) :: st) n r h) : jWj E p l e R s m args below meth c Q mm n0 n1 pc ls st n r h := fun lsS H locs hS => by
  have hH := hS.2.2.2.2.1
  have h2 := k lsS H locs (jS_st hS (jokc hS.2.2.2.1 trivial))
  rw [List.map_cons, jtv_ext (by omega)] at h2
  obtain ⟨hZ, -⟩ := C.2.2.2.2.2.1.2.2.2.2.2.1 _ _ _ _ _ _ hs
  rw [show -3 - (((-3 - b).toNat : Nat) : Int) = b by omega] at hZ
  obtain ⟨cf, kf, fi, f, a, cell, z1, z2, z3, z4, z5, z6, z7, z8⟩ := hZ
  have hcell : H[a]? = some cell := by rw [hH.2.1 a (Array.getElem?_eq_some_iff.mp z5).1]; exact z5
  by_cases ht : t = 0
  · rw [if_pos ht] at hw
    exact W.gets C.1 C.2.1 C.2.2.2.1 (C.2.2.2.2.1 _ (jG_of hw)) z1 z2 z3 z4 hcell (fun e => by rw [e] at z6; cases z6) z7 rfl hd h2
  · rw [if_neg ht] at hw
    have hnw := C.2.2.2.2.2.1.2.2.2.2.1 pp hw.1 _ _ _ _ _ _ hw.2
    exact va_WgetsN C.1 C.2.1 C.2.2.2.1 (va_Nw.use rfl hnw) z1 z2 z3 z4 hcell (fun e => by rw [e] at z6; cases z6) z7 rfl hd h2
end jarr
