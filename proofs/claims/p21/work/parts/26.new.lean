/-! ===== ROWS: new cells, aastore, arraycopy ===== -/
theorem jbd0 (i k : Int) : jbd i k 0 := by
  have t1 : ∀ q ∈ jbF.flatten, (q.1 ≤ 0 ∧ 0 ≤ q.2.1) ∨ 0 = q.2.2 := by decide +kernel
  have t2 : ∀ q ∈ jbA, (q.1 ≤ 0 ∧ 0 ≤ q.2.1) ∨ 0 = q.2.2 := by decide +kernel
  show ((jbp i k).1 ≤ 0 ∧ 0 ≤ (jbp i k).2.1) ∨ 0 = (jbp i k).2.2
  unfold jbp
  split
  · rename_i ci _
    rw [List.getD_eq_getElem?_getD]
    cases hq : (jbF.getD ci [])[k.toNat]? with
    | none => exact Or.inl ⟨by decide, by decide⟩
    | some q =>
      refine t1 q (List.mem_flatten.mpr ⟨jbF.getD ci [], ?_, List.mem_of_getElem? hq⟩)
      rw [List.getD_eq_getElem?_getD]
      cases hc : jbF[ci]? with
      | none => rw [List.getD_eq_getElem?_getD, hc] at hq; simp at hq
      | some z => exact List.mem_of_getElem? hc
  · by_cases h224 : i = 224
    · rw [if_pos h224]
      unfold jbK
      repeat' split
      all_goals exact Or.inl ⟨by decide, by decide⟩
    rw [if_neg h224, List.getD_eq_getElem?_getD]
    cases hq : jbA[i.toNat]? with
    | none => exact Or.inl ⟨by decide, by decide⟩
    | some q => exact t2 q (List.mem_of_getElem? hq)
theorem jnw_bd {h : JH} (hb : ∀ a b : Int, jbd a b (h a b)) (n c : Nat) : ∀ a b : Int, jbd a b (jnw h n c 0 a b) := by
  intro a b
  unfold jnw
  split
  · exact jbd0 a b
  · exact hb a b
/-- cells behind the last -/
theorem jHp_new {E : JE} {n c : Nat} {r r' h h' : JH} {H H' : Heap} (hH : jHp E n r h H) (hz : H'.size = H.size + c) (hq : ∀ q, q < H.size → H'[q]? = H[q]?) (hr : ∀ (j : Nat) (k : Int), j < n → r' j k = r j k) (hh : ∀ (j : Nat) (k : Int), j < n → h' j k = h j k) (ho : ∀ j, j < c → jO E r' h' H' (n + j)) (hb : ∀ a b : Int, jbd a b (h' a b)) : jHp E (n + c) r' h' H' := by
  have hs := hH.1
  refine ⟨by rw [hz, hs]; omega, fun q hq' => (hq q (by omega)).trans (hH.2.1 q hq'), fun j hj => ?_, hb⟩
  by_cases e : j < n
  · have h1 := hH.2.2.1 j e
    have hq1 := hq (jb0 E + j) (by omega)
    refine ⟨fun hk => ?_, fun hk => ?_⟩
    · obtain ⟨q, h2, h3⟩ := h1.1 hk
      exact ⟨q, h2, (h3.kept hq1).to (fun k _ => by rw [hr j k e, hh j k e])⟩
    · rw [hq1, h1.2 hk]
      congr 2
      funext k
      rw [hr j k e, hh j k e]
  · have := ho (j - n) (by omega)
    rwa [show n + (j - n) = j by omega] at this
theorem jnw_lt {h : JH} {n c : Nat} {v : Int} {j : Nat} {k : Int} (hj : j < n) : jnw h n c v j k = h j k := if_neg (by omega)
theorem jnw_in {h : JH} {n c : Nat} {v : Int} {j : Nat} {k : Int} (hj : j < c) : jnw h n c v (((n + j : Nat)) : Int) k = v := if_pos (by omega)
theorem jsz_succ {n : Nat} (hn : n < 229) : jSZ (n + 1) = jSZ n + jSL.getD n 0 := by
  have t : ∀ n, n < 229 → jSZ (n + 1) = jSZ n + jSL.getD n 0 := by decide +kernel
  exact t n hn
theorem jsl_obj : ∀ n, n < 229 → (jLY.getD n (9, 0)).1 = 0 → jSL.getD n 0 = (vwCl.getD (jLY.getD n (9, 0)).2 ("", TX0, 0)).2.2 ∧ (jLY.getD n (9, 0)).2 < 13 := by decide +kernel
theorem jsl_arr : ∀ n, n < 229 → (jLY.getD n (9, 0)).1 ≠ 0 → jSL.getD n 0 = (jLY.getD n (9, 0)).2 := by decide +kernel
theorem jsz_mono {a b : Nat} (h : a ≤ b) (hb : b ≤ 229) : jSZ a ≤ jSZ b := by
  obtain ⟨d, rfl⟩ := Nat.exists_eq_add_of_le h
  induction d with
  | zero => exact Nat.le_refl _
  | succ d ih =>
    have := ih (by omega) (by omega)
    rw [show a + (d + 1) = (a + d) + 1 by omega, jsz_succ (by omega)]
    omega
section jnewrows
variable {E : JE} {p : Program} {l : Launch} {e : Env} {R : Room} {s : State} {m : MethodId} {args : Array Value} {below : List Frame} {meth : Method} {c : Code} {Q : State → Prop} {mm n0 n1 : Nat} {pc : Nat} {ls st : List JV} {n : Nat} {r h : JH}
theorem jdef_sv (E : JE) {ci k : Nat} {q : vw_C} (hq : vwCl[ci]? = some q) (hk : k < q.2.2) : defaultValue (jty ci k) = jsv E ((jFT.getD ci []).getD k 0) 0 (-1) := by
  rcases (jTY hq hk).2 with ⟨g1, g2⟩ | ⟨g1, g2, -⟩ | ⟨g1, g2⟩
  · rw [g1, g2]; rfl
  · rw [g1, g2]; rfl
  · rw [g1]
    have : jsv E 4 0 (-1) = .null := rfl
    rw [this]
    cases hj : jty ci k <;> rw [hj] at g2 <;> first | rfl | cases g2
theorem js_new (C : jAt E p R s m args meth c mm n0 n1) {a pp idx : Nat} {CN : String} {T : u_T} {N : Nat} (hc : vwCl[a]? = some (CN, T, N)) (hw : jcw pp (.classLink (jM mm).1.cls idx CN) = true) (hi1 : (Cond.instantiable CN N) ∈ jG) (hi2 : (Cond.initialized CN) ∈ jG) (hd : decode (jM mm).2.1 pc = .ok (.new idx, 3)) (hn : n + 1 ≤ n1) (hk : jk n = (0, a))
    (k : jWj E p l e R s m args below meth c Q mm n0 n1 (pc + 3) ls (.inr (.inr (.inl n)) :: st) (n + 1) (jnw r n 1 (-1)) (jnw h n 1 0)) : jWj E p l e R s m args below meth c Q mm n0 n1 pc ls st n r h := fun lsS H locs hS => by
  have hH := hS.2.2.2.2.1
  obtain ⟨hn0, hn1'⟩ := hS.2.2.2.2.2.2
  have h229 := C.2.2.2.2.2.2.2.2.2.1
  have hkn : jLY.getD n (9, 0) = (0, a) := by have := hk; unfold jk at this; simpa using this
  have hsl := jsl_obj n (by omega) (by rw [hkn])
  rw [hkn, (jci hc).2] at hsl
  have hsz := jsz_succ (n := n) (by omega)
  have hcap := C.2.2.2.2.2.2.2.2.1 (n + 1) hn
  have hmono := jsz_mono hn0 (show n ≤ 229 by omega)
  have hKn := C.2.2.2.2.2.1.1.1 a _ hc
  have e1 : n + 1 - n0 = (n - n0) + 1 := by omega
  have e2 : jSZ (n + 1) - jSZ n0 = (jSZ n - jSZ n0) + N := by
    have : jSL.getD n 0 = N := hsl.1
    omega
  rw [e1, e2] at hcap
  refine W.newcK (n := N) C.1 C.2.1 C.2.2.2.1 (C.2.2.2.2.1 _ (jG_of hw)) (C.2.2.2.2.1 _ hi1) (C.2.2.2.2.1 _ hi2) rfl hd hcap.1 hcap.2 hKn.2.1 hH.1 fun H' kC hkC f1 f2 f3 => ?_
  have hk2 := k lsS H' locs ⟨hS.1, hS.2.1, hS.2.2.1, jokc hS.2.2.2.1 trivial, ?_, hS.2.2.2.2.2.1, by omega, hn⟩
  · rw [e1, e2, List.map_cons, jtv_ref (by omega)] at hk2
    exact hk2
  · refine jHp_new hH (c := 1) (by rw [f2, hH.1]) (fun q hq => f3 q (by rw [← hH.1]; exact hq)) (fun j k hj => jnw_lt hj) (fun j k hj => jnw_lt hj) (fun j hj => ?_) (jnw_bd hH.2.2.2 n 1)
    have hj0 : j = 0 := by omega
    subst hj0
    have hob := u_born (jty a) C.2.2.2.2.1 (jUW hc) hKn hkC f1 (fun k hk => (jTY hc hk).1)
    have h9 := jo_obj (E := E) (r := jnw r n 1 (-1)) (h := jnw h n 1 0) (i := (n : Int)) (by omega) hk hc (hob.to (fun k hk => by
      have q1 : jnw h n 1 0 (n : Int) k = 0 := jnw_in (j := 0) (by omega)
      have q2 : jnw r n 1 (-1) (n : Int) k = -1 := jnw_in (j := 0) (by omega)
      rw [q1, q2]
      exact jdef_sv E hc hk))
    exact h9
theorem jnewa_end (C : jAt E p R s m args meth c mm n0 n1) {t N : Nat} {H H' : Heap} (hH : jHp E n r h H) (hk : jk n = (t, N)) (ht : t ≠ 0) (f1 : H'[jb0 E + n]? = some (arrV (E.2.1 t) N (fun _ => jsv E t 0 (-1)))) (f2 : H'.size = H.size + 1) (f3 : ∀ q, q < H.size → H'[q]? = H[q]?) : jHp E (n + 1) (jnw r n 1 (-1)) (jnw h n 1 0) H' := by
  refine jHp_new hH (c := 1) f2 f3 (fun j k hj => jnw_lt hj) (fun j k hj => jnw_lt hj) (fun j hj => ?_) (jnw_bd hH.2.2.2 n 1)
  have hj0 : j = 0 := by omega
  subst hj0
  refine jo_arr (E := E) (i := (n : Int)) (by omega) (by rw [hk]; exact ht) ?_
  rw [hk]
  show H'[jb0 E + n]? = _
  rw [f1]
  congr 2
  funext k
  have q1 : jnw h n 1 0 (n : Int) k = 0 := jnw_in (j := 0) (by omega)
  have q2 : jnw r n 1 (-1) (n : Int) k = -1 := jnw_in (j := 0) (by omega)
  rw [q1, q2]
theorem jcaps (C : jAt E p R s m args meth c mm n0 n1) {lsS : Array Slot} {H : Heap} {locs : List Loc} (hS : jS E mm n0 n1 lsS H locs ls st n r h) {t N : Nat} (hn : n + 1 ≤ n1) (hk : jk n = (t, N)) (ht : t ≠ 0) : n + 1 - n0 = (n - n0) + 1 ∧ jSZ (n + 1) - jSZ n0 = (jSZ n - jSZ n0) + N ∧ (n - n0) + 1 ≤ R.cells ∧ (jSZ n - jSZ n0) + N ≤ R.slots := by
  obtain ⟨hn0, hn1'⟩ := hS.2.2.2.2.2.2
  have h229 := C.2.2.2.2.2.2.2.2.2.1
  have hkn : jLY.getD n (9, 0) = (t, N) := by have := hk; unfold jk at this; simpa using this
  have hsl := jsl_arr n (by omega) (by rw [hkn]; exact ht)
  rw [hkn] at hsl
  have hsz := jsz_succ (n := n) (by omega)
  have hcap := C.2.2.2.2.2.2.2.2.1 (n + 1) hn
  have hmono := jsz_mono hn0 (show n ≤ 229 by omega)
  have e1 : n + 1 - n0 = (n - n0) + 1 := by omega
  have e2 : jSZ (n + 1) - jSZ n0 = (jSZ n - jSZ n0) + N := by omega
  rw [e1, e2] at hcap
  exact ⟨e1, e2, hcap.1, hcap.2⟩
theorem js_newa (C : jAt E p R s m args meth c mm n0 n1) {b : Int} {t : Nat} {aty : ArrayType} {ty : FieldType} (hty : newarray.typeOf aty = ty) (htt : (t = 1 ∧ ty = .int) ∨ (t = 2 ∧ ty = .long) ∨ (t = 3 ∧ ty = .boolean)) (hwd : (Cond.arrayClass ty) ∈ jG) (hd : decode (jM mm).2.1 pc = .ok (.newarray aty, 2)) (K : jnwa n1 t (jWj E p l e R s m args below meth c Q mm n0 n1 (pc + 2)) ls (.inl b :: st) n r h) : jWj E p l e R s m args below meth c Q mm n0 n1 pc ls (.inl b :: st) n r h := fun lsS H locs hS => by
  have hH := hS.2.2.2.2.1
  have hb0 : jR32 b := hS.2.2.2.1 _ List.mem_cons_self
  obtain ⟨g1, g2, g3, g4, g5⟩ := K
  obtain ⟨c1, c2, c3, c4⟩ := jcaps C hS g3 g4 (by omega)
  have hcl := jclamp g1 hb0
  subst hty
  refine va_newaK (N := b.toNat) (h := H.size) C.1 C.2.1 (C.2.2.2.2.1 _ hwd) rfl hd (n := Int32.ofInt b) rfl (fun q => by have := (jlt32 (y := 0) hb0 ⟨by omega, by omega⟩).mp q; omega) hcl ?_ c3 c4 rfl fun H' cA f1 f2 f3 f4 f5 => ?_
  · rcases htt with ⟨-, h9⟩ | ⟨-, h9⟩ | ⟨-, h9⟩ <;> rw [h9] <;> show b.toNat * _ ≤ _
    · rw [show componentBytes .int = 4 from rfl]
      omega
    · rw [show componentBytes .long = 8 from rfl]
      omega
    · rw [show componentBytes .boolean = 1 from rfl]
      omega
  · have hcA : cA = E.2.1 t := by
      have hR := fun k q hk => (C.2.2.2.2.2.1.1.2 k q hk).2
      rcases htt with ⟨rfl, h9⟩ | ⟨rfl, h9⟩ | ⟨rfl, h9⟩ <;> rw [h9] at f5
      · exact Option.some.inj (f5.symm.trans (hR 0 _ rfl))
      · exact Option.some.inj (f5.symm.trans (hR 1 _ rfl))
      · exact Option.some.inj (f5.symm.trans (hR 2 _ rfl))
    subst hcA
    have hdv : defaultValue (newarray.typeOf aty) = jsv E t 0 (-1) := by
      rcases htt with ⟨rfl, h9⟩ | ⟨rfl, h9⟩ | ⟨rfl, h9⟩ <;> rw [h9] <;> rfl
    rw [hdv, hH.1] at f1
    have hk2 := g5 lsS H' locs ⟨hS.1, hS.2.1, hS.2.2.1, jokc (jokd hS.2.2.2.1) trivial, jnewa_end C hH g4 (by omega) f1 f2 f3, hS.2.2.2.2.2.1, by have := hS.2.2.2.2.2.2.1; omega, g3⟩
    rw [c1, c2, List.map_cons, jtv_ref (by omega)] at hk2
    rw [hH.1]
    exact hk2
theorem js_anew (C : jAt E p R s m args meth c mm n0 n1) {b : Int} {idx pp : Nat} (hw : jcw pp (.classLink (jM mm).1.cls idx "ArsenalRow$Hull") = true) (hd : decode (jM mm).2.1 pc = .ok (.anewarray idx, 3)) (K : jnwa n1 4 (jWj E p l e R s m args below meth c Q mm n0 n1 (pc + 3)) ls (.inl b :: st) n r h) : jWj E p l e R s m args below meth c Q mm n0 n1 pc ls (.inl b :: st) n r h := fun lsS H locs hS => by
  have hH := hS.2.2.2.2.1
  have hb0 : jR32 b := hS.2.2.2.1 _ List.mem_cons_self
  obtain ⟨g1, g2, g3, g4, g5⟩ := K
  obtain ⟨c1, c2, c3, c4⟩ := jcaps C hS g3 g4 (by omega)
  have hcl := jclamp g1 hb0
  refine W.anew C.1 C.2.1 C.2.2.2.1 (C.2.2.2.2.1 _ (jG_of hw)) (va_AO.use C.2.2.2.2.2.1.2.1) rfl hd (n := Int32.ofInt b) rfl (fun q => by have := (jlt32 (y := 0) hb0 ⟨by omega, by omega⟩).mp q; omega) (by rw [hcl]; omega) c3 (by rw [hcl]; exact c4) fun cA kA comp f1 f2 f3 f4 => ?_
  rw [hcl]
  generalize hH1 : H.push ({ cls := cA, slots := Array.replicate b.toNat .null, vm := .none } : Cell) = H1
  have z1 : H1.size = H.size + 1 := by rw [← hH1, Array.size_push]
  have e1 : H1[H.size]? = some (arrV cA b.toNat (fun _ => .null)) := by rw [← hH1, Array.getElem?_push_size, ← arrV_new]
  have o1 : ∀ q, q < H.size → H1[q]? = H[q]? := fun q hq => by rw [← hH1, Array.getElem?_push, if_neg (Nat.ne_of_lt hq)]
  obtain ⟨kA', comp', k1, k2, k3, k4⟩ := (C.2.2.2.2.2.1.1.2 3 _ rfl).2
  have hcA : cA = E.2.1 4 := Option.some.inj (f1.symm.trans k4)
  subst hcA
  rw [hH.1] at e1
  have hk2 := g5 lsS H1 locs ⟨hS.1, hS.2.1, hS.2.2.1, jokc (jokd hS.2.2.2.1) trivial, jnewa_end C hH g4 (by omega) e1 z1 o1, hS.2.2.2.2.2.1, by have := hS.2.2.2.2.2.2.1; omega, g3⟩
  rw [c1, c2, List.map_cons, jtv_ref (by omega)] at hk2
  rw [hH.1]
  exact hk2
theorem js_aast (C : jAt E p R s m args meth c mm n0 n1) {i k v : Int} (hd : decode (jM mm).2.1 pc = .ok (.aastore, 1)) (K : jasr (jWj E p l e R s m args below meth c Q mm n0 n1 (pc + 1)) ls (.inr (.inr (.inl v)) :: .inl k :: .inr (.inr (.inl i)) :: st) n r h) : jWj E p l e R s m args below meth c Q mm n0 n1 pc ls (.inr (.inr (.inl v)) :: .inl k :: .inr (.inr (.inl i)) :: st) n r h := fun lsS H locs hS => by
  have hk0 : jR32 k := hS.2.2.2.1 _ (List.mem_cons_of_mem _ List.mem_cons_self)
  have hH := hS.2.2.2.2.1
  obtain ⟨hi, g1, g2, g3, g4, g5, g6, g7, g8⟩ := K
  have ha := jHp_arr hH hi g1 (by omega)
  obtain ⟨q, hq, cv, v1, v2, v3, v4⟩ := jHp_obj hH g5 g6 g7
  obtain ⟨kA, comp, k1, k2, k3, k4⟩ := (C.2.2.2.2.2.1.1.2 3 _ rfl).2
  have hcls := (C.2.2.2.2.2.1.1.1 4 _ rfl).2
  have hcomp : comp = E.1.1 4 := Option.some.inj (k3.symm.trans hcls.1)
  subst hcomp
  have hcls' := hcls
  obtain ⟨kC, hkC, -⟩ := hcls'.2
  rw [List.map_cons, List.map_cons, List.map_cons, jtv_ref hi, jtv_ref g5]
  have hin := jin g3 hk0 g4 (E.2.1 (jk i).1) (fun j => jsv E (jk i).1 (h i j) (r i j))
  refine W.aast (t := .object "ArsenalRow$Hull") (j := Int32.ofInt k) C.1 C.2.1 ha (fun q h => by cases h) (fun h => by cases h) (by rw [g2]; exact k1) k2 rfl hkC ⟨fun q => hin (Or.inl q), Nat.not_le.mp fun q => hin (Or.inr q)⟩ v1 (fun q h => by rw [v3] at h; cases h) (by rw [v2]; exact hkC) (by rw [v2]; exact va_assign hcls) rfl rfl hd fun H' e1 e2 e3 => ?_
  rw [jclamp g3 hk0] at e1 ⊢
  refine g8 lsS H' _ (jS_put hS (jokd (jokd (jokd hS.2.2.2.1))) ?_)
  refine jHp_put hH (i := i.toNat) (by omega) e2 e3 (jo_arr hi (by omega) ?_) (fun j k hj => jup_ne (fun q => hj (by omega))) (fun _ _ _ => rfl) hH.2.2.2
  rw [e1, arrV_store, g2]
  congr 2
  funext j
  unfold updV
  by_cases ej : j = k.toNat
  · subst ej
    rw [if_pos rfl, Int.toNat_of_nonneg g3, jup_eq, ← jtv_ref g5]
    rfl
  · rw [if_neg ej, jup_ne (fun q => ej (by omega))]
theorem js_objI (C : jAt E p R s m args meth c mm n0 n1) {i : Int} {idx pp : Nat} (hw : jcw pp (.methodLink (jM mm).1.cls idx objectInit) = true) (hw2 : (Cond.instanceMethod objectInit) ∈ jG) (hw3 : (Cond.code objectInit ⟨#[0xb1]⟩ 1 none) ∈ jG) (hf : 1 ≤ (jM mm).2.2.2.2.1 ∧ 20 ≤ (jM mm).2.2.2.2.2.1) (hd : decode (jM mm).2.1 pc = .ok (.invokespecial idx, 3)) (K : jobj (jWj E p l e R s m args below meth c Q mm n0 n1 (pc + 3)) ls (.inr (.inr (.inl i)) :: st) n r h) : jWj E p l e R s m args below meth c Q mm n0 n1 pc ls (.inr (.inr (.inl i)) :: st) n r h := fun lsS H locs hS => by
  obtain ⟨g1, g2, g3⟩ := K
  have h2 := g3 lsS H locs (jS_st hS (jokd hS.2.2.2.1))
  rw [List.map_cons, jtv_ref g1]
  have hcat : ((st.map (jtv E)).map fun v => v.category).sum ≤ 8 := by
    have : ∀ (l : List Value), l.length ≤ 4 → (l.map fun v => v.category).sum ≤ 2 * l.length := by
      intro l _
      induction l with
      | nil => simp
      | cons v l ih =>
        have hv : v.category ≤ 2 := by rcases lv_cat v with h | h <;> omega
        simp only [List.map_cons, List.sum_cons, List.length_cons]
        have := ih (by simp at *; omega)
        omega
    have := this (st.map (jtv E)) (by simpa using g2)
    simp only [List.length_map] at this
    omega
  have h0 : 2 * (F0 m pc lsS (.ref (jb0 E + i.toNat) :: st.map (jtv E))).monitorRoom + ((st.map (jtv E)).map fun v => v.category).sum + 12 ≤ R.locals := by
    have h20 := C.2.2.2.2.2.2.2.1
    have := hf.2
    show 2 * 0 + _ + 12 ≤ _
    omega
  exact W.objInit C.1 C.2.1 C.2.2.2.1 (C.2.2.2.2.1 _ (jG_of hw)) (C.2.2.2.2.1 _ hw2) (C.2.2.2.2.1 _ hw3) rfl (by rw [C.2.2.1]; exact hS.1.1) rfl hd (by have := C.2.2.2.2.2.2.1; omega) h0 h2
end jnewrows
