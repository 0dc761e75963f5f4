/-! ===== ROWS: arraycopy, calls, returns ===== -/
/-- what a method needs of the tables: its own code, then all words that calls hand on -/
def jws (m : Nat) : List Cond := .code (jM m).1 (jM m).2.1 (jM m).2.2.1 (jM m).2.2.2.1 :: jG
def jrm (m n : Nat) : Room := { frames := (jM m).2.2.2.2.1, cells := (jM m).2.2.2.2.2.2, slots := jSZ (n + (jM m).2.2.2.2.2.2) - jSZ n, locals := (jM m).2.2.2.2.2.1 }
/-- THE CONTRACT of method m with arguments av at the picture (n, r, h): it returns, what it answers and the picture behind it have K -/
def jMt (E : JE) (l : Launch) (m : Nat) (av : List JV) (n : Nat) (r h : JH) (K : Option JV → JH → JH → Prop) : Prop :=
  (∀ v ∈ av, jok v) → Met l (jM m).1 (jws m) (jrm m n) (va_Pc (av.map (jtv E)) (fun U => jEx E U ∧ jHp E n r h U.heap))
    (fun _ _ o t => ∃ (v : Option JV) (r' h' : JH), o = .returned (v.map (jtv E)) ∧ jokO v ∧ K v r' h' ∧ jHp E (n + (jM m).2.2.2.2.2.2) r' h' t.heap) (jM m).2.2.2.2.2.2 (jSZ (n + (jM m).2.2.2.2.2.2) - jSZ n) (fun q => jb0 E ≤ q)
theorem jG_good {w : Cond} (h : w ∈ jG) : (w.onTables && w.keeps) = true ∨ ∃ ty, w = .arrayClass ty := good_of_word (List.mem_filter.mp h).2
theorem jpay {args : Array Value} {s : State} (ht : ∀ w ∈ jG, w.before args s = true) {w : Cond} (hw : w ∈ jG) (a' : Array Value) (U : State) (hW : s.WarmedH U.vm) : w.before a' U = true := word_at hW (jG_good hw) (ht w hw)
section jcalls
variable {E : JE} {p : Program} {l : Launch} {e : Env} {R : Room} {s : State} {m : MethodId} {args : Array Value} {below : List Frame} {meth : Method} {c : Code} {Q : State → Prop} {mm n0 n1 : Nat} {pc : Nat} {ls st : List JV} {n : Nat} {r h : JH}
theorem jcat8 {st : List JV} (h : st.length ≤ 4) : ((st.map (jtv E)).map fun v => v.category).sum ≤ 8 := by
  have : ∀ (l : List Value), l.length ≤ 4 → (l.map fun v => v.category).sum ≤ 2 * l.length := by
    intro l _
    induction l with
    | nil => simp
    | cons v l ih =>
      have hv : v.category ≤ 2 := by rcases lv_cat v with h | h <;> omega
      simp only [List.map_cons, List.sum_cons, List.length_cons]
      have := ih (by simp at *; omega)
      omega
  have := this (st.map (jtv E)) (by simpa using h)
  simp only [List.length_map] at this
  omega
theorem jcp_bd {h : JH} (hb : ∀ a b : Int, jbd a b (h a b)) {s0 sp d dp c0 : Int} (hx : ∀ j : Int, 0 ≤ j → j < c0 → jbd d (dp + j) (h s0 (sp + j))) : ∀ a b : Int, jbd a b (jcp h s0 sp d dp c0 a b) := by
  intro a b
  unfold jcp
  split
  · rename_i g
    rw [g.1]
    have := hx (b - dp) (by omega) (by omega)
    rwa [show dp + (b - dp) = b by omega] at this
  · exact hb a b
theorem js_acopy (C : jAt E p R s m args meth c mm n0 n1) {c0 dp d sp s0 : Int} {idx pp : Nat} (hw : jcw pp (.methodLink (jM mm).1.cls idx arraycopyName) = true) (hw2 : (Cond.native arraycopyName) ∈ jG) (hw3 : (Cond.static arraycopyName) ∈ jG) (hw4 : (Cond.initialized "java/lang/System") ∈ jG) (hf : 1 ≤ (jM mm).2.2.2.2.1 ∧ 26 ≤ (jM mm).2.2.2.2.2.1) (hd : decode (jM mm).2.1 pc = .ok (.invokestatic idx, 3))
    (K : jacp (jWj E p l e R s m args below meth c Q mm n0 n1 (pc + 3)) ls (.inl c0 :: .inl dp :: .inr (.inr (.inl d)) :: .inl sp :: .inr (.inr (.inl s0)) :: st) n r h) : jWj E p l e R s m args below meth c Q mm n0 n1 pc ls (.inl c0 :: .inl dp :: .inr (.inr (.inl d)) :: .inl sp :: .inr (.inr (.inl s0)) :: st) n r h := fun lsS H locs hS => by
  have hH := hS.2.2.2.2.1
  obtain ⟨a1, a2, a3, a4, a5, a6, a7, a8, a9, a10, a11, a12, a13, a14⟩ := K
  have hok := hS.2.2.2.1
  have hc0 : jR32 c0 := hok (.inl c0) (by simp)
  have hdp0 : jR32 dp := hok (.inl dp) (by simp)
  have hsp0 : jR32 sp := hok (.inl sp) (by simp)
  have hs := jHp_arr hH a1 a2 (by omega)
  have hdd := jHp_arr hH a3 a4 (by omega)
  rw [a5] at hs
  rw [a6] at hdd
  have hs : H[jb0 E + s0.toNat]? = some (arrV (E.2.1 1) (jk s0).2 (fun j => .int (Int32.ofInt (h s0 j)))) := hs
  have hdd : H[jb0 E + d.toNat]? = some (arrV (E.2.1 1) (jk d).2 (fun j => .int (Int32.ofInt (h d j)))) := hdd
  have hr0 : jR32 0 := ⟨by omega, by omega⟩
  have neg : ∀ {z : Int}, jR32 z → 0 ≤ z → ¬ Int32.ofInt z < 0 := fun hz h0 q => by have := (jlt32 (y := 0) hz hr0).mp q; omega
  have hlo : ((st.map (jtv E)).map fun v => v.category).sum + (nativeFrameWords "java/lang/System" "arraycopy" 5 + 11) ≤ R.locals := by
    have h1 := jcat8 (E := E) a12
    have h2 := C.2.2.2.2.2.2.2.1
    have h3 : nativeFrameWords "java/lang/System" "arraycopy" 5 = 7 := by decide
    have := hf.2
    omega
  rw [List.map_cons, List.map_cons, List.map_cons, List.map_cons, List.map_cons, jtv_ref a1, jtv_ref a3]
  intro T hT X
  obtain ⟨-, k0, hk0, cm0, hkk0⟩ := (C.2.2.2.2.2.1.1.2 0 _ rfl).1 (jk s0).2 (fun j => .int (Int32.ofInt (h s0 j)))
  obtain ⟨-, k1, hk1, cm1, hkk1⟩ := (C.2.2.2.2.2.1.1.2 0 _ rfl).1 (jk d).2 (fun j => .int (Int32.ofInt (h d j)))
  obtain ⟨vm', X', step⟩ := X.arraycopy C.1 C.2.2.2.1 (C.2.2.2.2.1 _ (jG_of hw)) (C.2.2.2.2.1 _ hw2) (C.2.2.2.2.1 _ hw3) (C.2.2.2.2.1 _ hw4) (src := jb0 E + s0.toNat) (dst := jb0 E + d.toNat)
    (cs := arrV (E.2.1 1) (jk s0).2 (fun j => .int (Int32.ofInt (h s0 j)))) (cd := arrV (E.2.1 1) (jk d).2 (fun j => .int (Int32.ofInt (h d j)))) (srcPos := Int32.ofInt sp) (destPos := Int32.ofInt dp) (n := Int32.ofInt c0) (by rw [hT]; exact hs) (by rw [hT]; exact hdd)
    (fun _ h => by cases h) (fun _ h => by cases h) (fun h => by cases h) (fun h => by cases h) hk0 hk1 hkk0 hkk1 (by simp [show refKind FieldType.int = false from rfl]) (neg hsp0 a7) (neg hdp0 a8) (neg hc0 a9)
    (by rw [jto32 hsp0, jto32 hc0, arrV_size]; omega) (by rw [jto32 hdp0, jto32 hc0, arrV_size]; omega)
    (fun vm₁ _ i hi => by
      rw [jclamp a9 hc0] at hi
      have e : (arrV (E.2.1 1) (jk s0).2 (fun j => Value.int (Int32.ofInt (h s0 j)))).slots.getD ((Int32.ofInt sp).toNatClampNeg + i) .null = .int (Int32.ofInt (h s0 ((sp.toNat + i : Nat)))) := by
        rw [jclamp a7 hsp0, Array.getD_eq_getD_getElem?, arrV_read _ _ (by omega)]
        rfl
      rw [e]
      exact ⟨rfl, trivial⟩)
    (g := F0 m pc lsS (jtv E (.inl c0) :: jtv E (.inl dp) :: .ref (jb0 E + d.toNat) :: jtv E (.inl sp) :: .ref (jb0 E + s0.toNat) :: st.map (jtv E))) rfl (by rw [C.2.2.1]; exact hS.1.1) (rest := st.map (jtv E)) rfl (by rw [C.2.1]; exact hd) (by have := C.2.2.2.2.2.2.1; omega) (by show 2 * 0 + _ + _ ≤ _; omega)
  have e1 : copied (arrV (E.2.1 1) (jk s0).2 (fun j => Value.int (Int32.ofInt (h s0 j)))) (arrV (E.2.1 1) (jk d).2 (fun j => Value.int (Int32.ofInt (h d j)))) (Int32.ofInt sp) (Int32.ofInt dp) (Int32.ofInt c0) = arrV (E.2.1 1) (jk d).2 (fun j => .int (va_cpy (fun j : Nat => Int32.ofInt (h s0 j)) (fun j : Nat => Int32.ofInt (h d j)) (Int32.ofInt sp).toNatClampNeg (Int32.ofInt dp).toNatClampNeg (Int32.ofInt c0).toNatClampNeg j)) :=
    va_copied (fun z => .int z) _ _ (fun j : Nat => Int32.ofInt (h s0 j)) (fun j : Nat => Int32.ofInt (h d j)) (by rw [jclamp a7 hsp0, jclamp a9 hc0]; omega)
  rw [e1] at X' step
  have hl : jb0 E + d.toNat < (T.setVm vm').heap.size := by show _ < T.heap.size; rw [hT]; exact (Array.getElem?_eq_some_iff.mp hdd).1
  have hHp : jHp E n r (jcp h s0 sp d dp c0) ((T.setVm vm').setCell (jb0 E + d.toNat) (arrV (E.2.1 1) (jk d).2 (fun j => .int (va_cpy (fun j : Nat => Int32.ofInt (h s0 j)) (fun j : Nat => Int32.ofInt (h d j)) (Int32.ofInt sp).toNatClampNeg (Int32.ofInt dp).toNatClampNeg (Int32.ofInt c0).toNatClampNeg j)))).heap := by
    refine jHp_put hH (i := d.toNat) (by omega) (by rw [size_setCell]; show T.heap.size = _; rw [hT]) (fun q hq => by rw [heapAt_setCell_ne _ (Ne.symm hq)]; show T.heap[q]? = _; rw [hT]) (jo_arr a3 (by omega) ?_) (fun _ _ _ => rfl) (fun j k hj => if_neg (fun q => hj (by omega))) (jcp_bd hH.2.2.2 (a13 hH.2.2.2))
    rw [heapAt_setCell_self _ hl, a6, jclamp a7 hsp0, jclamp a8 hdp0, jclamp a9 hc0]
    congr 2
    funext j
    unfold va_cpy jcp
    by_cases q : dp.toNat ≤ j ∧ j < dp.toNat + c0.toNat
    · rw [if_pos q, if_pos ⟨rfl, by omega, by omega⟩, show sp + ((j : Int) - dp) = ((sp.toNat + (j - dp.toNat) : Nat) : Int) by omega]
      rfl
    · rw [if_neg q, if_neg (fun z => q ⟨by omega, by omega⟩)]
      rfl
  obtain ⟨t, g1, g2⟩ := a14 lsS _ (locs ++ ((arrV (E.2.1 1) (jk s0).2 (fun j => Value.int (Int32.ofInt (h s0 j)))).stretch (Int32.ofInt sp).toNatClampNeg (Int32.ofInt c0).toNatClampNeg).zipIdx.map fun q => ⟨jb0 E + d.toNat, (Int32.ofInt dp).toNatClampNeg + q.2⟩) ⟨hS.1, hS.2.1, hS.2.2.1, jokd (jokd (jokd (jokd (jokd hok)))), hHp, fun q hq => by
    rcases List.mem_append.mp hq with z | z
    · exact hS.2.2.2.2.2.1 q z
    · obtain ⟨y, -, hy⟩ := List.mem_map.mp z
      rw [← hy]
      exact Nat.le_add_right _ _, hS.2.2.2.2.2.2⟩ _ rfl X'
  exact ⟨t, step t g1, g2⟩
/-! calls -/
theorem jmw_u {a : Nat} (h : a < 179) : (Cond.code (jM a).1 (jM a).2.1 (jM a).2.2.1 (jM a).2.2.2.1) ∈ jG ∧ (Cond.initialized (jM a).1.cls) ∈ jG ∧ ((jM a).1.cls ≠ "java/lang/invoke/MethodHandle" ∧ (jM a).1.cls ≠ "java/lang/invoke/VarHandle") ∧
    (jMS[a]? = some true → (Cond.static (jM a).1) ∈ jG) ∧ (jMS[a]? = some false → (Cond.instanceMethod (jM a).1) ∈ jG ∧ ((jMP.getD a (0, 0, 0, 0)).2.2.1 ≠ 9999 → (Cond.selects (jM a).1.cls (jM a).1 (jM a).1) ∈ jG)) := by
  have h1 := jmw_all h
  unfold jmw at h1
  simp only [Bool.and_eq_true, Bool.or_eq_true, Bool.not_eq_true', decide_eq_true_eq, decide_eq_false_iff_not] at h1
  obtain ⟨⟨⟨⟨g1, g2⟩, g3⟩, g4⟩, g5⟩ := h1
  refine ⟨jG_of (jcb_ok g1), jG_of g2, g3, fun q => ?_, fun q => ?_⟩
  · rcases g4 with g | g
    · exact absurd q g
    · exact jG_of g
  · rcases g5 with g | g
    · exact absurd q g
    · refine ⟨jG_of g.1, fun z => ?_⟩
      rcases g.2 with w | w
      · exact absurd w z
      · exact jG_of w
theorem jcall_u {a na c0 : Nat} (hc : jcall mm a na c0 = true) : a < 179 ∧ (jM a).2.2.2.2.1 + 1 ≤ (jM mm).2.2.2.2.1 ∧ 8 + ((jM a).2.2.1 + 11) + (jM a).2.2.2.2.2.1 ≤ (jM mm).2.2.2.2.2.1 ∧ (jM a).2.2.2.2.2.2 = c0 ∧ (parseMethodDescriptor (jM a).1.desc).map (fun d => d.parameters.length) = some na := by
  unfold jcall at hc
  simpa only [decide_eq_true_eq] using hc
theorem jws_ok (C : jAt E p R s m args meth c mm n0 n1) {a : Nat} (ha : a < 179) : ∀ w ∈ jws a, ∀ (a' : Array Value) (U : State), s.WarmedH U.vm → w.before a' U = true := fun w hw a' U hW => by
  rcases List.mem_cons.mp hw with rfl | hw
  · exact jpay C.2.2.2.2.1 (jmw_u ha).1 a' U hW
  · exact jpay C.2.2.2.2.1 hw a' U hW
theorem jparse {a na : Nat} (h : (parseMethodDescriptor (jM a).1.desc).map (fun d => d.parameters.length) = some na) : ∀ sig, parseMethodDescriptor (jM a).1.desc = some sig → na = sig.parameters.length := fun sig hs => by
  rw [hs] at h
  exact (Option.some.inj h).symm
theorem jcallB (C : jAt E p R s m args meth c mm n0 n1) {a na c0 idx : Nat} (hc : jcall mm a na c0 = true) (hl : (Cond.methodLink (jM mm).1.cls idx (jM a).1).before args s = true) (n : Nat) : CallB R s args (jM mm).1.cls idx (jM a).1 (jM a).2.1 (jM a).2.2.1 (jM a).2.2.2.1 (jws a) (jrm a n) (jM a).2.2.2.2.2.2 (jSZ (n + (jM a).2.2.2.2.2.2) - jSZ n) na := by
  obtain ⟨h1, h2, h3, h4, h5⟩ := jcall_u hc
  have hm := jmw_u h1
  have hR1 := C.2.2.2.2.2.2.1
  have hR2 := C.2.2.2.2.2.2.2.1
  exact ⟨rfl, rfl, by show (jM a).2.2.2.2.1 + 1 ≤ _; omega, by show _ + (jM a).2.2.2.2.2.1 ≤ _; omega, jws_ok C h1, List.mem_cons_self, C.2.2.2.2.1 _ hm.1, C.2.2.2.2.1 _ hm.2.1, hm.2.2.1, jparse h5, hl⟩
theorem jcallN (C : jAt E p R s m args meth c mm n0 n1) {a na c0 idx : Nat} {host : String} (hc : jcall mm a na c0 = true) (hl : va_Nw (.methodLinkNest (jM mm).1.cls idx (jM a).1 host) s) (n : Nat) : va_CN R s args (jM mm).1.cls idx (jM a).1 host (jM a).2.1 (jM a).2.2.1 (jM a).2.2.2.1 (jws a) (jrm a n) (jM a).2.2.2.2.2.2 (jSZ (n + (jM a).2.2.2.2.2.2) - jSZ n) na := by
  obtain ⟨h1, h2, h3, h4, h5⟩ := jcall_u hc
  have hm := jmw_u h1
  have hR1 := C.2.2.2.2.2.2.1
  have hR2 := C.2.2.2.2.2.2.2.1
  exact ⟨⟨rfl, rfl, by show (jM a).2.2.2.2.1 + 1 ≤ _; omega, by show _ + (jM a).2.2.2.2.2.1 ≤ _; omega, jws_ok C h1, List.mem_cons_self⟩, C.2.2.2.2.1 _ hm.1, C.2.2.2.2.1 _ hm.2.1, hm.2.2.1, jparse h5, va_Nw.use rfl hl⟩
theorem jblind {av : List Value} : FrameBlind (va_Pc av (fun U => jEx E U ∧ jHp E n r h U.heap)) := fun a U g mk q => ⟨q.1, jEx_same (u := U) (U := U.calling g mk a) rfl q.2.1, q.2.2⟩
theorem jpre (C : jAt E p R s m args meth c mm n0 n1) {H : Heap} (hH : jHp E n r h H) (av : List Value) : ∀ U : State, U.heap = H → s.WarmedH U.vm → va_Pc av (fun U => jEx E U ∧ jHp E n r h U.heap) av.toArray U := fun U hU hW => ⟨rfl, jEx_warm hW C.2.2.2.2.2.1, by rw [hU]; exact hH⟩
theorem jrun_end (C : jAt E p R s m args meth c mm n0 n1) {lsS : Array Slot} {H : Heap} {locs : List Loc} (hS : jS E mm n0 n1 lsS H locs ls st n r h) {c0 : Nat} (hc : n + c0 ≤ n1) {rest : List JV} (hrest : ∀ v ∈ rest, jok v) {st0 : List Value} {Kp : Option JV → JH → JH → Prop} {a : Array Value}
    (hr : va_Run p l e R s m args below meth c H locs (n - n0) (jSZ n - jSZ n0) c0 (jSZ (n + c0) - jSZ n) (F0 m pc lsS st0) (rest.map (jtv E)) ((fun (_ : Array Value) (_ : State) (o : Outcome) (t : State) => ∃ (v : Option JV) (r' h' : JH), o = .returned (v.map (jtv E)) ∧ jokO v ∧ Kp v r' h' ∧ jHp E (n + c0) r' h' t.heap) a) (fun q => jb0 E ≤ q))
    (k : ∀ v r' h', Kp v r' h' → jokO v → jWj E p l e R s m args below meth c Q mm n0 n1 (pc + 3) ls (v.toList ++ rest) (n + c0) r' h') : W p l e R s m args below meth c H locs (n - n0) (jSZ n - jSZ n0) Q (F0 m pc lsS st0) := by
  intro T hT X
  obtain ⟨v, st₀, t, T', L, h0, X', hL, e1, e2, ⟨v1, r', h', hv, hok, hK, hHp⟩, st9⟩ := hr T hT X
  cases hv
  have hn0 := hS.2.2.2.2.2.2.1
  have h229 := C.2.2.2.2.2.2.2.2.2.1
  have m1 := jsz_mono hn0 (show n ≤ 229 by omega)
  have m2 := jsz_mono (show n ≤ n + c0 by omega) (show n + c0 ≤ 229 by omega)
  rw [show n - n0 + c0 = n + c0 - n0 by omega, show jSZ n - jSZ n0 + (jSZ (n + c0) - jSZ n) = jSZ (n + c0) - jSZ n0 by omega] at X'
  obtain ⟨t2, g1, g2⟩ := k v1 r' h' hK hok lsS T'.heap (locs ++ L) ⟨hS.1, hS.2.1, hS.2.2.1, fun w hw => by
    rcases List.mem_append.mp hw with z | z
    · cases v1 with
      | none => simp at z
      | some y => simp at z; rw [z]; exact hok
    · exact hrest w z, by rw [e1]; exact hHp, fun q hq => by
    rcases List.mem_append.mp hq with z | z
    · exact hS.2.2.2.2.2.1 q z
    · exact hL q z, by omega, hc⟩ T' rfl X'
  refine ⟨t2, st9 t2 ?_, g2⟩
  have e3 : (v1.toList ++ rest).map (jtv E) = (v1.map (jtv E)).toList ++ rest.map (jtv E) := by cases v1 <;> simp
  rw [e3] at g1
  exact g1
theorem jcf (C : jAt E p R s m args meth c mm n0 n1) : CallFix p m c (jM mm).2.1 (jM mm).2.2.1 s args jG (jM mm).1.cls := ⟨C.1, C.2.1, C.2.2.1, C.2.2.2.1, C.2.2.2.2.1⟩
theorem jcap (C : jAt E p R s m args meth c mm n0 n1) {lsS : Array Slot} {H : Heap} {locs : List Loc} (hS : jS E mm n0 n1 lsS H locs ls st n r h) {c0 : Nat} (hc : n + c0 ≤ n1) : n - n0 + c0 ≤ R.cells ∧ jSZ n - jSZ n0 + (jSZ (n + c0) - jSZ n) ≤ R.slots := by
  have hn0 := hS.2.2.2.2.2.2.1
  have h229 := C.2.2.2.2.2.2.2.2.2.1
  have m1 := jsz_mono hn0 (show n ≤ 229 by omega)
  have m2 := jsz_mono (show n ≤ n + c0 by omega) (show n + c0 ≤ 229 by omega)
  have hcap := C.2.2.2.2.2.2.2.2.1 (n + c0) hc
  omega
theorem js_cas (C : jAt E p R s m args meth c mm n0 n1) {a na c0 idx pp : Nat} (hms : jMS[a]? = some true) (hc : jcall mm a na c0 = true) (hl : if pp < 100000 then jcw pp (.methodLink (jM mm).1.cls idx (jM a).1) = true else (pp - 100000 ∈ jNP ∧ lw_tbl[pp - 100000]? = some (.methodLinkNest (jM mm).1.cls idx (jM a).1 "ArsenalRow"))) (hd : decode (jM mm).2.1 pc = .ok (.invokestatic idx, 3))
    (K : jcas (jMt E l) n1 a c0 na (jWj E p l e R s m args below meth c Q mm n0 n1 (pc + 3)) ls st n r h) : jWj E p l e R s m args below meth c Q mm n0 n1 pc ls st n r h := fun lsS H locs hS => by
  obtain ⟨k1, k2, k3, k4⟩ := K
  obtain ⟨h1, h2, h3, h4, h5⟩ := jcall_u hc
  have hM := k4 (fun v hv => hS.2.2.2.1 v (List.mem_of_mem_take (List.mem_reverse.mp hv)))
  have hstack : st.map (jtv E) = (((st.take na).reverse).map (jtv E)).reverse ++ (st.drop na).map (jtv E) := by
    rw [← List.map_reverse, List.reverse_reverse, ← List.map_append, List.take_append_drop]
  have hlen : (((st.take na).reverse).map (jtv E)).length = na := by simp; omega
  have hrest : ∀ v ∈ st.drop na, jok v := fun v hv => hS.2.2.2.1 v (List.mem_of_mem_drop hv)
  subst h4
  by_cases hp : pp < 100000
  · rw [if_pos hp] at hl
    refine jrun_end (a := #[]) C hS k3 hrest (va_runS (jcf C) hM ⟨jcallB C hc (C.2.2.2.2.1 _ (jG_of hl)) n, C.2.2.2.2.1 _ ((jmw_u h1).2.2.2.1 hms)⟩ ⟨jblind, jpre C hS.2.2.2.2.1 _⟩ rfl hlen hS.1.1 hstack (lv_room (jcat8 k2)) hd (jcap C hS k3)) (fun v r' h' q1 q2 => q1 q2)
  · rw [if_neg hp] at hl
    refine jrun_end (a := #[]) C hS k3 hrest (va_runSN (jcf C) hM ⟨jcallN C hc (C.2.2.2.2.2.1.2.2.2.1 _ hl.1 _ _ _ _ hl.2) n, C.2.2.2.2.1 _ ((jmw_u h1).2.2.2.1 hms), trivial⟩ ⟨jblind, jpre C hS.2.2.2.2.1 _⟩ rfl hlen hS.1.1 hstack (lv_room (jcat8 k2)) hd (jcap C hS k3)) (fun v r' h' q1 q2 => q1 q2)
theorem jcav_inv {CL : Nat → List JV → Nat → JH → JH → (Option JV → JH → JH → Prop) → Prop} {m0 c0 na ci : Nat} {K : JK} (h0 : jcav CL n1 m0 c0 na ci K ls st n r h) : ∃ (i : Int) (s9 : List JV), st.drop na = .inr (.inr (.inl i)) :: s9 ∧ 0 ≤ i ∧ i < n ∧ jk i = (0, ci) ∧ s9.length ≤ 4 ∧ n + c0 ≤ n1 ∧ CL m0 (.inr (.inr (.inl i)) :: (st.take na).reverse) n r h (fun v r' h' => jokO v → K ls (v.toList ++ s9) (n + c0) r' h') := by
  unfold jcav at h0
  split at h0
  · rename_i i s9 heq
    exact ⟨i, s9, heq, h0⟩
  · exact h0.elim
theorem jdrop_st {E : JE} {na : Nat} {i : Int} {s9 : List JV} (hd : st.drop na = .inr (.inr (.inl i)) :: s9) (h0 : 0 ≤ i) : st.map (jtv E) = (((st.take na).reverse).map (jtv E)).reverse ++ .ref (jb0 E + i.toNat) :: s9.map (jtv E) := by
  rw [← List.map_reverse, List.reverse_reverse, ← jtv_ref h0, ← List.map_cons, ← hd, ← List.map_append, List.take_append_drop]
theorem jdrop_len {na : Nat} {v : JV} {s9 : List JV} (hd : st.drop na = v :: s9) : (((st.take na).reverse).map (jtv E)).length = na := by
  have : (st.drop na).length = s9.length + 1 := by rw [hd]; rfl
  simp at this ⊢
  omega
theorem jclsof {ci : Nat} {CN : String} (hci : (vwCl[ci]?).map (fun c => c.1) = some CN) : ∃ q : vw_C, vwCl[ci]? = some q ∧ q.1 = CN := by
  cases hq : vwCl[ci]? with
  | none => rw [hq] at hci; cases hci
  | some q => rw [hq] at hci; exact ⟨q, rfl, Option.some.inj hci⟩
theorem js_cav (C : jAt E p R s m args meth c mm n0 n1) {a na c0 idx pp u : Nat} (hu : (vwCl[u]?).map (fun c => c.1) = some (jM a).1.cls) (hms : jMS[a]? = some false) (hse : (jMP.getD a (0, 0, 0, 0)).2.2.1 ≠ 9999) (hc : jcall mm a na c0 = true) (hl : jcw pp (.methodLink (jM mm).1.cls idx (jM a).1) = true) (hd : decode (jM mm).2.1 pc = .ok (.invokevirtual idx, 3))
    (K : jcav (jMt E l) n1 a c0 na u (jWj E p l e R s m args below meth c Q mm n0 n1 (pc + 3)) ls st n r h) : jWj E p l e R s m args below meth c Q mm n0 n1 pc ls st n r h := fun lsS H locs hS => by
  obtain ⟨i, s9, hdr, hi0, hi1, hk, hs9, k3, k4⟩ := jcav_inv K
  obtain ⟨h1, h2, h3, h4, h5⟩ := jcall_u hc
  have hM := k4 (fun v hv => by
    rcases List.mem_cons.mp hv with rfl | hv
    · exact trivial
    · exact hS.2.2.2.1 v (List.mem_of_mem_take (List.mem_reverse.mp hv)))
  rw [List.map_cons, jtv_ref hi0] at hM
  have hrest : ∀ v ∈ s9, jok v := fun v hv => hS.2.2.2.1 v (List.mem_of_mem_drop (i := na) (by rw [hdr]; exact List.mem_cons_of_mem _ hv))
  subst h4
  obtain ⟨q, hq, hqn⟩ := jclsof hu
  obtain ⟨q', hq', cell, c1, c2, c3, c4⟩ := jHp_obj hS.2.2.2.2.1 hi0 hi1 hk
  obtain ⟨-, hfc, -⟩ := C.2.2.2.2.2.1.1.1 u _ hq
  rw [hqn] at hfc
  have hin := (jmw_u h1).2.2.2.2 hms
  exact jrun_end (a := #[]) C hS k3 hrest (va_runV (C := (jM a).1.cls) (jcf C) hM ⟨jcallB C hc (C.2.2.2.2.1 _ (jG_of hl)) n, C.2.2.2.2.1 _ hin.1, C.2.2.2.2.1 _ (hin.2 hse)⟩ ⟨jblind, ⟨cell, c1, by rw [c3]; rfl, by rw [c2]; exact hfc⟩, jpre C hS.2.2.2.2.1 _⟩ rfl (jdrop_len hdr) hS.1.1 (jdrop_st hdr hi0) (lv_room (jcat8 hs9)) hd (jcap C hS k3)) (fun v r' h' q1 q2 => q1 q2)
theorem js_cai (C : jAt E p R s m args meth c mm n0 n1) {a na c0 idx pp u : Nat} (hms : jMS[a]? = some false) (hnm : (jM a).1.name = "<init>") (hrt : (jM a).2.2.2.1 = none) (hc : jcall mm a na c0 = true) (hl : if pp < 100000 then jcw pp (.methodLink (jM mm).1.cls idx (jM a).1) = true else (pp - 100000 ∈ jNP ∧ lw_tbl[pp - 100000]? = some (.methodLinkNest (jM mm).1.cls idx (jM a).1 "ArsenalRow"))) (hd : decode (jM mm).2.1 pc = .ok (.invokespecial idx, 3))
    (K : jcav (jMt E l) n1 a c0 na u (jWj E p l e R s m args below meth c Q mm n0 n1 (pc + 3)) ls st n r h) : jWj E p l e R s m args below meth c Q mm n0 n1 pc ls st n r h := fun lsS H locs hS => by
  obtain ⟨i, s9, hdr, hi0, hi1, hk, hs9, k3, k4⟩ := jcav_inv K
  obtain ⟨h1, h2, h3, h4, h5⟩ := jcall_u hc
  have hM := k4 (fun v hv => by
    rcases List.mem_cons.mp hv with rfl | hv
    · exact trivial
    · exact hS.2.2.2.1 v (List.mem_of_mem_take (List.mem_reverse.mp hv)))
  rw [List.map_cons, jtv_ref hi0] at hM
  have hrest : ∀ v ∈ s9, jok v := fun v hv => hS.2.2.2.1 v (List.mem_of_mem_drop (i := na) (by rw [hdr]; exact List.mem_cons_of_mem _ hv))
  subst h4
  have hin := (jmw_u h1).2.2.2.2 hms
  by_cases hp : pp < 100000
  · rw [if_pos hp] at hl
    have cb := jcallB C hc (C.2.2.2.2.1 _ (jG_of hl)) n
    rw [hrt] at cb
    exact jrun_end (a := #[]) C hS k3 hrest (va_runI (jcf C) hM ⟨cb, hnm, C.2.2.2.2.1 _ hin.1⟩ ⟨jblind, jpre C hS.2.2.2.2.1 _⟩ rfl (jdrop_len hdr) hS.1.1 (jdrop_st hdr hi0) (lv_room (jcat8 hs9)) hd (jcap C hS k3)) (fun v r' h' q1 q2 => q1 q2)
  · rw [if_neg hp] at hl
    have cb := jcallN C hc (C.2.2.2.2.2.1.2.2.2.1 _ hl.1 _ _ _ _ hl.2) n
    rw [hrt] at cb
    exact jrun_end (a := #[]) C hS k3 hrest (va_runIN (jcf C) hM ⟨cb, hnm, C.2.2.2.2.1 _ hin.1⟩ ⟨jblind, jpre C hS.2.2.2.2.1 _⟩ rfl (jdrop_len hdr) hS.1.1 (jdrop_st hdr hi0) (lv_room (jcat8 hs9)) hd (jcap C hS k3)) (fun v r' h' q1 q2 => q1 q2)
end jcalls
