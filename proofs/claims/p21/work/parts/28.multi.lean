/-! ===== ROW: new int[n][k] ===== -/
/-- the outer row once i inner ones hang in it; an inner row; the state with i inner rows -/
def jmO (cA : ClassId) (N a i : Nat) : Cell := arrV cA N (fun j => if j < i then .ref (a + 1 + j) else .null)
def jmI (cI : ClassId) (M : Nat) : Cell := arrV cI M (fun _ => .int 0)
def jmF (S : State) (cA cI : ClassId) (N M : Nat) : Nat → State
  | 0 => S.pushCell (jmO cA N S.heap.size 0)
  | i + 1 => ((jmF S cA cI N M i).pushCell (jmI cI M)).setCell S.heap.size (jmO cA N S.heap.size (i + 1))
theorem jmO_set (cA : ClassId) (N a i : Nat) : (jmO cA N a i).setSlot i (.ref (a + 1 + i)) = jmO cA N a (i + 1) := by
  unfold jmO
  rw [arrV_store]
  congr 1
  funext j
  unfold updV
  by_cases e : j = i
  · subst e; rw [if_pos rfl, if_pos (by omega)]
  · rw [if_neg e]
    show (if j < i then Value.ref (a + 1 + j) else .null) = _
    by_cases q : j < i
    · rw [if_pos q, if_pos (by omega)]
    · rw [if_neg q, if_neg (by omega)]
theorem jmF_top (S : State) (f : JFrame) (cA cI : ClassId) (N M : Nat) : ∀ i, jmF (S.setTop f) cA cI N M i = (jmF S cA cI N M i).setTop f
  | 0 => rfl
  | i + 1 => by simp only [jmF, jmF_top S f cA cI N M i, State.heap_setTop, State.pushCell_setTop, State.setCell_setTop]
theorem jmF_at (S : State) (cA cI : ClassId) (N M : Nat) : ∀ i, (jmF S cA cI N M i).heap.size = S.heap.size + 1 + i ∧ (jmF S cA cI N M i).heap[S.heap.size]? = some (jmO cA N S.heap.size i) ∧ (jmF S cA cI N M i).vm = S.vm ∧ (jmF S cA cI N M i).slotsUsed = S.slotsUsed + N + i * M ∧
    (∀ q, q < S.heap.size → (jmF S cA cI N M i).heap[q]? = S.heap[q]?) ∧ ∀ j, j < i → (jmF S cA cI N M i).heap[S.heap.size + 1 + j]? = some (jmI cI M)
  | 0 => ⟨by simp [jmF], by simp [jmF], rfl, by simp [jmF, jmO, arrV_size], fun q hq => State.heap_pushCell_of_lt _ _ hq, fun j hj => absurd hj (Nat.not_lt_zero _)⟩
  | i + 1 => by
    obtain ⟨h1, h2, h3, h4, h5, h6⟩ := jmF_at S cA cI N M i
    have hlt : S.heap.size < (jmF S cA cI N M i).heap.size := by omega
    have hb : ((jmF S cA cI N M i).pushCell (jmI cI M)).heap[S.heap.size]? = some (jmO cA N S.heap.size i) := by rw [State.heap_pushCell_of_lt (h := hlt)]; exact h2
    refine ⟨?_, State.heap_setCell_self hb, by simp [jmF, h3], ?_, fun q hq => ?_, fun j hj => ?_⟩
    · show (((jmF S cA cI N M i).pushCell (jmI cI M)).setCell S.heap.size _).heap.size = _
      rw [size_setCell, size_pushCell, h1]
      omega
    · simp [jmF, h4, jmI, arrV_size, Nat.succ_mul]
      omega
    · show (((jmF S cA cI N M i).pushCell (jmI cI M)).setCell S.heap.size _).heap[q]? = _
      rw [State.heap_setCell_other (Nat.ne_of_gt hq), State.heap_pushCell_of_lt (h := show q < (jmF S cA cI N M i).heap.size by omega)]
      exact h5 q hq
    · show (((jmF S cA cI N M i).pushCell (jmI cI M)).setCell S.heap.size _).heap[S.heap.size + 1 + j]? = _
      rw [State.heap_setCell_other (show S.heap.size ≠ S.heap.size + 1 + j by omega)]
      rcases Nat.lt_or_ge j i with g | g
      · rw [State.heap_pushCell_of_lt (h := show S.heap.size + 1 + j < (jmF S cA cI N M i).heap.size by omega)]
        exact h6 j g
      · have e : j = i := by omega
        subst e
        rw [← h1]
        exact State.heap_pushCell_size _ _
section jmulti
variable {p : Program} {l : Launch} {e : Env} {R : Room} {s : State} {m : MethodId} {args : Array Value} {below : List Frame} {meth : Method} {c : Code} {T : State} {locs : List Loc} {cells slots : Nat}
theorem jm_stand (X : Stand p l e R s m args below meth c T locs cells slots) (cA cI : ClassId) (N M : Nat) : ∀ i, Stand p l e R s m args below meth c (jmF T cA cI N M i) (locs ++ (List.range i).map fun j => ⟨T.heap.size, j⟩) (cells + 1 + i) (slots + N + i * M)
  | 0 => by
    have h := X.pushed (jmO cA N T.heap.size 0)
    rw [show (jmO cA N T.heap.size 0).slots.size = N from arrV_size _ _ _] at h
    simpa [jmF] using h
  | i + 1 => by
    obtain ⟨h1, h2, -, -, -, -⟩ := jmF_at T cA cI N M i
    have hlt : T.heap.size < (jmF T cA cI N M i).heap.size := by omega
    have h := ((jm_stand X cA cI N M i).pushed (jmI cI M)).stored (a := T.heap.size) (cell := jmO cA N T.heap.size i) (by rw [State.heap_pushCell_of_lt (h := hlt)]; exact h2) i (.ref (T.heap.size + 1 + i))
    rw [show (jmI cI M).slots.size = M from arrV_size _ _ _, jmO_set] at h
    rw [List.range_succ, List.map_append, ← List.append_assoc, show slots + N + (i + 1) * M = slots + N + i * M + M by rw [Nat.succ_mul]; omega]
    exact h
end jmulti
section jmwp
variable {X : CtlPost} {e : Env} {d : Bool} {acts : List Action} {S : State}
theorem jm_newa {c comp : ClassId} {k : Class} {ty : FieldType} {len : Nat} {v : Value} (hk : S.vm.classes[c]? = some k) (hkind : k.kind = .array comp ty) (h1 : ¬ len > e.platform.arrayLengthLimit) (h2 : ¬ len * componentBytes ty > e.platform.maxHeapBytes) (hf : fits ty v = true) (hd : v.isDefault = true)
    (h3 : S.heap.size < e.platform.maxCells) (h4 : S.slotsUsed + len ≤ e.platform.maxSlots) {Q : Addr → Pre} (hq : Q S.heap.size d acts (S.pushCell (arrV c len (fun _ => v)))) : wp (Jvm.newArray c len v) Q X e d acts S := by
  rw [← arrV_new] at hq
  have hfit : ∀ i w, (Array.replicate len v)[i]? = some w → S.fitsSlot c .none i w = true := by
    intro i w hw
    simp only [Array.getElem?_replicate] at hw
    split at hw
    · cases hw; simp [State.fitsSlot, State.slotType?, hk, hkind, hf]
    · cases hw
  have ha : allocActs (Array.replicate len v) S.heap.size acts = acts := by
    unfold allocActs
    rw [if_pos (by rw [Array.all_replicate]; split <;> simp [hd])]
  simp only [Jvm.newArray, Jvm.arrayFits, wp_bind', W.ask, W.ite, h1, if_false, wp_pure', W.theClass, hk, hkind, h2, W.alloc, W.stop, Option.some.injEq, exists_eq_left', Array.size_replicate, ha]
  rw [if_neg (by omega)]
  exact ⟨h3, h4, hfit, hq⟩
theorem jm_make {cA cI cc : ClassId} {kA kI : Class} {n k : Int32} (hkA : S.vm.classes[cA]? = some kA) (hkindA : kA.kind = .array cI (.array .int)) (hkI : S.vm.classes[cI]? = some kI) (hkindI : kI.kind = .array cc .int) (hn : ¬ n < 0) (hk : ¬ k < 0)
    (hl1 : ¬ n.toNatClampNeg > e.platform.arrayLengthLimit) (hh1 : ¬ n.toNatClampNeg * 4 > e.platform.maxHeapBytes) (hl2 : ¬ k.toNatClampNeg > e.platform.arrayLengthLimit) (hh2 : ¬ k.toNatClampNeg * 4 > e.platform.maxHeapBytes)
    (hc : S.heap.size + 1 + n.toNatClampNeg ≤ e.platform.maxCells) (hs : S.slotsUsed + n.toNatClampNeg + n.toNatClampNeg * k.toNatClampNeg ≤ e.platform.maxSlots) {Q : Addr → Pre} (hq : ∀ d' acts', Q S.heap.size d' acts' (jmF S cA cI n.toNatClampNeg k.toNatClampNeg n.toNatClampNeg)) : wp (multianewarray.make cA [n, k]) Q X e d acts S := by
  have hfind : ([k].find? (· < 0)) = none := by simp [hk]
  rw [multianewarray.make]
  simp only [wp_bind', W.ite, hn, if_false, wp_pure', W.theClass, hkA, hkindA, Option.some.injEq, exists_eq_left']
  refine jm_newa hkA hkindA hl1 hh1 rfl rfl (by omega) (by have := Nat.zero_le (n.toNatClampNeg * k.toNatClampNeg); omega) ?_
  simp only [hfind]
  rw [ite_self, wp_bind', Std.Legacy.Range.forIn_eq_forIn_range']
  rw [show ([:n.toNatClampNeg] : Std.Legacy.Range).size = n.toNatClampNeg by simp [Std.Legacy.Range.size]]
  show wp (forIn (List.range' 0 n.toNatClampNeg 1) PUnit.unit _) _ X e d acts _
  refine wp_forIn_inv (fun rest U => ∃ i, i ≤ n.toNatClampNeg ∧ rest = List.range' i (n.toNatClampNeg - i) ∧ U = jmF S cA cI n.toNatClampNeg k.toNatClampNeg i) _ _ ⟨0, Nat.zero_le _, rfl, ?_⟩ ?_ ?_
  · show S.pushCell _ = S.pushCell _
    congr 1
  · rintro x rest U d' acts' Q' ⟨i, hi, hl, rfl⟩ hnext
    have hlt : i < n.toNatClampNeg := by
      rcases Nat.lt_or_ge i n.toNatClampNeg with g | g
      · exact g
      · rw [show n.toNatClampNeg - i = 0 by omega] at hl; simp at hl
    rw [show n.toNatClampNeg - i = (n.toNatClampNeg - (i + 1)) + 1 by omega, List.range'_succ] at hl
    obtain ⟨rfl, hrest⟩ := List.cons.inj hl
    obtain ⟨f1, f2, f3, f4, -, -⟩ := jmF_at S cA cI n.toNatClampNeg k.toNatClampNeg x
    have hmul : x * k.toNatClampNeg + k.toNatClampNeg ≤ n.toNatClampNeg * k.toNatClampNeg := by
      have := Nat.mul_le_mul_right k.toNatClampNeg (show x + 1 ≤ n.toNatClampNeg from hlt)
      rwa [Nat.succ_mul] at this
    have hlt0 : S.heap.size < (jmF S cA cI n.toNatClampNeg k.toNatClampNeg x).heap.size := by omega
    simp only [wp_bind']
    rw [multianewarray.make]
    simp only [wp_bind', W.ite, hk, if_false, wp_pure', W.theClass, f3, hkI, hkindI, Option.some.injEq, exists_eq_left']
    refine jm_newa (by rw [f3]; exact hkI) hkindI hl2 hh2 rfl rfl (by omega) (by rw [f4]; omega) ?_
    simp only [wp_bind', W.writeLoc, wp_pure']
    refine ⟨jmO cA n.toNatClampNeg S.heap.size x, ?_, (fun q => by cases q), by rw [show (jmO cA n.toNatClampNeg S.heap.size x).slots.size = n.toNatClampNeg from arrV_size _ _ _]; exact hlt, ?_, hnext _ _ _ ⟨x + 1, hlt, hrest, ?_⟩⟩
    · rw [State.heap_pushCell_of_lt (h := hlt0)]; exact f2
    · show State.fitsSlot _ cA .none _ _ = true
      simp [State.fitsSlot, State.slotType?, f3, hkA, hkindA, fits]
    · rw [f1, jmO_set]
      rfl
  · rintro U d' acts' ⟨i, hi, hl, rfl⟩
    have hiN : i = n.toNatClampNeg := by
      rcases Nat.lt_or_ge i n.toNatClampNeg with g | g
      · rw [show n.toNatClampNeg - i = (n.toNatClampNeg - (i + 1)) + 1 by omega, List.range'_succ] at hl; cases hl
      · omega
    subst hiN
    simp only [wp_pure']
    exact hq _ _
end jmwp
section jmrow
variable {E : JE} {p : Program} {l : Launch} {e : Env} {R : Room} {s : State} {m : MethodId} {args : Array Value} {below : List Frame} {meth : Method} {c : Code} {Q : State → Prop} {mm n0 n1 : Nat} {pc : Nat} {ls st : List JV} {n : Nat} {r h : JH}
theorem jsz_run (n k : Nat) : ∀ c0 : Nat, n + 1 + c0 ≤ 229 → (∀ j : Nat, j < c0 → jk (n + 1 + j) = (1, k)) → jSZ (n + 1 + c0) = jSZ (n + 1) + c0 * k
  | 0, _, _ => by simp
  | c0 + 1, h1, h2 => by
    have ih := jsz_run n k c0 (by omega) (fun j hj => h2 j (by omega))
    have h3 := h2 c0 (by omega)
    have h4 : jLY.getD (n + 1 + c0) (9, 0) = (1, k) := by
      have := h3
      unfold jk at this
      rwa [show (((n : Int) + 1 + (c0 : Int))).toNat = n + 1 + c0 by omega] at this
    have h5 := jsl_arr (n + 1 + c0) (by omega) (by rw [h4]; exact Nat.one_ne_zero)
    rw [h4] at h5
    rw [show n + 1 + (c0 + 1) = (n + 1 + c0) + 1 by omega, jsz_succ (by omega), ih, h5, Nat.succ_mul]
    omega
theorem js_multi (C : jAt E p R s m args meth c mm n0 n1) {b k : Int} {idx pp : Nat} (hw : jcw pp (.classLink (jM mm).1.cls idx "[[I") = true) (hwI : (Cond.arrayClass .int) ∈ jG) (hd : decode (jM mm).2.1 pc = .ok (.multianewarray idx 2, 4)) (K : jnwm n1 (jWj E p l e R s m args below meth c Q mm n0 n1 (pc + 4)) ls (.inl k :: .inl b :: st) n r h) : jWj E p l e R s m args below meth c Q mm n0 n1 pc ls (.inl k :: .inl b :: st) n r h := fun lsS H locs hS => by
  have hH := hS.2.2.2.2.1
  have hk0 : jR32 k := hS.2.2.2.1 _ List.mem_cons_self
  have hb0 : jR32 b := hS.2.2.2.1 _ (List.mem_cons_of_mem _ List.mem_cons_self)
  obtain ⟨g1, g2, g3, g4, g5, g6, g7, g8⟩ := K
  obtain ⟨hn0, hn1'⟩ := hS.2.2.2.2.2.2
  have h229 := C.2.2.2.2.2.2.2.2.2.1
  have hkn : jLY.getD n (9, 0) = (5, b.toNat) := by have := g6; unfold jk at this; simpa using this
  have hsl := jsl_arr n (by omega) (by rw [hkn]; exact Nat.succ_ne_zero 4)
  rw [hkn] at hsl
  have hsz := jsz_succ (n := n) (by omega)
  have hrun := jsz_run n k.toNat b.toNat (by omega) g7
  have hmono := jsz_mono hn0 (show n ≤ 229 by omega)
  have hcap := C.2.2.2.2.2.2.2.2.1 (n + 1 + b.toNat) (by omega)
  have e1 : n + 1 + b.toNat - n0 = (n - n0) + 1 + b.toNat := by omega
  have e2 : jSZ (n + 1 + b.toNat) - jSZ n0 = (jSZ n - jSZ n0) + b.toNat + b.toNat * k.toNat := by
    have : jSL.getD n 0 = b.toNat := hsl
    omega
  rw [e1, e2] at hcap
  have hb' : (Int32.ofInt b).toNatClampNeg = b.toNat := jclamp g1 hb0
  have hk' : (Int32.ofInt k).toNatClampNeg = k.toNat := jclamp g3 hk0
  have neg : ∀ {z : Int}, jR32 z → 0 ≤ z → ¬ Int32.ofInt z < 0 := fun hz h0 q => by have := (jlt32 (y := 0) hz ⟨by omega, by omega⟩).mp q; omega
  rw [List.map_cons, List.map_cons]
  intro T hT X
  obtain ⟨comp, cA, kA, hcomp, -, hkA, hkindA, hnameA⟩ := jAO_spec C.2.2.2.2.2.1.2.2.1
  obtain ⟨comp', kC, cc, hcomp', hkC, hkindC⟩ := Cond.arrayClass_spec (C.2.2.2.2.1 _ hwI)
  have ecomp : comp' = comp := Option.some.inj (hcomp'.symm.trans hcomp)
  subst ecomp
  have hpl : e.platform.magicAccessors = ({} : Platform).magicAccessors := by rw [X.admits.platform]
  obtain ⟨c0, hfc0, hcl⟩ := Cond.classLink_spec C.2.2.2.1 (C.2.2.2.2.1 _ (jG_of hw)) e.platform hpl
  have ec0 : c0 = cA := Option.some.inj (hfc0.symm.trans hnameA)
  subst ec0
  have hm' : (F0 m pc lsS (jtv E (.inl k) :: jtv E (.inl b) :: st.map (jtv E))).method = m := rfl
  obtain ⟨hg₁, hwarm₁, hready₁⟩ := State.classEntry (e := e) X.warmed hcl
  generalize T.vm.noted m.cls idx (.cls c0) = vm₁ at hg₁ hwarm₁ hready₁
  have hal : s.vm.Alike vm₁ := hwarm₁.alike
  obtain ⟨kA₁, hkA₁, heA⟩ := hal.2.2 _ _ hkA
  obtain ⟨kC₁, hkC₁, heC⟩ := hal.2.2 _ _ hkC
  have hkindA₁ : kA₁.kind = .array comp' (.array .int) := by rw [heA]; exact hkindA
  have hkindC₁ : kC₁.kind = .array cc .int := by rw [heC]; exact hkindC
  have X₁ := X.noted hwarm₁
  have hmul : b.toNat * k.toNat ≤ 10000 * 10000 := Nat.mul_le_mul (by omega) (by omega)
  obtain ⟨hr1, hr2⟩ := X.roomAbove (a := 1 + b.toNat) (b := b.toNat + b.toNat * k.toNat) (by omega) (by omega)
  have hTs : T.heap.size = jb0 E + n := by rw [hT]; exact hH.1
  have XF := jm_stand X₁ c0 comp' b.toNat k.toNat b.toNat
  have hF := jmF_at (T.setVm vm₁) c0 comp' b.toNat k.toNat b.toNat
  have hsame : (T.setVm vm₁).heap = H := hT
  -- the classes of the rows
  have hcA : c0 = E.2.1 5 := by
    have k4 := (C.2.2.2.2.2.1.1.2 4 _ rfl).2
    exact Option.some.inj (hnameA.symm.trans k4)
  have hcI : comp' = E.2.1 1 := by
    have hR := (C.2.2.2.2.2.1.1.2 0 _ rfl).2
    exact Option.some.inj (hcomp.symm.trans hR)
  subst hcA
  subst hcI
  obtain ⟨f1, f2, -, -, f5, f6⟩ := hF
  rw [hsame] at f1 f2 f5 f6
  have hHp : jHp E (n + 1 + b.toNat) (jmu (jnw r n (1 + b.toNat) (-1)) n b.toNat) (jnw h n (1 + b.toNat) 0) (jmF (T.setVm vm₁) (E.2.1 5) (E.2.1 1) b.toNat k.toNat b.toNat).heap := by
    rw [show n + 1 + b.toNat = n + (1 + b.toNat) by omega]
    refine jHp_new hH (c := 1 + b.toNat) (by rw [f1]; omega) f5 (fun j q hj => ?_) (fun j q hj => jnw_lt hj) (fun j hj => ?_) (jnw_bd hH.2.2.2 n (1 + b.toNat))
    · unfold jmu
      rw [if_neg (by omega)]
      exact jnw_lt hj
    · cases j with
      | zero =>
        refine jo_arr (E := E) (i := (n : Int)) (by omega) (by rw [g6]; exact Nat.succ_ne_zero 4) ?_
        rw [g6]
        show (jmF (T.setVm vm₁) (E.2.1 5) (E.2.1 1) b.toNat k.toNat b.toNat).heap[jb0 E + n]? = _
        rw [← hH.1, f2]
        unfold jmO
        congr 2
        refine funext fun j => ?_
        show (if j < b.toNat then Value.ref (H.size + 1 + j) else .null) = jtv E (.inr (.inr (.inl (jmu (jnw r n (1 + b.toNat) (-1)) n b.toNat (n : Int) (j : Int)))))
        unfold jmu
        by_cases q : j < b.toNat
        · rw [if_pos q, if_pos ⟨rfl, by omega, by omega⟩, jtv_ref (by omega), hH.1]
          refine congrArg Value.ref ?_
          show jb0 E + n + 1 + j = jb0 E + ((n : Int) + 1 + (j : Int)).toNat
          rw [show ((n : Int) + 1 + (j : Int)).toNat = n + 1 + j by omega]
          omega
        · have q2 : jnw r n (1 + b.toNat) (-1) (n : Int) (j : Int) = -1 := if_pos (by omega)
          rw [if_neg q, if_neg (by omega), q2]
          rfl
      | succ j =>
        have hj' : j < b.toNat := by omega
        have h9 := jo_arr (E := E) (r := jmu (jnw r n (1 + b.toNat) (-1)) n b.toNat) (h := jnw h n (1 + b.toNat) 0) (H := (jmF (T.setVm vm₁) (E.2.1 5) (E.2.1 1) b.toNat k.toNat b.toNat).heap) (i := (n : Int) + 1 + j) (by omega) (by rw [g7 j hj']; exact Nat.one_ne_zero) (by
          rw [g7 j hj', show ((n : Int) + 1 + (j : Int)).toNat = n + 1 + j by omega, show jb0 E + (n + 1 + j) = H.size + 1 + j by rw [hH.1]; omega, f6 j hj']
          unfold jmI
          congr 2
          funext q
          have q1 : jnw h n (1 + b.toNat) 0 ((n : Int) + 1 + j) q = 0 := if_pos (by omega)
          rw [q1]
          rfl)
        rwa [show ((n : Int) + 1 + (j : Int)).toNat = n + (j + 1) by omega] at h9
  have XF2 : Stand p l e R s m args below meth c (jmF (T.setVm vm₁) (E.2.1 5) (E.2.1 1) b.toNat k.toNat b.toNat) (locs ++ (List.range b.toNat).map fun j => ⟨T.heap.size, j⟩) (n - n0 + 1 + b.toNat) (jSZ n - jSZ n0 + b.toNat + b.toNat * k.toNat) := XF
  have hk2 := g8 lsS _ (locs ++ (List.range b.toNat).map fun j => ⟨T.heap.size, j⟩) ⟨hS.1, hS.2.1, hS.2.2.1, jokc (jokd (jokd hS.2.2.2.1)) trivial, hHp, fun q hq => by
    rcases List.mem_append.mp hq with z | z
    · exact hS.2.2.2.2.2.1 q z
    · obtain ⟨y, -, hy⟩ := List.mem_map.mp z
      rw [← hy, hTs]
      exact Nat.le_add_right _ _, by omega, by omega⟩
  rw [e1, e2, List.map_cons, jtv_ref (by omega)] at hk2
  obtain ⟨t, a1, b1⟩ := hk2 _ rfl XF2
  refine ⟨t, ?_, b1⟩
  have hl1 : ¬ b.toNat > e.platform.arrayLengthLimit := by rw [Launch.admits_arrayLengthLimit X.admits]; omega
  have hh1 : ¬ b.toNat * 4 > e.platform.maxHeapBytes := by rw [Launch.admits_maxHeapBytes X.admits]; omega
  have hl2 : ¬ k.toNat > e.platform.arrayLengthLimit := by rw [Launch.admits_arrayLengthLimit X.admits]; omega
  have hh2 : ¬ k.toNat * 4 > e.platform.maxHeapBytes := by rw [Launch.admits_maxHeapBytes X.admits]; omega
  jvm_step X.here [C.1, C.2.1, hd]
  simp only [multianewarray.sem, wp_bind', W.resolveClassAt_links (State.method?_setTop (F0 m pc lsS (jtv E (.inl k) :: jtv E (.inl b) :: st.map (jtv E))) X.here.top) hg₁]
  rw [W.popN, if_neg (by decide)]
  refine ⟨F0 m pc lsS (jtv E (.inl k) :: jtv E (.inl b) :: st.map (jtv E)), State.topJava?_setTop' (s := T.setVm vm₁) _ X.here.top, [.int (Int32.ofInt b), .int (Int32.ofInt k)], st.map (jtv E), rfl, rfl, ?_⟩
  simp only [List.mapM_cons, List.mapM_nil, wp_bind', wp_pure']
  refine jm_make (kA := kA₁) (kI := kC₁) (cI := E.2.1 1) (cc := cc) hkA₁ hkindA₁ hkC₁ hkindC₁ (neg hb0 g1) (neg hk0 g3) (by rw [hb']; exact hl1) (by rw [hb']; exact hh1) (by rw [hk']; exact hl2) (by rw [hk']; exact hh2) (by rw [hb']; show T.heap.size + 1 + _ ≤ _; omega) (by rw [hb', hk']; show T.slotsUsed + _ + _ ≤ _; omega) (fun d' acts' => ?_)
  rw [hb', hk']
  have eS : ((T.setTop (F0 m pc lsS (jtv E (.inl k) :: jtv E (.inl b) :: st.map (jtv E)))).setVm vm₁).setTop (F0 m pc lsS (st.map (jtv E))) = (T.setVm vm₁).setTop (F0 m pc lsS (st.map (jtv E))) := by
    show ((T.setVm vm₁).setTop _).setTop _ = _
    rw [State.setTop_setTop]
  rw [eS, jmF_top]
  simp only [wp_bind', W.mark, W.pushRef, State.topJava?_setTop' _ XF2.here.top, Option.some.injEq, exists_eq_left', State.setTop_setTop, State.heap_setTop]
  intro acts
  simp [jvm, XF2.here.top]
  rw [Int.toNat_natCast, ← hTs] at a1
  exact a1
end jmrow
