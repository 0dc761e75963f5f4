/-! THE CLAIM OUT OF ONE WALK OF THE LAW'S BODY. Your part is whole_start (and what it stands on); all else here is the same for every law, but numbers. -/
def R_law : String := "ArsenalRowLaw"
def lw_P (b : Addr) (xs : List Int32) (args : Array Value) (s : State) : Prop := args = #[.ref b] ∧ s.IntsAt b xs ∧ xs.length ≤ 3072 ∧ (Jvm.Cond.and given_1 narrow_1).before args s = true
def lw_Q (_ : Array Value) (s : State) (o : Outcome) (t : State) : Prop := o = .returned (some (.int 1)) ∧ Framed s o t [] 600000 7302250
def lw_Z (below : List Frame) (a : Array Value) (s : State) : State → Prop := fun t => ∃ o, t.status = .running ∧ Ended t below o ∧ lw_Q a s o t
/-- the law's own end, with 1 on the stack, nothing written that was there before, its room as the claim has it -/
theorem lw_ret {p : Program} {l : Launch} {e : Env} {s : State} {m : MethodId} {below : List Frame} {meth : Method} {c : Code} {b : Nat} (hx : p.tables.exec = Jvm.exec) (hb : c.code = code) (hr : meth.sig.returnType = ret) (hlocks : meth.locks = false) {pc : Nat} {H : Heap} {ls : Array Slot} (hdg : decode code pc = .ok (.ireturn, 1)) : W p l e room_1 s m #[Value.ref b] below meth c H [] 600000 7302250 (lw_Z below #[Value.ref b] s) (F0 m pc ls [.int 1]) := by
  intro T hT X
  obtain ⟨fs, hret, hrun, hended, hW, hframe⟩ := X.leave (v := some (.int 1)) (hlocks := hlocks) (fun h => by rw [hr] at h; cases h)
  have hmeth' : T.vm.method? m = some meth := X.method'
  refine ⟨T.setFrames fs, ?_, .returned (some (.int 1)), hrun, hended, rfl, ⟨_, rfl⟩, hW, hframe⟩
  jvm_step X.here [X.here.top, hx, hb, hdg, hmeth', hr, ret, narrow_b1]
  (try refine ⟨rfl, ?_⟩); (try refine ⟨rfl, ?_⟩)
  first | (intro acts; rw [hret _ acts rfl rfl rfl]) | rw [hret _ _ rfl rfl rfl]
  exact Steps.refl _
/-- what holds at the law's entry: the machine, the code, the tables' words (any of lw_tbl by 'hts w (by decide +kernel)'), the script of L ints xs at the cell b, what the Statement gives of the start (any of its parts by flat_of_before) -/
def lw_At (p : Program) (s : State) (m : MethodId) (meth : Method) (c : Code) (b L : Nat) (xs : Nat → Int32) : Prop :=
  p.tables.exec = Jvm.exec ∧ c.code = code ∧ meth.sig.returnType = ret ∧ c.maxLocals = 4 ∧ s.vm.findClass R_law = some m.cls ∧ (∀ w ∈ lw_tbl, w.before #[Value.ref b] s = true) ∧ va_X b L xs s s.heap ∧ b < s.heap.size ∧ meth.locks = false ∧ (Jvm.Cond.and given_1 narrow_1).before #[Value.ref b] s = true ∧ meth.name = "law"
theorem jE_cls {args : Array Value} {s : State} (hts : ∀ w ∈ jG, w.before args s = true) : ∃ D : Nat → ClassId × (Nat → Nat), ∀ (c : Nat) (q : vw_C), vwCl[c]? = some q → u_Kn s q.1 q.2.1 q.2.2 (D c).1 (D c).2 := by
  have h : ∀ c : Nat, ∃ z : ClassId × (Nat → Nat), ∀ q : vw_C, vwCl[c]? = some q → u_Kn s q.1 q.2.1 q.2.2 z.1 z.2 := fun c => by
    cases hc : vwCl[c]? with
    | none => exact ⟨(0, fun _ => 0), fun q hq => by cases hq⟩
    | some q =>
      obtain ⟨h1, h2⟩ := jci hc
      have hi := (jCI c h1).1
      rw [h2] at hi
      obtain ⟨cC, iS, hk⟩ := u_known (C := q.1) (T := q.2.1) (N := q.2.2) hts (jUW hc) (hts _ (jG_of hi))
      exact ⟨(cC, iS), fun q' hq' => by cases hq'; exact hk⟩
  obtain ⟨f, hf⟩ := Classical.axiomOfChoice h
  exact ⟨f, fun c q hq => hf c q hq⟩
def jCA (c1 c2 c3 c4 c5 : ClassId) : Nat → ClassId
  | 1 => c1
  | 2 => c2
  | 3 => c3
  | 4 => c4
  | _ => c5
def jAD (b t0 t1 t2 t3 t4 : Nat) (i : Int) : Nat := if i = -2 then b else if i = -3 then t0 else if i = -4 then t1 else if i = -5 then t2 else if i = -6 then t3 else t4
def jSR (s : State) (k t : Nat) : Prop := ∀ (C n d : String) (ty : Nat) (xs : List Int), jST[k]? = some (C, n, d, ty, xs) → va_Z C n d (.ref t) (fun q => s.heap.size ≤ q) s s.heap ∧ va_T (if ty = 2 then .long else .int) t xs.length (fun j => if ty = 2 then .long (Int64.ofInt (xs.getD j 0)) else .int (Int32.ofInt (xs.getD j 0))) (fun q => s.heap.size ≤ q) s s.heap
theorem jSR_0 {b : Nat} {s : State} (hw : ∀ w ∈ lw_tbl, w.before #[Value.ref b] s = true) (hs : ∀ c ∈ flatC (Jvm.Cond.and given_1 narrow_1), c.before #[Value.ref b] s = true) : ∃ t, jSR s 0 t := by
  have hel : ∀ j : Nat, j < 4 → (Term.elem (Term.static "ArsenalRow" "LEAST_DECREED" "[I") (.int (Int32.ofNat j))).eval #[Value.ref b] s none [] s = some (if (1 : Nat) = 2 then .long (Int64.ofInt (([0, 0, 0, 1] : List Int).getD j 0)) else .int (Int32.ofInt (([0, 0, 0, 1] : List Int).getD j 0))) := fun j hj => by
    rcases j with _ | _ | _ | _ | j
    · exact va_eqt (z := Int32.ofInt 0) (hs (Cond.eq (Term.elem (Term.static "ArsenalRow" "LEAST_DECREED" "[I") (.int (Int32.ofNat 0))) (.int (Int32.ofInt 0))) (by decide +kernel))
    · exact va_eqt (z := Int32.ofInt 0) (hs (Cond.eq (Term.elem (Term.static "ArsenalRow" "LEAST_DECREED" "[I") (.int (Int32.ofNat 1))) (.int (Int32.ofInt 0))) (by decide +kernel))
    · exact va_eqt (z := Int32.ofInt 0) (hs (Cond.eq (Term.elem (Term.static "ArsenalRow" "LEAST_DECREED" "[I") (.int (Int32.ofNat 2))) (.int (Int32.ofInt 0))) (by decide +kernel))
    · exact va_eqt (z := Int32.ofInt 1) (hs (Cond.eq (Term.elem (Term.static "ArsenalRow" "LEAST_DECREED" "[I") (.int (Int32.ofNat 3))) (.int (Int32.ofInt 1))) (by decide +kernel))
    · omega
  obtain ⟨t, e, T⟩ := va_Tof (args := #[Value.ref b]) (s := s) (tm := (Term.static "ArsenalRow" "LEAST_DECREED" "[I")) (ty := .int) (N := 4) (A := fun q => s.heap.size ≤ q) (by decide) (hs (Cond.arrayOf (Term.static "ArsenalRow" "LEAST_DECREED" "[I") .int) (by decide +kernel)) (va_eqt (z := Int32.ofNat 4) (hs (Cond.eq (Term.length (Term.static "ArsenalRow" "LEAST_DECREED" "[I")) (.int (Int32.ofNat 4))) (by decide +kernel))) hel (fun a ha q => absurd ha (Nat.not_lt.mpr q))
  refine ⟨t, fun C n d ty xs h => ?_⟩
  have h2 : (some ("ArsenalRow", "LEAST_DECREED", "[I", 1, ([0, 0, 0, 1] : List Int)) : Option (String × String × String × Nat × List Int)) = some (C, n, d, ty, xs) := h
  cases h2
  exact ⟨va_Zof (hw (Cond.laysStatic "ArsenalRow" "LEAST_DECREED" "[I") (by decide +kernel)) (hw (Cond.initialized "ArsenalRow") (by decide +kernel)) e (fun a ha q => absurd ha (Nat.not_lt.mpr q)), T⟩
theorem jSR_1 {b : Nat} {s : State} (hw : ∀ w ∈ lw_tbl, w.before #[Value.ref b] s = true) (hs : ∀ c ∈ flatC (Jvm.Cond.and given_1 narrow_1), c.before #[Value.ref b] s = true) : ∃ t, jSR s 1 t := by
  have hel : ∀ j : Nat, j < 4 → (Term.elem (Term.static "ArsenalRow" "MOST_DECREED" "[I") (.int (Int32.ofNat j))).eval #[Value.ref b] s none [] s = some (if (1 : Nat) = 2 then .long (Int64.ofInt (([100, 9, 60, 200] : List Int).getD j 0)) else .int (Int32.ofInt (([100, 9, 60, 200] : List Int).getD j 0))) := fun j hj => by
    rcases j with _ | _ | _ | _ | j
    · exact va_eqt (z := Int32.ofInt 100) (hs (Cond.eq (Term.elem (Term.static "ArsenalRow" "MOST_DECREED" "[I") (.int (Int32.ofNat 0))) (.int (Int32.ofInt 100))) (by decide +kernel))
    · exact va_eqt (z := Int32.ofInt 9) (hs (Cond.eq (Term.elem (Term.static "ArsenalRow" "MOST_DECREED" "[I") (.int (Int32.ofNat 1))) (.int (Int32.ofInt 9))) (by decide +kernel))
    · exact va_eqt (z := Int32.ofInt 60) (hs (Cond.eq (Term.elem (Term.static "ArsenalRow" "MOST_DECREED" "[I") (.int (Int32.ofNat 2))) (.int (Int32.ofInt 60))) (by decide +kernel))
    · exact va_eqt (z := Int32.ofInt 200) (hs (Cond.eq (Term.elem (Term.static "ArsenalRow" "MOST_DECREED" "[I") (.int (Int32.ofNat 3))) (.int (Int32.ofInt 200))) (by decide +kernel))
    · omega
  obtain ⟨t, e, T⟩ := va_Tof (args := #[Value.ref b]) (s := s) (tm := (Term.static "ArsenalRow" "MOST_DECREED" "[I")) (ty := .int) (N := 4) (A := fun q => s.heap.size ≤ q) (by decide) (hs (Cond.arrayOf (Term.static "ArsenalRow" "MOST_DECREED" "[I") .int) (by decide +kernel)) (va_eqt (z := Int32.ofNat 4) (hs (Cond.eq (Term.length (Term.static "ArsenalRow" "MOST_DECREED" "[I")) (.int (Int32.ofNat 4))) (by decide +kernel))) hel (fun a ha q => absurd ha (Nat.not_lt.mpr q))
  refine ⟨t, fun C n d ty xs h => ?_⟩
  have h2 : (some ("ArsenalRow", "MOST_DECREED", "[I", 1, ([100, 9, 60, 200] : List Int)) : Option (String × String × String × Nat × List Int)) = some (C, n, d, ty, xs) := h
  cases h2
  exact ⟨va_Zof (hw (Cond.laysStatic "ArsenalRow" "MOST_DECREED" "[I") (by decide +kernel)) (hw (Cond.initialized "ArsenalRow") (by decide +kernel)) e (fun a ha q => absurd ha (Nat.not_lt.mpr q)), T⟩
theorem jSR_2 {b : Nat} {s : State} (hw : ∀ w ∈ lw_tbl, w.before #[Value.ref b] s = true) (hs : ∀ c ∈ flatC (Jvm.Cond.and given_1 narrow_1), c.before #[Value.ref b] s = true) : ∃ t, jSR s 2 t := by
  have hel : ∀ j : Nat, j < 4 → (Term.elem (Term.static "ArsenalRow" "WITHOUT_DECREE" "[I") (.int (Int32.ofNat j))).eval #[Value.ref b] s none [] s = some (if (1 : Nat) = 2 then .long (Int64.ofInt (([0, 0, 0, 60] : List Int).getD j 0)) else .int (Int32.ofInt (([0, 0, 0, 60] : List Int).getD j 0))) := fun j hj => by
    rcases j with _ | _ | _ | _ | j
    · exact va_eqt (z := Int32.ofInt 0) (hs (Cond.eq (Term.elem (Term.static "ArsenalRow" "WITHOUT_DECREE" "[I") (.int (Int32.ofNat 0))) (.int (Int32.ofInt 0))) (by decide +kernel))
    · exact va_eqt (z := Int32.ofInt 0) (hs (Cond.eq (Term.elem (Term.static "ArsenalRow" "WITHOUT_DECREE" "[I") (.int (Int32.ofNat 1))) (.int (Int32.ofInt 0))) (by decide +kernel))
    · exact va_eqt (z := Int32.ofInt 0) (hs (Cond.eq (Term.elem (Term.static "ArsenalRow" "WITHOUT_DECREE" "[I") (.int (Int32.ofNat 2))) (.int (Int32.ofInt 0))) (by decide +kernel))
    · exact va_eqt (z := Int32.ofInt 60) (hs (Cond.eq (Term.elem (Term.static "ArsenalRow" "WITHOUT_DECREE" "[I") (.int (Int32.ofNat 3))) (.int (Int32.ofInt 60))) (by decide +kernel))
    · omega
  obtain ⟨t, e, T⟩ := va_Tof (args := #[Value.ref b]) (s := s) (tm := (Term.static "ArsenalRow" "WITHOUT_DECREE" "[I")) (ty := .int) (N := 4) (A := fun q => s.heap.size ≤ q) (by decide) (hs (Cond.arrayOf (Term.static "ArsenalRow" "WITHOUT_DECREE" "[I") .int) (by decide +kernel)) (va_eqt (z := Int32.ofNat 4) (hs (Cond.eq (Term.length (Term.static "ArsenalRow" "WITHOUT_DECREE" "[I")) (.int (Int32.ofNat 4))) (by decide +kernel))) hel (fun a ha q => absurd ha (Nat.not_lt.mpr q))
  refine ⟨t, fun C n d ty xs h => ?_⟩
  have h2 : (some ("ArsenalRow", "WITHOUT_DECREE", "[I", 1, ([0, 0, 0, 60] : List Int)) : Option (String × String × String × Nat × List Int)) = some (C, n, d, ty, xs) := h
  cases h2
  exact ⟨va_Zof (hw (Cond.laysStatic "ArsenalRow" "WITHOUT_DECREE" "[I") (by decide +kernel)) (hw (Cond.initialized "ArsenalRow") (by decide +kernel)) e (fun a ha q => absurd ha (Nat.not_lt.mpr q)), T⟩
theorem jSR_3 {b : Nat} {s : State} (hw : ∀ w ∈ lw_tbl, w.before #[Value.ref b] s = true) (hs : ∀ c ∈ flatC (Jvm.Cond.and given_1 narrow_1), c.before #[Value.ref b] s = true) : ∃ t, jSR s 3 t := by
  have hel : ∀ j : Nat, j < 6 → (Term.elem (Term.static "ArsenalRow$Matching" "WEIGHTS" "[J") (.int (Int32.ofNat j))).eval #[Value.ref b] s none [] s = some (if (2 : Nat) = 2 then .long (Int64.ofInt (([115856201, 2825761, 68921, 1681, 41, 1] : List Int).getD j 0)) else .int (Int32.ofInt (([115856201, 2825761, 68921, 1681, 41, 1] : List Int).getD j 0))) := fun j hj => by
    rcases j with _ | _ | _ | _ | _ | _ | j
    · exact va_eqtl (z := Int64.ofInt 115856201) (hs (Cond.eq (Term.elem (Term.static "ArsenalRow$Matching" "WEIGHTS" "[J") (.int (Int32.ofNat 0))) (.long (Int64.ofInt 115856201))) (by decide +kernel))
    · exact va_eqtl (z := Int64.ofInt 2825761) (hs (Cond.eq (Term.elem (Term.static "ArsenalRow$Matching" "WEIGHTS" "[J") (.int (Int32.ofNat 1))) (.long (Int64.ofInt 2825761))) (by decide +kernel))
    · exact va_eqtl (z := Int64.ofInt 68921) (hs (Cond.eq (Term.elem (Term.static "ArsenalRow$Matching" "WEIGHTS" "[J") (.int (Int32.ofNat 2))) (.long (Int64.ofInt 68921))) (by decide +kernel))
    · exact va_eqtl (z := Int64.ofInt 1681) (hs (Cond.eq (Term.elem (Term.static "ArsenalRow$Matching" "WEIGHTS" "[J") (.int (Int32.ofNat 3))) (.long (Int64.ofInt 1681))) (by decide +kernel))
    · exact va_eqtl (z := Int64.ofInt 41) (hs (Cond.eq (Term.elem (Term.static "ArsenalRow$Matching" "WEIGHTS" "[J") (.int (Int32.ofNat 4))) (.long (Int64.ofInt 41))) (by decide +kernel))
    · exact va_eqtl (z := Int64.ofInt 1) (hs (Cond.eq (Term.elem (Term.static "ArsenalRow$Matching" "WEIGHTS" "[J") (.int (Int32.ofNat 5))) (.long (Int64.ofInt 1))) (by decide +kernel))
    · omega
  obtain ⟨t, e, T⟩ := va_Tof (args := #[Value.ref b]) (s := s) (tm := (Term.static "ArsenalRow$Matching" "WEIGHTS" "[J")) (ty := .long) (N := 6) (A := fun q => s.heap.size ≤ q) (by decide) (hs (Cond.arrayOf (Term.static "ArsenalRow$Matching" "WEIGHTS" "[J") .long) (by decide +kernel)) (va_eqt (z := Int32.ofNat 6) (hs (Cond.eq (Term.length (Term.static "ArsenalRow$Matching" "WEIGHTS" "[J")) (.int (Int32.ofNat 6))) (by decide +kernel))) hel (fun a ha q => absurd ha (Nat.not_lt.mpr q))
  refine ⟨t, fun C n d ty xs h => ?_⟩
  have h2 : (some ("ArsenalRow$Matching", "WEIGHTS", "[J", 2, ([115856201, 2825761, 68921, 1681, 41, 1] : List Int)) : Option (String × String × String × Nat × List Int)) = some (C, n, d, ty, xs) := h
  cases h2
  exact ⟨va_Zof (hw (Cond.laysStatic "ArsenalRow$Matching" "WEIGHTS" "[J") (by decide +kernel)) (hw (Cond.initialized "ArsenalRow$Matching") (by decide +kernel)) e (fun a ha q => absurd ha (Nat.not_lt.mpr q)), T⟩
theorem jSR_4 {b : Nat} {s : State} (hw : ∀ w ∈ lw_tbl, w.before #[Value.ref b] s = true) (hs : ∀ c ∈ flatC (Jvm.Cond.and given_1 narrow_1), c.before #[Value.ref b] s = true) : ∃ t, jSR s 4 t := by
  have hel : ∀ j : Nat, j < 6 → (Term.elem (Term.static "ArsenalRow$Outlook" "ORDERS_OF" "[I") (.int (Int32.ofNat j))).eval #[Value.ref b] s none [] s = some (if (1 : Nat) = 2 then .long (Int64.ofInt (([1, 1, 2, 6, 24, 120] : List Int).getD j 0)) else .int (Int32.ofInt (([1, 1, 2, 6, 24, 120] : List Int).getD j 0))) := fun j hj => by
    rcases j with _ | _ | _ | _ | _ | _ | j
    · exact va_eqt (z := Int32.ofInt 1) (hs (Cond.eq (Term.elem (Term.static "ArsenalRow$Outlook" "ORDERS_OF" "[I") (.int (Int32.ofNat 0))) (.int (Int32.ofInt 1))) (by decide +kernel))
    · exact va_eqt (z := Int32.ofInt 1) (hs (Cond.eq (Term.elem (Term.static "ArsenalRow$Outlook" "ORDERS_OF" "[I") (.int (Int32.ofNat 1))) (.int (Int32.ofInt 1))) (by decide +kernel))
    · exact va_eqt (z := Int32.ofInt 2) (hs (Cond.eq (Term.elem (Term.static "ArsenalRow$Outlook" "ORDERS_OF" "[I") (.int (Int32.ofNat 2))) (.int (Int32.ofInt 2))) (by decide +kernel))
    · exact va_eqt (z := Int32.ofInt 6) (hs (Cond.eq (Term.elem (Term.static "ArsenalRow$Outlook" "ORDERS_OF" "[I") (.int (Int32.ofNat 3))) (.int (Int32.ofInt 6))) (by decide +kernel))
    · exact va_eqt (z := Int32.ofInt 24) (hs (Cond.eq (Term.elem (Term.static "ArsenalRow$Outlook" "ORDERS_OF" "[I") (.int (Int32.ofNat 4))) (.int (Int32.ofInt 24))) (by decide +kernel))
    · exact va_eqt (z := Int32.ofInt 120) (hs (Cond.eq (Term.elem (Term.static "ArsenalRow$Outlook" "ORDERS_OF" "[I") (.int (Int32.ofNat 5))) (.int (Int32.ofInt 120))) (by decide +kernel))
    · omega
  obtain ⟨t, e, T⟩ := va_Tof (args := #[Value.ref b]) (s := s) (tm := (Term.static "ArsenalRow$Outlook" "ORDERS_OF" "[I")) (ty := .int) (N := 6) (A := fun q => s.heap.size ≤ q) (by decide) (hs (Cond.arrayOf (Term.static "ArsenalRow$Outlook" "ORDERS_OF" "[I") .int) (by decide +kernel)) (va_eqt (z := Int32.ofNat 6) (hs (Cond.eq (Term.length (Term.static "ArsenalRow$Outlook" "ORDERS_OF" "[I")) (.int (Int32.ofNat 6))) (by decide +kernel))) hel (fun a ha q => absurd ha (Nat.not_lt.mpr q))
  refine ⟨t, fun C n d ty xs h => ?_⟩
  have h2 : (some ("ArsenalRow$Outlook", "ORDERS_OF", "[I", 1, ([1, 1, 2, 6, 24, 120] : List Int)) : Option (String × String × String × Nat × List Int)) = some (C, n, d, ty, xs) := h
  cases h2
  exact ⟨va_Zof (hw (Cond.laysStatic "ArsenalRow$Outlook" "ORDERS_OF" "[I") (by decide +kernel)) (hw (Cond.initialized "ArsenalRow$Outlook") (by decide +kernel)) e (fun a ha q => absurd ha (Nat.not_lt.mpr q)), T⟩
theorem jE_of {b L : Nat} {xs : Nat → Int32} {s : State} (hL : L ≤ 3072) (hw : ∀ w ∈ lw_tbl, w.before #[Value.ref b] s = true) (hX : va_X b L xs s s.heap) (hg : (Jvm.Cond.and given_1 narrow_1).before #[Value.ref b] s = true) : ∃ E : JE, jEx E s ∧ E.2.2.1 = s.heap ∧ E.2.2.2.1 (-2) = b ∧ E.2.2.2.2.1 ≤ 3072 := by
  have hts : ∀ w ∈ jG, w.before #[Value.ref b] s = true := fun w h => hw w (List.mem_filter.mp h).1
  have hs := flat_of_before _ hg
  obtain ⟨D, hD⟩ := jE_cls hts
  obtain ⟨c1, k1, d1, f1, g1, h1⟩ := Cond.arrayClass_spec (hts _ jw_int)
  obtain ⟨c2, k2, d2, f2, g2, h2⟩ := Cond.arrayClass_spec (hts _ jw_long)
  obtain ⟨c3, k3, d3, f3, g3, h3⟩ := Cond.arrayClass_spec (hts _ jw_bool)
  have a4 : va_AO "ArsenalRow$Hull" s := va_AO.of (hw (Cond.arrayOver (.object "ArsenalRow$Hull")) (by decide +kernel))
  have a5 : jAO s := hw (Cond.arrayOver (.array .int)) (by decide +kernel)
  obtain ⟨d4, c4, k4, u4, -, g4, h4, f4⟩ := Cond.arrayOver_spec a4
  obtain ⟨d5, c5, k5, u5, -, g5, h5, f5⟩ := jAO_spec a5
  obtain ⟨t0, r0⟩ := jSR_0 hw hs
  obtain ⟨t1, r1⟩ := jSR_1 hw hs
  obtain ⟨t2, r2⟩ := jSR_2 hw hs
  obtain ⟨t3, r3⟩ := jSR_3 hw hs
  obtain ⟨t4, r4⟩ := jSR_4 hw hs
  refine ⟨((fun c => (D c).1, fun c => (D c).2), jCA c1 c2 c3 c4 c5, s.heap, jAD b t0 t1 t2 t3 t4, L, fun j => (xs j).toInt), ⟨⟨hD, fun k q hq => ?_⟩, a4, a5, fun p hp o i y g h => va_Nw.of rfl (hw _ (List.mem_of_getElem? h)), fun p hp o i a b c g h => va_Nw.of rfl (hw _ (List.mem_of_getElem? h)), fun k C n d t xs hk => ?_, ?_, fun j => jrng32 _, hL⟩, rfl, rfl, hL⟩
  · rcases k with _ | _ | _ | _ | _ | k
    · cases hq; exact ⟨fun n z => ⟨fun k h => (by cases h), k1, g1, d1, h1⟩, f1⟩
    · cases hq; exact ⟨fun n z => ⟨fun k h => (by cases h), k2, g2, d2, h2⟩, f2⟩
    · cases hq; exact ⟨fun n z => ⟨fun k h => (by cases h), k3, g3, d3, h3⟩, f3⟩
    · cases hq; exact ⟨fun n z => ⟨fun k h => (by cases h), k4, g4, d4, h4⟩, k4, d4, g4, h4, u4, f4⟩
    · cases hq; exact ⟨fun n z => ⟨fun k h => (by cases h), k5, g5, d5, h5⟩, f5⟩
    · exact absurd (List.getElem?_eq_some_iff.mp hq).1 (by show ¬ (k + 5 < 5); omega)
  · have hk5 : k < 5 := (List.getElem?_eq_some_iff.mp hk).1
    rcases k with _ | _ | _ | _ | _ | k
    · exact r0 C n d t xs hk
    · exact r1 C n d t xs hk
    · exact r2 C n d t xs hk
    · exact r3 C n d t xs hk
    · exact r4 C n d t xs hk
    · omega
  · have e : (fun j => Int32.ofInt (xs j).toInt) = xs := funext fun j => Int32.ofInt_toInt (xs j)
    show va_X b L (fun j => Int32.ofInt (xs j).toInt) s s.heap
    rw [e]
    exact hX
theorem jSZ_top : jSZ 229 ≤ 7302250 := by decide +kernel
set_option maxRecDepth 20000 in
theorem jM_law : jM 179 = (x, code, 4, some .boolean, 10, 380, 229) := rfl
theorem jret_law : ret = some .boolean := rfl
set_option maxHeartbeats 4000000 in
theorem whole_start {p : Program} {e : Env} {s : State} {m : MethodId} {below : List Frame} {meth : Method} {c : Code} (l : Launch) (hflags : l.flags = flags0) {b L : Nat} {xs : Nat → Int32} (hL : L ≤ 3072) (C0 : lw_At p s m meth c b L xs) : W p l e room_1 s m #[Value.ref b] below meth c s.heap [] 0 0 (lw_Z below #[Value.ref b] s) (entryFrame m ([Value.ref b] : List Value).toArray 4) := by
  obtain ⟨hx, hcode, hret, hml, hown, hw, hX, hbl, hlocks, hg, hname⟩ := C0
  obtain ⟨E, hE, e1, e2, e3⟩ := jE_of hL hw hX hg
  have hb0 : jb0 E = s.heap.size := by unfold jb0; rw [e1]
  have ev : jtv E (.inr (.inr (.inl (-2)))) = Value.ref b := by rw [jtv_ext (by decide), e2]
  have C : jAt E p room_1 s m #[Value.ref b] meth c 179 0 229 := by
    unfold jAt
    rw [jM_law]
    refine ⟨hx, hcode, hml, hown, fun w h => hw w (List.mem_filter.mp h).1, hE, by decide +kernel, by decide +kernel, fun n hn => ?_, Nat.le_refl _, hname⟩
    have h1 := jsz_mono hn (Nat.le_refl 229)
    have h2 := jSZ_top
    exact ⟨by show n - 0 ≤ 600000; omega, by show jSZ n - jSZ 0 ≤ 7302250; omega⟩
  have hR : jRet E p l e room_1 s m #[Value.ref b] below meth c (lw_Z below #[Value.ref b] s) 179 0 229 jlRT := by
    refine ⟨fun pc ls x n r h hd _ hRT lsS H locs hS => ?_, fun pc ls x n r h _ ht _ => ?_, fun pc ls n r h _ ht _ => ?_⟩
    · have hx1 : x = 1 := by
        have := Option.some.inj hRT
        exact Sum.inl.inj this
      subst hx1
      rw [jM_law] at hd
      have hn : n ≤ 229 := hS.2.2.2.2.2.2.2
      have h1 := jsz_mono hn (Nat.le_refl 229)
      have h2 := jSZ_top
      refine va_forget (fun q hq => by rw [← hb0]; exact hS.2.2.2.2.2.1 q hq) (W.widen (k := 600000) (n := 7302250) (by omega) (by omega) ?_)
      exact lw_ret hx hcode hret hlocks hd
    · rw [jM_law] at ht; cases ht
    · rw [jM_law] at ht; cases ht
  have k := law_entry (E := E) (l := l) e3 p e room_1 s m #[Value.ref b] below meth c _ C hR
  have hav : (jarg [(.inr (.inr (.inl (-2))) : JV)]).length ≤ 4 := by decide
  obtain ⟨g1, g2, g3⟩ := jloc_S (E := E) (av := [.inr (.inr (.inl (-2)))]) (nL := 4) hav (fun v hv => by rw [List.mem_singleton.mp hv]; exact trivial)
  rw [List.map_singleton, ev] at g1
  rw [lg_entry_eq]
  have hH : jHp E 0 jRn0 (fun _ _ => 0) s.heap := by
    refine ⟨hb0.symm, fun q _ => by rw [e1], fun i hi => absurd hi (Nat.not_lt_zero _), fun i k => ?_⟩
    exact jbd0 i k
  have kk := k _ s.heap [] ⟨by rw [jM_law]; exact g1, by rw [jM_law]; exact g2, g3, (fun v hv => by cases hv), hH, (fun q hq => by cases hq), Nat.le_refl _, by decide⟩
  rw [Nat.sub_self, Nat.sub_self] at kk
  exact kk
set_option maxHeartbeats 4000000 in
theorem lw_walk (l : Launch) (hflags : l.flags = flags0) (b : Addr) (xs : List Int32) : MetFree l x (headSpec (Jvm.Cond.code x code maxLocals ret :: tables_1) room_1) (lw_P b xs) (fun _ _ _ _ _ => True) lw_Q := by
  refine MetFree.of_bodyS (code := code) (maxLocals := maxLocals) (ret := ret) (by decide) ?_ ?_
  · intro args s m h hn
    obtain ⟨meth, c, h1, h2, h3, h4, h5, h6, -, -⟩ := Cond.code_spec hn (atoms_spec (ws := Jvm.Cond.code x code maxLocals ret :: tables_1) h _ List.mem_cons_self)
    exact ⟨meth, c, h1, h2, h3, h4, h5, h6⟩
  · intro p e s m args below meth c s₁ B hml0 hP _
    obtain ⟨rfl, hx, hbd, hgv⟩ := hP
    obtain ⟨scr, harrAt, hlist, hof, hsmall⟩ := hx
    obtain ⟨hcb, hkn, -, -⟩ := State.arrayAt?_spec harrAt
    have hown : s.vm.findClass R_law = some m.cls := findClass_of_methodNamed B.named
    have hts0 : ∀ c ∈ (Jvm.Cond.code x code maxLocals ret :: tables_1), c.before #[Value.ref b] s = true := atoms_spec (ws := Jvm.Cond.code x code maxLocals ret :: tables_1) B.pre
    have hts : ∀ w ∈ lw_tbl, w.before #[Value.ref b] s = true := k2_hts_sels lw_privs (fun w hw => hts0 w (List.mem_cons_of_mem _ hw)) lw_privs_ok
    have hml : c.maxLocals = 4 := B.maxLocals_eq (hts0 _ List.mem_cons_self)
    have X₀ : Stand p l e room_1 s m #[Value.ref b] below meth c s₁ [] 0 0 := Stand.of_body B
    have hh0 : s₁.heap = s.heap := by rw [B.state]; rfl
    have hsz : scr.slots.size = xs.length := by rw [← Array.length_toList, hlist, List.length_map]
    have hval : ∀ j : Nat, j < xs.length → scr.slots[j]? = some (.int (xs.getD j 0)) := fun j hj => by
      rw [← Array.getElem?_toList, hlist]
      simp [hj]
    have hbl : b < s.heap.size := (Array.getElem?_eq_some_iff.mp hcb).1
    have hX : va_X b xs.length (fun j => xs.getD j 0) s s.heap := ⟨scr, hcb, hof, hkn, hsz, hval⟩
    have K : W p l e room_1 s m #[Value.ref b] below meth c s₁.heap [] 0 0 (lw_Z below #[Value.ref b] s) (entryFrame m ([Value.ref b] : List Value).toArray 4) := by
      rw [hh0]
      exact whole_start l hflags hbd ⟨B.exec, B.bytes, B.returns, hml, hown, hts, hX, hbl, B.notSynchronized, hgv, (name_of_methodNamed B.named B.method).1⟩
    obtain ⟨t, a1, o, b1, b2, b3⟩ := K s₁ rfl X₀
    exact ⟨t, o, a1, b1, b2, b3⟩
theorem lw_pre_spec {args : Array Value} {s : State} (h : (Jvm.Cond.and given_1 narrow_1).before args s = true) (hr : rest_1_c.before args s = true) : ∃ (b : Addr) (xs : List Int32), lw_P b xs args s := by
  have hs := flat_of_before _ h
  have hq := flat_of_before _ hr
  have hc : (Cond.count 1).before args s = true := hs _ (by decide +kernel)
  have harr : (Cond.arrayOf (.arg 0) .int).before args s = true := hs _ (by decide +kernel)
  have hle : (Cond.le (.length (.arg 0)) (.int 3072)).before args s = true := hs _ (by decide +kernel)
  have hlen : (Cond.isInt (.length (.arg 0))).before args s = true := hq _ (by decide +kernel)
  have hall : (Cond.all (.arg 0) (.isInt (.elem (.arg 0) (.index 0)))).before args s = true := hq _ (by decide +kernel)
  obtain ⟨b, xs, hb, hx⟩ := State.ints_of_pre rfl harr hlen hall
  have hsm : xs.length < 2 ^ 31 := hx.choose_spec.2.2.2
  have hev : (Term.length (.arg 0)).eval args s none [] s = some (.int xs.length.toInt32) := hx.length_eval hb
  have hv := Cond.le_ints hev (show (Term.int 3072).eval args s none [] s = some (.int 3072) from rfl)
  have hd : xs.length.toInt32 ≤ 3072 := by
    simpa [Cond.before, Cond.holds, hv] using hle
  have hN : xs.length ≤ 3072 := (Int32.ofNat_le_ofNat hsm (by decide)).mp (show Int32.ofNat xs.length ≤ Int32.ofNat 3072 from hd)
  exact ⟨b, xs, Cond.one_arg hc (show args[0]? = some (.ref b) from hb), hx, hN, h⟩
theorem lw_comes (l : Launch) (hflags : l.flags = flags0) : Comes l x (Jvm.Cond.code x code maxLocals ret :: tables_1) room_1 (fun tb e args s => Calls_1 tb e args s ∧ rest_1 tb e args s ∧ Pre_1 tb e args s)
    (fun _ _ args s o t => lw_Q args s o t) := by
  intro p e ha hc hk s m args below hf hfit hheap happ hpre
  obtain ⟨b, xs, hP⟩ := lw_pre_spec hpre.2.2 hpre.2.1
  obtain ⟨k, o, h1, h2, h3, hQ⟩ := lw_walk l hflags b xs p e ha hc hk s m args below hf ((Spec.applies_iff_loose hf).mp happ).1 hP trivial
  exact ⟨k, o, h1, h2, h3, hQ⟩
theorem lw_frame {s t : State} {o : Outcome} {args : Array Value} (h : Framed s o t [] 600000 7302250) :
    Framed s o t (fieldLocs frame_1_writes args s ++ arrayLocs frame_1_arrays args s ++ staticLocs frame_1_statics s) 600000 7302250 := h
theorem lw_limb (L : Cond) (hL : ∀ (args : Array Value) (s t : State), L.after args s (.returned (some (.int 1))) t = true) :
    ArmFor flags0 classFile x code maxLocals ret World_1 tables_1 room_1 Calls_1 rest_1 Pre_1
      (fun tb e a s o t => postC L tb e a s o t ∧ Framed s o t (fieldLocs frame_1_writes a s ++ arrayLocs frame_1_arrays a s ++ staticLocs frame_1_statics s) 600000 7302250) := by
  intro l hflags _ _ p e ha hc hk s m args below hf hfit hheap happ hpre
  obtain ⟨k, o, h1, h2, h3, rfl, hF⟩ := lw_comes l hflags p e ha hc hk s m args below hf hfit hheap happ hpre
  exact ⟨k, _, h1, h2, h3, hL args s _, lw_frame hF⟩
theorem i_vc : Claimed_1_1 ∧ Claimed_1_2 := ⟨lw_limb limb_1_1 (fun args s t => by simp [limb_1_1, Cond.after, Cond.holds, Cond.value]), lw_limb limb_1_2 (fun args s t => Cond.after_iff.mpr (by
  first | (rw [show limb_1_2 = Cond.eq .result (.int 1) from rfl, Cond.eq_ints (x := 1) (y := 1) rfl rfl]; simp; done) | (simp [limb_1_2, Cond.value, Term.eval]; done)))⟩
