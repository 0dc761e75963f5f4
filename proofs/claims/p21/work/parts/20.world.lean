/-! ===== THE HEAP OF THE MACHINE, AND THE PICTURE ===== -/
def jb0 (E : JE) : Nat := E.2.2.1.size
def jad (E : JE) (i : Int) : Nat := if 0 ≤ i then jb0 E + i.toNat else E.2.2.2.1 i
def jtv (E : JE) (v : JV) : Value := match v with
  | .inl x => .int (Int32.ofInt x)
  | .inr (.inl x) => .long (Int64.ofInt x)
  | .inr (.inr (.inl i)) => if i = -1 then .null else .ref (jad E i)
  | .inr (.inr (.inr _)) => .null
def jsv (E : JE) (t : Nat) (x y : Int) : Value := if t = 2 then .long (Int64.ofInt x) else if t = 4 ∨ t = 5 then jtv E (.inr (.inr (.inl y))) else .int (Int32.ofInt x)
/-- object i of the picture lies in the heap -/
def jO (E : JE) (r h : JH) (H : Heap) (i : Nat) : Prop :=
  ((jk i).1 = 0 → ∃ q : vw_C, vwCl[(jk i).2]? = some q ∧ t_OB (jb0 E + i) (E.1.1 (jk i).2) q.2.2 (E.1.2 (jk i).2) H (fun k => jsv E ((jFT.getD (jk i).2 []).getD k 0) (h i k) (r i k))) ∧
  ((jk i).1 ≠ 0 → H[jb0 E + i]? = some (arrV (E.2.1 (jk i).1) (jk i).2 (fun j => jsv E (jk i).1 (h i j) (r i j))))
def jHp (E : JE) (n : Nat) (r h : JH) (H : Heap) : Prop :=
  H.size = jb0 E + n ∧ (∀ q : Nat, q < jb0 E → H[q]? = E.2.2.1[q]?) ∧ (∀ i : Nat, i < n → jO E r h H i) ∧ ∀ i k : Int, jbd i k (h i k)
def jA (E : JE) : Nat → Prop := fun q => jb0 E ≤ q
def jtys (E : JE) : List (ClassId × FieldType) := [(E.2.1 1, .int), (E.2.1 2, .long), (E.2.1 3, .boolean), (E.2.1 4, .object "ArsenalRow$Hull"), (E.2.1 5, .array .int)]
def jAO (U : State) : Prop := (Cond.arrayOver (.array .int)).before #[] U = true
/-- what holds of the launch's tables, static rows and the script -/
def jEx (E : JE) (U : State) : Prop :=
  va_K E.1 vwCl (jtys E) U ∧ va_AO "ArsenalRow$Hull" U ∧ jAO U ∧
  (∀ p ∈ jNP, ∀ (o : String) (i : Nat) (y : MethodName) (g : String), lw_tbl[p]? = some (.methodLinkNest o i y g) → va_Nw (.methodLinkNest o i y g) U) ∧
  (∀ p ∈ jNP, ∀ (o : String) (i : Nat) (a b c g : String), lw_tbl[p]? = some (.fieldLinkNest o i a b c g) → va_Nw (.fieldLinkNest o i a b c g) U) ∧
  (∀ (k : Nat) (C n d : String) (t : Nat) (xs : List Int), jST[k]? = some (C, n, d, t, xs) → va_Z C n d (.ref (E.2.2.2.1 (-3 - (k : Int)))) (jA E) U E.2.2.1 ∧
    va_T (if t = 2 then .long else .int) (E.2.2.2.1 (-3 - (k : Int))) xs.length (fun j => if t = 2 then .long (Int64.ofInt (xs.getD j 0)) else .int (Int32.ofInt (xs.getD j 0))) (jA E) U E.2.2.1) ∧
  va_X (E.2.2.2.1 (-2)) E.2.2.2.2.1 (fun j => Int32.ofInt (E.2.2.2.2.2 j)) U E.2.2.1 ∧ (∀ j, jR32 (E.2.2.2.2.2 j)) ∧ E.2.2.2.2.1 ≤ 3072
theorem jAO_spec {U : State} (h : jAO U) : ∃ comp c k, U.vm.findClass (FieldType.array .int).toString = some comp ∧ (U.vm.classes.findIdx? fun (x : Class) => match x.kind with | .array component _ => component == comp | _ => false) = some c ∧ U.vm.classes[c]? = some k ∧ k.kind = .array comp (.array .int) ∧ U.vm.findClass ("[" ++ (FieldType.array .int).toString) = some c := by
  have h : (Cond.arrayOver (.array .int)).holds #[] U none U [] = true := h
  simp only [Cond.holds, Cond.value, beq_iff_eq] at h
  cases hc : U.vm.findClass (FieldType.array .int).toString with
  | none => simp [hc] at h
  | some comp =>
    simp only [hc, Option.bind_some, Option.bind_eq_some_iff, Option.map_eq_some_iff] at h
    obtain ⟨c, hi, k, hk, hb⟩ := h
    obtain ⟨hlt, hp, -⟩ := Array.findIdx?_eq_some_iff_getElem.mp hi
    have hk2 : U.vm.classes[c]? = some U.vm.classes[c] := Array.getElem?_eq_getElem hlt
    have e : k = U.vm.classes[c] := Option.some.inj (hk.symm.trans hk2)
    cases hkind : k.kind with
    | array component ty =>
      rw [hkind] at hb
      simp only [Bool.and_eq_true, decide_eq_true_eq] at hb
      rw [← e, hkind] at hp
      simp only [beq_iff_eq] at hp
      refine ⟨comp, c, k, rfl, hi, hk, ?_, hb.2⟩
      rw [hkind, hb.1, hp]
    | _ => rw [hkind] at hb; simp at hb
theorem jAO_moved {u U : State} (hvm : u.vm.Alike U.vm) (h : jAO u) : jAO U := by
  obtain ⟨comp, c, k, h1, h2, h3, h4, h5⟩ := jAO_spec h
  obtain ⟨k', hk', he⟩ := hvm.2.2 _ _ h3
  have h2a := (va_idx_bare u.vm comp).trans h2
  have h2b := (va_idx_bare U.vm comp).symm
  have hi : (U.vm.classes.findIdx? fun (x : Class) => match x.kind with | .array component _ => component == comp | _ => false) = some c := by
    refine h2b.trans ?_
    first | rw [← hvm.bare_eq] | rw [hvm.bare_eq]
    exact h2a
  have hkind : k'.kind = .array comp (.array .int) := by rw [he]; exact h4
  have f1 : U.vm.findClass (FieldType.array .int).toString = some comp := by rw [hvm.findClass]; exact h1
  have f2 : U.vm.findClass ("[" ++ (FieldType.array .int).toString) = some c := by rw [hvm.findClass]; exact h5
  unfold jAO Cond.before Cond.holds
  simp only [Cond.value]
  rw [f1, Option.bind_some]
  refine (congrArg (fun o : Option Nat => (o.bind (fun c => (U.vm.classes[c]?).map fun (k : Class) => match k.kind with | .array _ ty => decide (ty = FieldType.array .int) && decide (U.vm.findClass ("[" ++ (FieldType.array .int).toString) = some c) | _ => false) == some true)) hi).trans ?_
  simp [hk', hkind, f2]
theorem jEx_warm {E : JE} {s U : State} (hW : s.WarmedH U.vm) (h : jEx E s) : jEx E U := by
  obtain ⟨h1, h2, h3, h4, h5, h6, h7, h8, h9⟩ := h
  exact ⟨h1.moved hW.alike, h2.moved hW.alike, jAO_moved hW.alike h3, fun p hp o i y g hw => va_Nw.warmM hW (h4 p hp o i y g hw), fun p hp o i a b c g hw => va_Nw.warmF hW (h5 p hp o i a b c g hw), fun k C n d t xs hk => ⟨(h6 k C n d t xs hk).1.moved hW.alike, (h6 k C n d t xs hk).2.moved hW.alike⟩, h7.moved hW.alike, h8, h9⟩
theorem jEx_same {E : JE} {u U : State} (hvm : u.vm = U.vm) (h : jEx E u) : jEx E U := by
  have hA : u.vm.Alike U.vm := hvm ▸ Vm.Alike.refl u.vm
  obtain ⟨h1, h2, h3, h4, h5, h6, h7, h8, h9⟩ := h
  exact ⟨h1.moved hA, h2.moved hA, jAO_moved hA h3, fun p hp o i y g hw => va_Nw.same rfl hvm (h4 p hp o i y g hw), fun p hp o i a b c g hw => va_Nw.same rfl hvm (h5 p hp o i a b c g hw), fun k C n d t xs hk => ⟨(h6 k C n d t xs hk).1.moved hA, (h6 k C n d t xs hk).2.moved hA⟩, h7.moved hA, h8, h9⟩
/-! numbers -/
theorem j32_eq (x : Int) : jw32 x = x.bmod 4294967296 := by
  simp only [jw32, Int.bmod]
  split <;> omega
theorem j64_eq (x : Int) : jw64 x = x.bmod 18446744073709551616 := by
  simp only [jw64, Int.bmod]
  split <;> omega
theorem j32_r (x : Int) : jR32 (jw32 x) := by simp only [jR32, jw32]; omega
theorem j64_r (x : Int) : jR64 (jw64 x) := by simp only [jR64, jw64]; omega
theorem j32_id {x : Int} (h : jR32 x) : jw32 x = x := by simp only [jR32, jw32] at *; omega
theorem j64_id {x : Int} (h : jR64 x) : jw64 x = x := by simp only [jR64, jw64] at *; omega
theorem jof32 (x : Int) : Int32.ofInt (jw32 x) = Int32.ofInt x := by
  rw [Int32.ofInt_eq_iff_bmod_eq_toInt, Int32.toInt_ofInt, j32_eq]
  exact Int.bmod_bmod
theorem jof64 (x : Int) : Int64.ofInt (jw64 x) = Int64.ofInt x := by
  rw [Int64.ofInt_eq_iff_bmod_eq_toInt, Int64.toInt_ofInt, j64_eq]
  exact Int.bmod_bmod
theorem jto32 {x : Int} (h : jR32 x) : (Int32.ofInt x).toInt = x := Int32.toInt_ofInt_of_le (by have := h.1; omega) (by have := h.2; omega)
theorem jto64 {x : Int} (h : jR64 x) : (Int64.ofInt x).toInt = x := Int64.toInt_ofInt_of_le (by have := h.1; omega) (by have := h.2; omega)
theorem jrng32 (x : Int32) : jR32 x.toInt := ⟨by have := x.le_toInt; omega, by have := x.toInt_lt; omega⟩
theorem jrng64 (x : Int64) : jR64 x.toInt := ⟨by have := x.le_toInt; omega, by have := x.toInt_lt; omega⟩
theorem jlt32 {x y : Int} (hx : jR32 x) (hy : jR32 y) : Int32.ofInt x < Int32.ofInt y ↔ x < y := by rw [Int32.lt_iff_toInt_lt, jto32 hx, jto32 hy]
theorem jeq32 {x y : Int} (hx : jR32 x) (hy : jR32 y) : Int32.ofInt x = Int32.ofInt y ↔ x = y := by rw [← Int32.toInt_inj, jto32 hx, jto32 hy]
theorem jle32 {x y : Int} (hx : jR32 x) (hy : jR32 y) : Int32.ofInt x ≤ Int32.ofInt y ↔ x ≤ y := by rw [Int32.le_iff_toInt_le, jto32 hx, jto32 hy]
theorem jz32 {x : Int} (hx : jR32 x) : Int32.ofInt x = 0 ↔ x = 0 := jeq32 (y := 0) hx ⟨by omega, by omega⟩
theorem jlt64 {x y : Int} (hx : jR64 x) (hy : jR64 y) : Int64.ofInt x < Int64.ofInt y ↔ x < y := by rw [Int64.lt_iff_toInt_lt, jto64 hx, jto64 hy]
theorem jeq64 {x y : Int} (hx : jR64 x) (hy : jR64 y) : Int64.ofInt x = Int64.ofInt y ↔ x = y := by rw [← Int64.toInt_inj, jto64 hx, jto64 hy]
theorem jz64 {x : Int} (hx : jR64 x) : Int64.ofInt x = 0 ↔ x = 0 := jeq64 (y := 0) hx ⟨by omega, by omega⟩
theorem jclamp {k : Int} (h0 : 0 ≤ k) (hk : jR32 k) : (Int32.ofInt k).toNatClampNeg = k.toNat := by
  show (Int32.ofInt k).toInt.toNat = _
  rw [jto32 hk]
theorem jdiv32 {x y : Int} (hx : jR32 x) (hy : jR32 y) : Int32.ofInt (x.tdiv y) = Int32.ofInt x / Int32.ofInt y :=
  Int32.ofInt_tdiv (by have := hx.1; show (-2147483648 : Int) ≤ x; omega) (by have := hx.2; show x ≤ (2147483647 : Int); omega) (by have := hy.1; show (-2147483648 : Int) ≤ y; omega) (by have := hy.2; show y ≤ (2147483647 : Int); omega)
theorem jdiv64 {x y : Int} (hx : jR64 x) (hy : jR64 y) : Int64.ofInt (x.tdiv y) = Int64.ofInt x / Int64.ofInt y :=
  Int64.ofInt_tdiv (by have := hx.1; show (-9223372036854775808 : Int) ≤ x; omega) (by have := hx.2; show x ≤ (9223372036854775807 : Int); omega) (by have := hy.1; show (-9223372036854775808 : Int) ≤ y; omega) (by have := hy.2; show y ≤ (9223372036854775807 : Int); omega)
theorem jrem32 {x y : Int} (hx : jR32 x) (hy : jR32 y) : Int32.ofInt (x.tmod y) = Int32.ofInt x - Int32.ofInt x / Int32.ofInt y * Int32.ofInt y := by
  rw [← jdiv32 hx hy, ← Int32.ofInt_mul, ← Int32.ofInt_sub, Int.tmod_def, Int.mul_comm y]
theorem jrem64 {x y : Int} (hx : jR64 x) (hy : jR64 y) : Int64.ofInt (x.tmod y) = Int64.ofInt x - Int64.ofInt x / Int64.ofInt y * Int64.ofInt y := by
  rw [← jdiv64 hx hy, ← Int64.ofInt_mul, ← Int64.ofInt_sub, Int.tmod_def, Int.mul_comm y]
theorem jtmr {x y a b : Int} (ha : a ≤ 0) (hb : 0 ≤ b) (h1 : a ≤ x) (h2 : x ≤ b) : a ≤ x.tmod y ∧ x.tmod y ≤ b := by
  rcases Int.le_total 0 x with h | h
  · obtain ⟨n, rfl⟩ := Int.eq_ofNat_of_zero_le h
    have h3 : (((n : Int)).tmod y).natAbs ≤ n := by rw [Int.natAbs_tmod]; exact Nat.mod_le _ _
    have h4 := Int.tmod_nonneg y h
    omega
  · obtain ⟨n, hn⟩ := Int.eq_ofNat_of_zero_le (show 0 ≤ -x by omega)
    have h3 : (x.tmod y).natAbs ≤ x.natAbs := by rw [Int.natAbs_tmod]; exact Nat.mod_le _ _
    have h4 : 0 ≤ (-x).tmod y := Int.tmod_nonneg y (by omega)
    rw [Int.neg_tmod] at h4
    omega
