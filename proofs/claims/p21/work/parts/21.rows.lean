/-! ===== ROWS: an instruction of the machine, by the picture ===== -/
def jG : List Cond := lw_tbl.filter goodWord
theorem jG_of {p : Nat} {w : Cond} (h : jcw p w = true) : w ∈ jG := by
  simp only [jcw, Bool.and_eq_true, decide_eq_true_eq] at h
  exact List.mem_filter.mpr ⟨List.mem_of_getElem? h.1, h.2⟩
def jls (E : JE) : Nat → List JV → List (Nat × Value)
  | _, [] => []
  | i, .inr (.inr (.inr _)) :: vs => jls E (i + 1) vs
  | i, .inl x :: vs => (i, jtv E (.inl x)) :: jls E (i + 1) vs
  | i, .inr (.inl x) :: vs => (i, jtv E (.inr (.inl x))) :: jls E (i + 1) vs
  | i, .inr (.inr (.inl x)) :: vs => (i, jtv E (.inr (.inr (.inl x)))) :: jls E (i + 1) vs
def jAt (E : JE) (p : Program) (R : Room) (s : State) (m : MethodId) (args : Array Value) (meth : Method) (c : Code) (mm n0 n1 : Nat) : Prop :=
  p.tables.exec = Jvm.exec ∧ c.code = (jM mm).2.1 ∧ c.maxLocals = (jM mm).2.2.1 ∧ s.vm.findClass (jM mm).1.cls = some m.cls ∧ (∀ w ∈ jG, w.before args s = true) ∧ jEx E s ∧
  (jM mm).2.2.2.2.1 ≤ R.frames ∧ (jM mm).2.2.2.2.2.1 ≤ R.locals ∧ (∀ n, n ≤ n1 → n - n0 ≤ R.cells ∧ jSZ n - jSZ n0 ≤ R.slots) ∧ n1 ≤ 229 ∧ meth.name = (jM mm).1.name
def jS (E : JE) (mm n0 n1 : Nat) (lsS : Array Slot) (H : Heap) (locs : List Loc) (ls st : List JV) (n : Nat) (r h : JH) : Prop :=
  lv_has lsS (jM mm).2.2.1 (jls E 0 ls) ∧ ls.length = (jM mm).2.2.1 ∧ (∀ v ∈ ls, jok v) ∧ (∀ v ∈ st, jok v) ∧ jHp E n r h H ∧ (∀ q ∈ locs, jb0 E ≤ q.base) ∧ n0 ≤ n ∧ n ≤ n1
def jWj (E : JE) (p : Program) (l : Launch) (e : Env) (R : Room) (s : State) (m : MethodId) (args : Array Value) (below : List Frame) (meth : Method) (c : Code) (Q : State → Prop) (mm n0 n1 : Nat) : JN :=
  fun pc ls st n r h => ∀ (lsS : Array Slot) (H : Heap) (locs : List Loc), jS E mm n0 n1 lsS H locs ls st n r h → W p l e R s m args below meth c H locs (n - n0) (jSZ n - jSZ n0) Q (F0 m pc lsS (st.map (jtv E)))
theorem jS_st {E : JE} {mm n0 n1 : Nat} {lsS : Array Slot} {H : Heap} {locs : List Loc} {ls st st' : List JV} {n : Nat} {r h : JH} (hS : jS E mm n0 n1 lsS H locs ls st n r h) (h' : ∀ v ∈ st', jok v) : jS E mm n0 n1 lsS H locs ls st' n r h :=
  ⟨hS.1, hS.2.1, hS.2.2.1, h', hS.2.2.2.2⟩
theorem jls_mem {E : JE} : ∀ (ls : List JV) (i j : Nat) (w : Value), (j, w) ∈ jls E i ls ↔ ∃ (k : Nat) (v : JV), ls[k]? = some v ∧ (∀ z, v ≠ .inr (.inr (.inr z))) ∧ j = i + k ∧ w = jtv E v
  | [], i, j, w => by simp [jls]
  | .inr (.inr (.inr z)) :: vs, i, j, w => by
    rw [jls, jls_mem vs (i + 1) j w]
    constructor
    · rintro ⟨k, v, h1, h2, h3, h4⟩
      exact ⟨k + 1, v, by simpa using h1, h2, by omega, h4⟩
    · rintro ⟨k, v, h1, h2, h3, h4⟩
      cases k with
      | zero => simp at h1; exact absurd h1.symm (h2 z)
      | succ k => exact ⟨k, v, by simpa using h1, h2, by omega, h4⟩
  | .inl x :: vs, i, j, w => by
    rw [jls, List.mem_cons, jls_mem vs (i + 1) j w]
    constructor
    · rintro (h | ⟨k, v, h1, h2, h3, h4⟩)
      · cases h
        exact ⟨0, .inl x, rfl, (fun z h => by cases h), rfl, rfl⟩
      · exact ⟨k + 1, v, by simpa using h1, h2, by omega, h4⟩
    · rintro ⟨k, v, h1, h2, h3, h4⟩
      cases k with
      | zero => simp at h1; subst h1; subst h3; subst h4; exact Or.inl rfl
      | succ k => exact Or.inr ⟨k, v, by simpa using h1, h2, by omega, h4⟩
  | .inr (.inl x) :: vs, i, j, w => by
    rw [jls, List.mem_cons, jls_mem vs (i + 1) j w]
    constructor
    · rintro (h | ⟨k, v, h1, h2, h3, h4⟩)
      · cases h
        exact ⟨0, .inr (.inl x), rfl, (fun z h => by cases h), rfl, rfl⟩
      · exact ⟨k + 1, v, by simpa using h1, h2, by omega, h4⟩
    · rintro ⟨k, v, h1, h2, h3, h4⟩
      cases k with
      | zero => simp at h1; subst h1; subst h3; subst h4; exact Or.inl rfl
      | succ k => exact Or.inr ⟨k, v, by simpa using h1, h2, by omega, h4⟩
  | .inr (.inr (.inl x)) :: vs, i, j, w => by
    rw [jls, List.mem_cons, jls_mem vs (i + 1) j w]
    constructor
    · rintro (h | ⟨k, v, h1, h2, h3, h4⟩)
      · cases h
        exact ⟨0, .inr (.inr (.inl x)), rfl, (fun z h => by cases h), rfl, rfl⟩
      · exact ⟨k + 1, v, by simpa using h1, h2, by omega, h4⟩
    · rintro ⟨k, v, h1, h2, h3, h4⟩
      cases k with
      | zero => simp at h1; subst h1; subst h3; subst h4; exact Or.inl rfl
      | succ k => exact Or.inr ⟨k, v, by simpa using h1, h2, by omega, h4⟩
theorem jget_at : ∀ (ls : List JV) (a : Nat) (v : JV), jget ls a = v → (∀ z, v ≠ .inr (.inr (.inr z))) → ls[a]? = some v
  | [], a, v, h, h2 => by simp only [jget] at h; exact absurd h.symm (h2 ())
  | x :: xs, 0, v, h, h2 => by simp only [jget] at h; rw [h]; rfl
  | x :: xs, a + 1, v, h, h2 => by
    simp only [jget] at h
    simpa using jget_at xs a v h h2
theorem jst1_at : ∀ (ls : List JV) (a : Nat) (v : JV) (k : Nat) (w : JV), (jst1 ls a v)[k]? = some w → (∀ z, w ≠ .inr (.inr (.inr z))) → a < ls.length → (k = a ∧ w = v) ∨ (k ≠ a ∧ ls[k]? = some w ∧ (k + 1 = a → ∀ z, w ≠ .inr (.inl z)))
  | [], a, v, k, w, h, h2, h3 => by simp at h3
  | x :: xs, 0, v, 0, w, h, h2, h3 => by simp [jst1] at h; exact Or.inl ⟨rfl, h.symm⟩
  | x :: xs, 0, v, k + 1, w, h, h2, h3 => by simp [jst1] at h; exact Or.inr ⟨by omega, by simpa using h, by omega⟩
  | x :: xs, 1, v, 0, w, h, h2, h3 => by
    simp [jst1] at h
    subst h
    refine Or.inr ⟨by omega, ?_, fun _ z hz => ?_⟩
    · rcases x with x | x | x | x
      · rfl
      · exact absurd rfl (h2 ())
      · rfl
      · rfl
    · rcases x with x | x | x | x <;> simp [jcut] at hz
  | x :: xs, 1, v, k + 1, w, h, h2, h3 => by
    have h' : (jst1 xs 0 v)[k]? = some w := by simpa [jst1] using h
    rcases jst1_at xs 0 v k w h' h2 (by simp at h3; omega) with ⟨e1, e2⟩ | ⟨e1, e2, e3⟩
    · exact Or.inl ⟨by omega, e2⟩
    · exact Or.inr ⟨by omega, by simpa using e2, by omega⟩
  | x :: xs, a + 2, v, 0, w, h, h2, h3 => by simp [jst1] at h; exact Or.inr ⟨by omega, by simpa using h, by omega⟩
  | x :: xs, a + 2, v, k + 1, w, h, h2, h3 => by
    have h' : (jst1 xs (a + 1) v)[k]? = some w := by simpa [jst1] using h
    rcases jst1_at xs (a + 1) v k w h' h2 (by simp at h3; omega) with ⟨e1, e2⟩ | ⟨e1, e2, e3⟩
    · exact Or.inl ⟨by omega, e2⟩
    · exact Or.inr ⟨by omega, by simpa using e2, fun h => e3 (by omega)⟩
theorem jst1_len : ∀ (ls : List JV) (a : Nat) (v : JV), (jst1 ls a v).length = ls.length
  | [], a, v => rfl
  | x :: xs, 0, v => rfl
  | x :: xs, 1, v => by simp [jst1, jst1_len xs 0 v]
  | x :: xs, a + 2, v => by simp [jst1, jst1_len xs (a + 1) v]
theorem jst1_ok : ∀ (ls : List JV) (a : Nat) (v : JV), jok v → (∀ w ∈ ls, jok w) → ∀ w ∈ jst1 ls a v, jok w
  | [], a, v, hv, h => by simp [jst1]
  | x :: xs, 0, v, hv, h => by
    intro w hw
    simp [jst1] at hw
    rcases hw with rfl | hw
    · exact hv
    · exact h w (List.mem_cons_of_mem _ hw)
  | x :: xs, 1, v, hv, h => by
    intro w hw
    simp only [jst1, List.mem_cons] at hw
    rcases hw with rfl | hw
    · have hx := h x List.mem_cons_self
      rcases x with x | x | x | x
      · exact hx
      · exact trivial
      · exact trivial
      · exact trivial
    · exact jst1_ok xs 0 v hv (fun w hw => h w (List.mem_cons_of_mem _ hw)) w hw
  | x :: xs, a + 2, v, hv, h => by
    intro w hw
    simp only [jst1, List.mem_cons] at hw
    rcases hw with rfl | hw
    · exact h w List.mem_cons_self
    · exact jst1_ok xs (a + 1) v hv (fun w hw => h w (List.mem_cons_of_mem _ hw)) w hw
theorem jlv_mono {ls : Array Slot} {nL : Nat} {l l' : List (Nat × Value)} (h : lv_has ls nL l) (hs : ∀ q ∈ l', q ∈ l) : lv_has ls nL l' := ⟨h.1, h.2.1, fun q hq => h.2.2 q (hs q hq)⟩
theorem jcat_tv (E : JE) (v : JV) : (jtv E v).category = 2 ↔ ∃ z, v = .inr (.inl z) := by
  rcases v with x | x | x | x
  · simp [jtv, Value.category]
  · simp [jtv, Value.category]
  · by_cases h : x = -1 <;> simp [jtv, Value.category, h]
  · simp [jtv, Value.category]
theorem jst1_sub {E : JE} {ls : List JV} {a : Nat} {v : JV} (ha : a < ls.length) : ∀ q ∈ jls E 0 (jst1 ls a v), q ∈ (a, jtv E v) :: (jls E 0 ls).filter (fun q => !(q.1 == a) && !(q.1 + 1 == a && q.2.category == 2)) := by
  rintro ⟨j, w⟩ hq
  obtain ⟨k, u, h1, h2, h3, h4⟩ := (jls_mem _ _ _ _).mp hq
  rcases jst1_at ls a v k u h1 h2 ha with ⟨e1, e2⟩ | ⟨e1, e2, e3⟩
  · subst e1; subst e2; subst h4
    rw [h3, Nat.zero_add]
    exact List.mem_cons_self
  · refine List.mem_cons_of_mem _ (List.mem_filter.mpr ⟨(jls_mem _ _ _ _).mpr ⟨k, u, e2, h2, h3, h4⟩, ?_⟩)
    have hj : j = k := by omega
    subst hj
    have hc : ¬ (j + 1 = a ∧ w.category = 2) := by
      rintro ⟨g1, g2⟩
      rw [h4] at g2
      obtain ⟨z, hz⟩ := (jcat_tv E u).mp g2
      exact e3 g1 z hz
    simp only [Bool.and_eq_true, Bool.not_eq_true', beq_eq_false_iff_ne, ne_eq, Bool.and_eq_false_iff]
    refine ⟨e1, ?_⟩
    by_cases g1 : j + 1 = a
    · exact Or.inr (fun g2 => hc ⟨g1, g2⟩)
    · exact Or.inl g1
section jrows
variable {E : JE} {p : Program} {l : Launch} {e : Env} {R : Room} {s : State} {m : MethodId} {args : Array Value} {below : List Frame} {meth : Method} {c : Code} {Q : State → Prop} {mm n0 n1 : Nat} {pc : Nat} {ls st : List JV} {n : Nat} {r h : JH}
theorem jat {lsS : Array Slot} {H : Heap} {locs : List Loc} (hS : jS E mm n0 n1 lsS H locs ls st n r h) {a : Nat} {v : JV} (hg : jget ls a = v) (hv : ∀ z, v ≠ .inr (.inr (.inr z))) : lsS[a]? = some (.val (jtv E v)) :=
  hS.1.2.2 (a, jtv E v) ((jls_mem _ _ _ _).mpr ⟨a, v, jget_at ls a v hg hv, hv, by omega, rfl⟩)
theorem jget_ok (hs : ∀ v ∈ ls, jok v) {a : Nat} {v : JV} (hg : jget ls a = v) (hv : ∀ z, v ≠ .inr (.inr (.inr z))) : jok v := hs v (List.mem_of_getElem? (jget_at ls a v hg hv))
theorem jok1 {x y : JV} {st : List JV} (h : ∀ v ∈ x :: st, jok v) (hy : jok y) : ∀ v ∈ y :: st, jok v := fun v hv => (List.mem_cons.mp hv).elim (fun e => e ▸ hy) (fun g => h v (List.mem_cons_of_mem _ g))
theorem jok2 {x z y : JV} {st : List JV} (h : ∀ v ∈ x :: z :: st, jok v) (hy : jok y) : ∀ v ∈ y :: st, jok v := fun v hv => (List.mem_cons.mp hv).elim (fun e => e ▸ hy) (fun g => h v (List.mem_cons_of_mem _ (List.mem_cons_of_mem _ g)))
theorem jokd {x : JV} {st : List JV} (h : ∀ v ∈ x :: st, jok v) : ∀ v ∈ st, jok v := fun v hv => h v (List.mem_cons_of_mem _ hv)
theorem jokc {y : JV} {st : List JV} (h : ∀ v ∈ st, jok v) (hy : jok y) : ∀ v ∈ y :: st, jok v := fun v hv => (List.mem_cons.mp hv).elim (fun e => e ▸ hy) (fun g => h v g)
-- constants
theorem js_iconst (C : jAt E p R s m args meth c mm n0 n1) {b : Int} (hb : jR32 b) (hd : decode (jM mm).2.1 pc = .ok (.iconst b, 1)) (k : jWj E p l e R s m args below meth c Q mm n0 n1 (pc + 1) ls (.inl b :: st) n r h) : jWj E p l e R s m args below meth c Q mm n0 n1 pc ls st n r h := fun lsS H locs hS =>
  lv_iconst C.1 C.2.1 hd rfl (k lsS H locs (jS_st hS (jokc hS.2.2.2.1 hb)))
theorem js_bipush (C : jAt E p R s m args meth c mm n0 n1) {b c0 : Int} (hb : jR32 b) (hv : (Int8.ofInt c0).toInt32 = Int32.ofInt b) (hd : decode (jM mm).2.1 pc = .ok (.bipush c0, 2)) (k : jWj E p l e R s m args below meth c Q mm n0 n1 (pc + 2) ls (.inl b :: st) n r h) : jWj E p l e R s m args below meth c Q mm n0 n1 pc ls st n r h := fun lsS H locs hS =>
  lv_bipush C.1 C.2.1 hd hv (k lsS H locs (jS_st hS (jokc hS.2.2.2.1 hb)))
theorem js_sipush (C : jAt E p R s m args meth c mm n0 n1) {b c0 : Int} (hb : jR32 b) (hv : (Int16.ofInt c0).toInt32 = Int32.ofInt b) (hd : decode (jM mm).2.1 pc = .ok (.sipush c0, 3)) (k : jWj E p l e R s m args below meth c Q mm n0 n1 (pc + 3) ls (.inl b :: st) n r h) : jWj E p l e R s m args below meth c Q mm n0 n1 pc ls st n r h := fun lsS H locs hS =>
  lv_sipush C.1 C.2.1 hd hv (k lsS H locs (jS_st hS (jokc hS.2.2.2.1 hb)))
theorem js_lconst (C : jAt E p R s m args meth c mm n0 n1) {b : Int} {c0 : Fin 2} (hv : b = ((c0 : Nat) : Int)) (hd : decode (jM mm).2.1 pc = .ok (.lconst c0, 1)) (k : jWj E p l e R s m args below meth c Q mm n0 n1 (pc + 1) ls (.inr (.inl b) :: st) n r h) : jWj E p l e R s m args below meth c Q mm n0 n1 pc ls st n r h := fun lsS H locs hS =>
  lv_lconst C.1 C.2.1 hd (v := Int64.ofInt b) (by subst hv; exact Int64.ofInt_eq_ofNat.symm) (k lsS H locs (jS_st hS (jokc hS.2.2.2.1 (by subst hv; have := c0.isLt; exact ⟨by omega, by omega⟩))))
theorem js_ldc (C : jAt E p R s m args meth c mm n0 n1) {b : Int} {i pp : Nat} (hb : jR32 b) (hw : jcw pp (.constant (jM mm).1.cls i (Int32.ofInt b)) = true) (hd : decode (jM mm).2.1 pc = .ok (.ldc i, 2)) (k : jWj E p l e R s m args below meth c Q mm n0 n1 (pc + 2) ls (.inl b :: st) n r h) : jWj E p l e R s m args below meth c Q mm n0 n1 pc ls st n r h := fun lsS H locs hS =>
  lv_ldc C.1 C.2.1 C.2.2.2.1 (C.2.2.2.2.1 _ (jG_of hw)) hd (k lsS H locs (jS_st hS (jokc hS.2.2.2.1 hb)))
theorem js_ldcw (C : jAt E p R s m args meth c mm n0 n1) {b : Int} {i pp : Nat} (hb : jR32 b) (hw : jcw pp (.constant (jM mm).1.cls i (Int32.ofInt b)) = true) (hd : decode (jM mm).2.1 pc = .ok (.ldc_w i, 3)) (k : jWj E p l e R s m args below meth c Q mm n0 n1 (pc + 3) ls (.inl b :: st) n r h) : jWj E p l e R s m args below meth c Q mm n0 n1 pc ls st n r h := fun lsS H locs hS =>
  lv_ldcw C.1 C.2.1 C.2.2.2.1 (C.2.2.2.2.1 _ (jG_of hw)) hd (k lsS H locs (jS_st hS (jokc hS.2.2.2.1 hb)))
theorem js_ldc2 (C : jAt E p R s m args meth c mm n0 n1) {b : Int} {i pp : Nat} (hb : jR64 b) (hw : jcw pp (.constantLong (jM mm).1.cls i (Int64.ofInt b)) = true) (hd : decode (jM mm).2.1 pc = .ok (.ldc2_w i, 3)) (k : jWj E p l e R s m args below meth c Q mm n0 n1 (pc + 3) ls (.inr (.inl b) :: st) n r h) : jWj E p l e R s m args below meth c Q mm n0 n1 pc ls st n r h := fun lsS H locs hS =>
  lv_ldc2 C.1 C.2.1 C.2.2.2.1 (C.2.2.2.2.1 _ (jG_of hw)) hd (k lsS H locs (jS_st hS (jokc hS.2.2.2.1 hb)))
-- loads
theorem js_iload_n (C : jAt E p R s m args meth c mm n0 n1) {a : Nat} {k0 : Fin 4} {x : Int} (ha : (k0 : Nat) = a) (hg : jget ls a = .inl x) (hd : decode (jM mm).2.1 pc = .ok (.iload_n k0, 1)) (k : jWj E p l e R s m args below meth c Q mm n0 n1 (pc + 1) ls (.inl x :: st) n r h) : jWj E p l e R s m args below meth c Q mm n0 n1 pc ls st n r h := fun lsS H locs hS =>
  lv_iload_n C.1 C.2.1 hd ha (jat hS hg (fun z h => by cases h)) (k lsS H locs (jS_st hS (jokc hS.2.2.2.1 (jget_ok hS.2.2.1 hg (fun z h => by cases h)))))
theorem js_iload (C : jAt E p R s m args meth c mm n0 n1) {a : Nat} {x : Int} (hg : jget ls a = .inl x) (hd : decode (jM mm).2.1 pc = .ok (.iload a, 2)) (k : jWj E p l e R s m args below meth c Q mm n0 n1 (pc + 2) ls (.inl x :: st) n r h) : jWj E p l e R s m args below meth c Q mm n0 n1 pc ls st n r h := fun lsS H locs hS =>
  lv_iload C.1 C.2.1 hd (jat hS hg (fun z h => by cases h)) (k lsS H locs (jS_st hS (jokc hS.2.2.2.1 (jget_ok hS.2.2.1 hg (fun z h => by cases h)))))
theorem js_lload_n (C : jAt E p R s m args meth c mm n0 n1) {a : Nat} {k0 : Fin 4} {x : Int} (ha : (k0 : Nat) = a) (hg : jget ls a = .inr (.inl x)) (hd : decode (jM mm).2.1 pc = .ok (.lload_n k0, 1)) (k : jWj E p l e R s m args below meth c Q mm n0 n1 (pc + 1) ls (.inr (.inl x) :: st) n r h) : jWj E p l e R s m args below meth c Q mm n0 n1 pc ls st n r h := fun lsS H locs hS =>
  lv_lload_n C.1 C.2.1 hd ha (jat hS hg (fun z h => by cases h)) (k lsS H locs (jS_st hS (jokc hS.2.2.2.1 (jget_ok hS.2.2.1 hg (fun z h => by cases h)))))
theorem js_lload (C : jAt E p R s m args meth c mm n0 n1) {a : Nat} {x : Int} (hg : jget ls a = .inr (.inl x)) (hd : decode (jM mm).2.1 pc = .ok (.lload a, 2)) (k : jWj E p l e R s m args below meth c Q mm n0 n1 (pc + 2) ls (.inr (.inl x) :: st) n r h) : jWj E p l e R s m args below meth c Q mm n0 n1 pc ls st n r h := fun lsS H locs hS =>
  lv_lload C.1 C.2.1 hd (jat hS hg (fun z h => by cases h)) (k lsS H locs (jS_st hS (jokc hS.2.2.2.1 (jget_ok hS.2.2.1 hg (fun z h => by cases h)))))
theorem jnull_ld {ls0 : Array Slot} {H : Heap} {locs : List Loc} {cells slots i : Nat} {rest : List Value} {ins : Instr} {len : Nat} (hi : ins = .aload i ∧ len = 2 ∨ ∃ k0 : Fin 4, ins = .aload_n k0 ∧ (k0 : Nat) = i ∧ len = 1) (hx : p.tables.exec = Jvm.exec) {cc : ByteArray} (hb : c.code = cc) (hd : decode cc pc = .ok (ins, len)) (hl : ls0[i]? = some (.val .null))
    (k : W p l e R s m args below meth c H locs cells slots Q (F0 m (pc + len) ls0 (.null :: rest))) : W p l e R s m args below meth c H locs cells slots Q (F0 m pc ls0 rest) := by
  intro T hT X
  obtain ⟨t, a, b⟩ := k T hT X
  refine ⟨t, ?_, b⟩
  rcases hi with ⟨rfl, rfl⟩ | ⟨k0, rfl, rfl, rfl⟩
  · jvm_step X.here [X.here.top, hx, hb, hd, hl, Value.isRef]
    exact a
  · jvm_step X.here [X.here.top, hx, hb, hd, hl, Value.isRef]
    exact a
theorem js_aload_n (C : jAt E p R s m args meth c mm n0 n1) {a : Nat} {k0 : Fin 4} {x : Int} (ha : (k0 : Nat) = a) (hg : jget ls a = .inr (.inr (.inl x))) (hd : decode (jM mm).2.1 pc = .ok (.aload_n k0, 1)) (k : jWj E p l e R s m args below meth c Q mm n0 n1 (pc + 1) ls (.inr (.inr (.inl x)) :: st) n r h) : jWj E p l e R s m args below meth c Q mm n0 n1 pc ls st n r h := fun lsS H locs hS => by
  have h1 := jat hS hg (fun z h => by cases h)
  have h2 := k lsS H locs (jS_st hS (jokc hS.2.2.2.1 trivial))
  by_cases hx : x = -1
  · subst hx
    exact jnull_ld (Or.inr ⟨k0, rfl, ha, rfl⟩) C.1 C.2.1 hd h1 h2
  · have e : jtv E (.inr (.inr (.inl x))) = .ref (jad E x) := by simp [jtv, hx]
    rw [e] at h1
    rw [List.map_cons, e] at h2
    exact lv_aload_n C.1 C.2.1 hd ha h1 h2
theorem js_aload (C : jAt E p R s m args meth c mm n0 n1) {a : Nat} {x : Int} (hg : jget ls a = .inr (.inr (.inl x))) (hd : decode (jM mm).2.1 pc = .ok (.aload a, 2)) (k : jWj E p l e R s m args below meth c Q mm n0 n1 (pc + 2) ls (.inr (.inr (.inl x)) :: st) n r h) : jWj E p l e R s m args below meth c Q mm n0 n1 pc ls st n r h := fun lsS H locs hS => by
  have h1 := jat hS hg (fun z h => by cases h)
  have h2 := k lsS H locs (jS_st hS (jokc hS.2.2.2.1 trivial))
  by_cases hx : x = -1
  · subst hx
    exact jnull_ld (Or.inl ⟨rfl, rfl⟩) C.1 C.2.1 hd h1 h2
  · have e : jtv E (.inr (.inr (.inl x))) = .ref (jad E x) := by simp [jtv, hx]
    rw [e] at h1
    rw [List.map_cons, e] at h2
    exact lv_aload C.1 C.2.1 hd h1 h2
end jrows
