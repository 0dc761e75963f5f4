section jrows2
variable {E : JE} {p : Program} {l : Launch} {e : Env} {R : Room} {s : State} {m : MethodId} {args : Array Value} {below : List Frame} {meth : Method} {c : Code} {Q : State → Prop} {mm n0 n1 : Nat} {pc : Nat} {ls st : List JV} {n : Nat} {r h : JH}

-- stores
theorem jS_lv {lsS ls' : Array Slot} {H : Heap} {locs : List Loc} {st' : List JV} (hS : jS E mm n0 n1 lsS H locs ls st n r h) {a : Nat} {v : JV} (hv : jok v) (ha : a < (jM mm).2.2.1) (hs : ∀ w ∈ st', jok w)
    (h' : lv_has ls' (jM mm).2.2.1 ((a, jtv E v) :: (jls E 0 ls).filter (fun q => !(q.1 == a) && !(q.1 + 1 == a && q.2.category == 2)))) : jS E mm n0 n1 ls' H locs (jst1 ls a v) st' n r h :=
  ⟨jlv_mono h' (jst1_sub (by rw [hS.2.1]; exact ha)), by rw [jst1_len]; exact hS.2.1, jst1_ok ls a v hv hS.2.2.1, hs, hS.2.2.2.2⟩
theorem js_istore_n (C : jAt E p R s m args meth c mm n0 n1) {a : Nat} {k0 : Fin 4} {x : Int} (ha : (k0 : Nat) = a) (hl : a < (jM mm).2.2.1) (hd : decode (jM mm).2.1 pc = .ok (.istore_n k0, 1)) (k : jWj E p l e R s m args below meth c Q mm n0 n1 (pc + 1) (jst1 ls a (.inl x)) st n r h) : jWj E p l e R s m args below meth c Q mm n0 n1 pc ls (.inl x :: st) n r h := fun lsS H locs hS =>
  lv_istore_n C.1 C.2.1 hd ha hS.1 hl rfl (fun ls' h' => k ls' H locs (jS_lv hS (hS.2.2.2.1 _ List.mem_cons_self) hl (jokd hS.2.2.2.1) h'))
theorem js_istore (C : jAt E p R s m args meth c mm n0 n1) {a : Nat} {x : Int} (hl : a < (jM mm).2.2.1) (hd : decode (jM mm).2.1 pc = .ok (.istore a, 2)) (k : jWj E p l e R s m args below meth c Q mm n0 n1 (pc + 2) (jst1 ls a (.inl x)) st n r h) : jWj E p l e R s m args below meth c Q mm n0 n1 pc ls (.inl x :: st) n r h := fun lsS H locs hS =>
  lv_istore C.1 C.2.1 hd hS.1 hl rfl (fun ls' h' => k ls' H locs (jS_lv hS (hS.2.2.2.1 _ List.mem_cons_self) hl (jokd hS.2.2.2.1) h'))
theorem js_astore_n (C : jAt E p R s m args meth c mm n0 n1) {a : Nat} {k0 : Fin 4} {x : Int} (hx : x ≠ -1) (ha : (k0 : Nat) = a) (hl : a < (jM mm).2.2.1) (hd : decode (jM mm).2.1 pc = .ok (.astore_n k0, 1)) (k : jWj E p l e R s m args below meth c Q mm n0 n1 (pc + 1) (jst1 ls a (.inr (.inr (.inl x)))) st n r h) : jWj E p l e R s m args below meth c Q mm n0 n1 pc ls (.inr (.inr (.inl x)) :: st) n r h := fun lsS H locs hS => by
  have e : jtv E (.inr (.inr (.inl x))) = .ref (jad E x) := by simp [jtv, hx]
  rw [List.map_cons, e]
  exact lv_astore_n C.1 C.2.1 hd ha hS.1 hl rfl (fun ls' h' => k ls' H locs (jS_lv hS trivial hl (jokd hS.2.2.2.1) (by rw [e]; exact h')))
theorem js_astore (C : jAt E p R s m args meth c mm n0 n1) {a : Nat} {x : Int} (hx : x ≠ -1) (hl : a < (jM mm).2.2.1) (hd : decode (jM mm).2.1 pc = .ok (.astore a, 2)) (k : jWj E p l e R s m args below meth c Q mm n0 n1 (pc + 2) (jst1 ls a (.inr (.inr (.inl x)))) st n r h) : jWj E p l e R s m args below meth c Q mm n0 n1 pc ls (.inr (.inr (.inl x)) :: st) n r h := fun lsS H locs hS => by
  have e : jtv E (.inr (.inr (.inl x))) = .ref (jad E x) := by simp [jtv, hx]
  rw [List.map_cons, e]
  exact lv_astore C.1 C.2.1 hd hS.1 hl rfl (fun ls' h' => k ls' H locs (jS_lv hS trivial hl (jokd hS.2.2.2.1) (by rw [e]; exact h')))
theorem jst2_sub {E : JE} {ls : List JV} {a : Nat} {x : Int} (ha : a + 1 < ls.length) : ∀ q ∈ jls E 0 (jst1 (jst1 ls (a + 1) (.inr (.inr (.inr ())))) a (.inr (.inl x))), q ∈ (a, jtv E (.inr (.inl x))) :: (jls E 0 ls).filter (fun q => !(q.1 == a) && (!(q.1 == a + 1) && !(q.1 + 1 == a && q.2.category == 2))) := by
  rintro ⟨j, w⟩ hq
  obtain ⟨k, u, h1, h2, h3, h4⟩ := (jls_mem _ _ _ _).mp hq
  rcases jst1_at _ a _ k u h1 h2 (by rw [jst1_len]; omega) with ⟨e1, e2⟩ | ⟨e1, e2, e3⟩
  · subst e1; subst e2; subst h4
    rw [h3, Nat.zero_add]
    exact List.mem_cons_self
  · rcases jst1_at ls (a + 1) _ k u e2 h2 ha with ⟨f1, f2⟩ | ⟨f1, f2, f3⟩
    · exact absurd f2 (h2 ())
    · refine List.mem_cons_of_mem _ (List.mem_filter.mpr ⟨(jls_mem _ _ _ _).mpr ⟨k, u, f2, h2, h3, h4⟩, ?_⟩)
      have hj : j = k := by omega
      subst hj
      have hc : ¬ (j + 1 = a ∧ w.category = 2) := by
        rintro ⟨g1, g2⟩
        rw [h4] at g2
        obtain ⟨z, hz⟩ := (jcat_tv E u).mp g2
        exact e3 g1 z hz
      simp only [Bool.and_eq_true, Bool.not_eq_true', beq_eq_false_iff_ne, ne_eq, Bool.and_eq_false_iff]
      refine ⟨e1, f1, ?_⟩
      by_cases g1 : j + 1 = a
      · exact Or.inr (fun g2 => hc ⟨g1, g2⟩)
      · exact Or.inl g1
theorem jS_lv2 {lsS ls' : Array Slot} {H : Heap} {locs : List Loc} {st' : List JV} (hS : jS E mm n0 n1 lsS H locs ls st n r h) {a : Nat} {x : Int} (hv : jR64 x) (ha : a + 1 < (jM mm).2.2.1) (hs : ∀ w ∈ st', jok w)
    (h' : lv_has ls' (jM mm).2.2.1 ((a, jtv E (.inr (.inl x))) :: (jls E 0 ls).filter (fun q => !(q.1 == a) && (!(q.1 == a + 1) && !(q.1 + 1 == a && q.2.category == 2))))) : jS E mm n0 n1 ls' H locs (jst1 (jst1 ls (a + 1) (.inr (.inr (.inr ())))) a (.inr (.inl x))) st' n r h :=
  ⟨jlv_mono h' (jst2_sub (by rw [hS.2.1]; exact ha)), by rw [jst1_len, jst1_len]; exact hS.2.1, jst1_ok _ a _ hv (jst1_ok ls (a + 1) _ trivial hS.2.2.1), hs, hS.2.2.2.2⟩
theorem js_lstore_n (C : jAt E p R s m args meth c mm n0 n1) {a : Nat} {k0 : Fin 4} {x : Int} (ha : (k0 : Nat) = a) (hl : a + 1 < (jM mm).2.2.1) (hd : decode (jM mm).2.1 pc = .ok (.lstore_n k0, 1)) (k : jWj E p l e R s m args below meth c Q mm n0 n1 (pc + 1) (jst1 (jst1 ls (a + 1) (.inr (.inr (.inr ())))) a (.inr (.inl x))) st n r h) : jWj E p l e R s m args below meth c Q mm n0 n1 pc ls (.inr (.inl x) :: st) n r h := fun lsS H locs hS =>
  lv_lstore_n C.1 C.2.1 hd ha hS.1 hl rfl (fun ls' h' => k ls' H locs (jS_lv2 hS (hS.2.2.2.1 _ List.mem_cons_self) hl (jokd hS.2.2.2.1) h'))
theorem js_lstore (C : jAt E p R s m args meth c mm n0 n1) {a : Nat} {x : Int} (hl : a + 1 < (jM mm).2.2.1) (hd : decode (jM mm).2.1 pc = .ok (.lstore a, 2)) (k : jWj E p l e R s m args below meth c Q mm n0 n1 (pc + 2) (jst1 (jst1 ls (a + 1) (.inr (.inr (.inr ())))) a (.inr (.inl x))) st n r h) : jWj E p l e R s m args below meth c Q mm n0 n1 pc ls (.inr (.inl x) :: st) n r h := fun lsS H locs hS =>
  lv_lstore C.1 C.2.1 hd hS.1 hl rfl (fun ls' h' => k ls' H locs (jS_lv2 hS (hS.2.2.2.1 _ List.mem_cons_self) hl (jokd hS.2.2.2.1) h'))
theorem js_iinc (C : jAt E p R s m args meth c mm n0 n1) {a : Nat} {b x : Int} (hg : jget ls a = .inl x) (hl : a < (jM mm).2.2.1) (hd : decode (jM mm).2.1 pc = .ok (.iinc a b, 3)) (k : jWj E p l e R s m args below meth c Q mm n0 n1 (pc + 3) (jst1 ls a (.inl (jw32 (x + b)))) st n r h) : jWj E p l e R s m args below meth c Q mm n0 n1 pc ls st n r h := fun lsS H locs hS => by
  obtain ⟨k9, hk9⟩ := List.getElem?_of_mem ((jls_mem (E := E) ls 0 a _).mpr ⟨a, .inl x, jget_at ls a _ hg (fun z h => by cases h), (fun z h => by cases h), by omega, rfl⟩)
  exact lv_iinc (v := Int32.ofInt (jw32 (x + b))) C.1 C.2.1 hd hS.1 hk9 (by rw [jof32, Int32.ofInt_add]) hl rfl (fun ls' h' => k ls' H locs (jS_lv hS (j32_r _) hl hS.2.2.2.1 h'))
-- arithmetic

theorem js_iadd (C : jAt E p R s m args meth c mm n0 n1) {x y : Int} (hd : decode (jM mm).2.1 pc = .ok (.iadd, 1)) (k : jWj E p l e R s m args below meth c Q mm n0 n1 (pc + 1) ls (.inl (jw32 (x + y)) :: st) n r h) : jWj E p l e R s m args below meth c Q mm n0 n1 pc ls (.inl y :: .inl x :: st) n r h := fun lsS H locs hS => by
  have h2 := k lsS H locs (jS_st hS (jok2 hS.2.2.2.1 (j32_r _)))
  have e : jtv E (.inl (jw32 (x + y))) = .int (Int32.ofInt x + Int32.ofInt y) := congrArg Value.int ((jof32 _).trans (Int32.ofInt_add x y))
  rw [List.map_cons, e] at h2
  exact lv_iadd C.1 C.2.1 hd h2

theorem js_isub (C : jAt E p R s m args meth c mm n0 n1) {x y : Int} (hd : decode (jM mm).2.1 pc = .ok (.isub, 1)) (k : jWj E p l e R s m args below meth c Q mm n0 n1 (pc + 1) ls (.inl (jw32 (x - y)) :: st) n r h) : jWj E p l e R s m args below meth c Q mm n0 n1 pc ls (.inl y :: .inl x :: st) n r h := fun lsS H locs hS => by
  have h2 := k lsS H locs (jS_st hS (jok2 hS.2.2.2.1 (j32_r _)))
  have e : jtv E (.inl (jw32 (x - y))) = .int (Int32.ofInt x - Int32.ofInt y) := congrArg Value.int ((jof32 _).trans (Int32.ofInt_sub x y))
  rw [List.map_cons, e] at h2
  exact lv_isub C.1 C.2.1 hd h2

theorem js_imul (C : jAt E p R s m args meth c mm n0 n1) {x y : Int} (hd : decode (jM mm).2.1 pc = .ok (.imul, 1)) (k : jWj E p l e R s m args below meth c Q mm n0 n1 (pc + 1) ls (.inl (jw32 (x * y)) :: st) n r h) : jWj E p l e R s m args below meth c Q mm n0 n1 pc ls (.inl y :: .inl x :: st) n r h := fun lsS H locs hS => by
  have h2 := k lsS H locs (jS_st hS (jok2 hS.2.2.2.1 (j32_r _)))
  have e : jtv E (.inl (jw32 (x * y))) = .int (Int32.ofInt x * Int32.ofInt y) := congrArg Value.int ((jof32 _).trans (Int32.ofInt_mul x y))
  rw [List.map_cons, e] at h2
  exact lv_imul C.1 C.2.1 hd h2

theorem js_iand (C : jAt E p R s m args meth c mm n0 n1) {x y : Int} (hd : decode (jM mm).2.1 pc = .ok (.iand, 1)) (k : jWj E p l e R s m args below meth c Q mm n0 n1 (pc + 1) ls (.inl (jand x y) :: st) n r h) : jWj E p l e R s m args below meth c Q mm n0 n1 pc ls (.inl y :: .inl x :: st) n r h := fun lsS H locs hS => by
  have h2 := k lsS H locs (jS_st hS (jok2 hS.2.2.2.1 (jrng32 _)))
  have e : jtv E (.inl (jand x y)) = .int (Int32.ofInt x &&& Int32.ofInt y) := congrArg Value.int (Int32.ofInt_toInt _)
  rw [List.map_cons, e] at h2
  exact lv_iand C.1 C.2.1 hd h2

theorem js_ior (C : jAt E p R s m args meth c mm n0 n1) {x y : Int} (hd : decode (jM mm).2.1 pc = .ok (.ior, 1)) (k : jWj E p l e R s m args below meth c Q mm n0 n1 (pc + 1) ls (.inl (jor x y) :: st) n r h) : jWj E p l e R s m args below meth c Q mm n0 n1 pc ls (.inl y :: .inl x :: st) n r h := fun lsS H locs hS => by
  have h2 := k lsS H locs (jS_st hS (jok2 hS.2.2.2.1 (jrng32 _)))
  have e : jtv E (.inl (jor x y)) = .int (Int32.ofInt x ||| Int32.ofInt y) := congrArg Value.int (Int32.ofInt_toInt _)
  rw [List.map_cons, e] at h2
  exact lv_ior C.1 C.2.1 hd h2

theorem js_ixor (C : jAt E p R s m args meth c mm n0 n1) {x y : Int} (hd : decode (jM mm).2.1 pc = .ok (.ixor, 1)) (k : jWj E p l e R s m args below meth c Q mm n0 n1 (pc + 1) ls (.inl (jxor x y) :: st) n r h) : jWj E p l e R s m args below meth c Q mm n0 n1 pc ls (.inl y :: .inl x :: st) n r h := fun lsS H locs hS => by
  have h2 := k lsS H locs (jS_st hS (jok2 hS.2.2.2.1 (jrng32 _)))
  have e : jtv E (.inl (jxor x y)) = .int (Int32.ofInt x ^^^ Int32.ofInt y) := congrArg Value.int (Int32.ofInt_toInt _)
  rw [List.map_cons, e] at h2
  exact lv_ixor C.1 C.2.1 hd h2

theorem js_ishl (C : jAt E p R s m args meth c mm n0 n1) {x y : Int} (hd : decode (jM mm).2.1 pc = .ok (.ishl, 1)) (k : jWj E p l e R s m args below meth c Q mm n0 n1 (pc + 1) ls (.inl (jshl x y) :: st) n r h) : jWj E p l e R s m args below meth c Q mm n0 n1 pc ls (.inl y :: .inl x :: st) n r h := fun lsS H locs hS => by
  have h2 := k lsS H locs (jS_st hS (jok2 hS.2.2.2.1 (jrng32 _)))
  have e : jtv E (.inl (jshl x y)) = .int (Int32.ofInt x <<< (Int32.ofInt y &&& 31)) := congrArg Value.int (Int32.ofInt_toInt _)
  rw [List.map_cons, e] at h2
  exact lv_ishl C.1 C.2.1 hd h2

theorem js_ishr (C : jAt E p R s m args meth c mm n0 n1) {x y : Int} (hd : decode (jM mm).2.1 pc = .ok (.ishr, 1)) (k : jWj E p l e R s m args below meth c Q mm n0 n1 (pc + 1) ls (.inl (jshr x y) :: st) n r h) : jWj E p l e R s m args below meth c Q mm n0 n1 pc ls (.inl y :: .inl x :: st) n r h := fun lsS H locs hS => by
  have h2 := k lsS H locs (jS_st hS (jok2 hS.2.2.2.1 (jrng32 _)))
  have e : jtv E (.inl (jshr x y)) = .int (Int32.ofInt x >>> (Int32.ofInt y &&& 31)) := congrArg Value.int (Int32.ofInt_toInt _)
  rw [List.map_cons, e] at h2
  exact lv_ishr C.1 C.2.1 hd h2

theorem js_ladd (C : jAt E p R s m args meth c mm n0 n1) {x y : Int} (hd : decode (jM mm).2.1 pc = .ok (.ladd, 1)) (k : jWj E p l e R s m args below meth c Q mm n0 n1 (pc + 1) ls (.inr (.inl (jw64 (x + y))) :: st) n r h) : jWj E p l e R s m args below meth c Q mm n0 n1 pc ls (.inr (.inl y) :: .inr (.inl x) :: st) n r h := fun lsS H locs hS => by
  have h2 := k lsS H locs (jS_st hS (jok2 hS.2.2.2.1 (j64_r _)))
  have e : jtv E (.inr (.inl (jw64 (x + y)))) = .long (Int64.ofInt x + Int64.ofInt y) := congrArg Value.long ((jof64 _).trans (Int64.ofInt_add x y))
  rw [List.map_cons, e] at h2
  exact lv_ladd C.1 C.2.1 hd h2

theorem js_lsub (C : jAt E p R s m args meth c mm n0 n1) {x y : Int} (hd : decode (jM mm).2.1 pc = .ok (.lsub, 1)) (k : jWj E p l e R s m args below meth c Q mm n0 n1 (pc + 1) ls (.inr (.inl (jw64 (x - y))) :: st) n r h) : jWj E p l e R s m args below meth c Q mm n0 n1 pc ls (.inr (.inl y) :: .inr (.inl x) :: st) n r h := fun lsS H locs hS => by
  have h2 := k lsS H locs (jS_st hS (jok2 hS.2.2.2.1 (j64_r _)))
  have e : jtv E (.inr (.inl (jw64 (x - y)))) = .long (Int64.ofInt x - Int64.ofInt y) := congrArg Value.long ((jof64 _).trans (Int64.ofInt_sub x y))
  rw [List.map_cons, e] at h2
  exact lv_lsub C.1 C.2.1 hd h2

theorem js_lmul (C : jAt E p R s m args meth c mm n0 n1) {x y : Int} (hd : decode (jM mm).2.1 pc = .ok (.lmul, 1)) (k : jWj E p l e R s m args below meth c Q mm n0 n1 (pc + 1) ls (.inr (.inl (jw64 (x * y))) :: st) n r h) : jWj E p l e R s m args below meth c Q mm n0 n1 pc ls (.inr (.inl y) :: .inr (.inl x) :: st) n r h := fun lsS H locs hS => by
  have h2 := k lsS H locs (jS_st hS (jok2 hS.2.2.2.1 (j64_r _)))
  have e : jtv E (.inr (.inl (jw64 (x * y)))) = .long (Int64.ofInt x * Int64.ofInt y) := congrArg Value.long ((jof64 _).trans (Int64.ofInt_mul x y))
  rw [List.map_cons, e] at h2
  exact lv_lmul C.1 C.2.1 hd h2

theorem js_idiv (C : jAt E p R s m args meth c mm n0 n1) {x y : Int} (hy : y ≠ 0) (hd : decode (jM mm).2.1 pc = .ok (.idiv, 1)) (k : jWj E p l e R s m args below meth c Q mm n0 n1 (pc + 1) ls (.inl (jw32 (x.tdiv y)) :: st) n r h) : jWj E p l e R s m args below meth c Q mm n0 n1 pc ls (.inl y :: .inl x :: st) n r h := fun lsS H locs hS => by
  have hy0 : jR32 y := hS.2.2.2.1 _ List.mem_cons_self
  have hx0 : jR32 x := hS.2.2.2.1 _ (List.mem_cons_of_mem _ List.mem_cons_self)
  have h2 := k lsS H locs (jS_st hS (jok2 hS.2.2.2.1 (j32_r _)))
  have e : jtv E (.inl (jw32 (x.tdiv y))) = .int (Int32.ofInt x / Int32.ofInt y) := congrArg Value.int ((jof32 _).trans (jdiv32 hx0 hy0))
  rw [List.map_cons, e] at h2
  exact lv_idiv C.1 C.2.1 hd (fun q => hy ((jz32 hy0).mp q)) h2
theorem js_irem (C : jAt E p R s m args meth c mm n0 n1) {x y : Int} (hy : y ≠ 0) (hd : decode (jM mm).2.1 pc = .ok (.irem, 1)) (k : jWj E p l e R s m args below meth c Q mm n0 n1 (pc + 1) ls (.inl (x.tmod y) :: st) n r h) : jWj E p l e R s m args below meth c Q mm n0 n1 pc ls (.inl y :: .inl x :: st) n r h := fun lsS H locs hS => by
  have hy0 : jR32 y := hS.2.2.2.1 _ List.mem_cons_self
  have hx0 : jR32 x := hS.2.2.2.1 _ (List.mem_cons_of_mem _ List.mem_cons_self)
  have h2 := k lsS H locs (jS_st hS (jok2 hS.2.2.2.1 (jtmr (y := y) (by omega) (by omega) hx0.1 hx0.2)))
  have e : jtv E (.inl (x.tmod y)) = .int (Int32.ofInt x - Int32.ofInt x / Int32.ofInt y * Int32.ofInt y) := congrArg Value.int (jrem32 hx0 hy0)
  rw [List.map_cons, e] at h2
  exact lv_irem C.1 C.2.1 hd (fun q => hy ((jz32 hy0).mp q)) h2
theorem js_ldiv (C : jAt E p R s m args meth c mm n0 n1) {x y : Int} (hy : y ≠ 0) (hd : decode (jM mm).2.1 pc = .ok (.ldiv, 1)) (k : jWj E p l e R s m args below meth c Q mm n0 n1 (pc + 1) ls (.inr (.inl (jw64 (x.tdiv y))) :: st) n r h) : jWj E p l e R s m args below meth c Q mm n0 n1 pc ls (.inr (.inl y) :: .inr (.inl x) :: st) n r h := fun lsS H locs hS => by
  have hy0 : jR64 y := hS.2.2.2.1 _ List.mem_cons_self
  have hx0 : jR64 x := hS.2.2.2.1 _ (List.mem_cons_of_mem _ List.mem_cons_self)
  have h2 := k lsS H locs (jS_st hS (jok2 hS.2.2.2.1 (j64_r _)))
  have e : jtv E (.inr (.inl (jw64 (x.tdiv y)))) = .long (Int64.ofInt x / Int64.ofInt y) := congrArg Value.long ((jof64 _).trans (jdiv64 hx0 hy0))
  rw [List.map_cons, e] at h2
  exact lv_ldiv C.1 C.2.1 hd (fun q => hy ((jz64 hy0).mp q)) h2
theorem js_lrem (C : jAt E p R s m args meth c mm n0 n1) {x y : Int} (hy : y ≠ 0) (hd : decode (jM mm).2.1 pc = .ok (.lrem, 1)) (k : jWj E p l e R s m args below meth c Q mm n0 n1 (pc + 1) ls (.inr (.inl (x.tmod y)) :: st) n r h) : jWj E p l e R s m args below meth c Q mm n0 n1 pc ls (.inr (.inl y) :: .inr (.inl x) :: st) n r h := fun lsS H locs hS => by
  have hy0 : jR64 y := hS.2.2.2.1 _ List.mem_cons_self
  have hx0 : jR64 x := hS.2.2.2.1 _ (List.mem_cons_of_mem _ List.mem_cons_self)
  have h2 := k lsS H locs (jS_st hS (jok2 hS.2.2.2.1 (jtmr (y := y) (by omega) (by omega) hx0.1 hx0.2)))
  have e : jtv E (.inr (.inl (x.tmod y))) = .long (Int64.ofInt x - Int64.ofInt x / Int64.ofInt y * Int64.ofInt y) := congrArg Value.long (jrem64 hx0 hy0)
  rw [List.map_cons, e] at h2
  exact lv_lrem C.1 C.2.1 hd (fun q => hy ((jz64 hy0).mp q)) h2
theorem js_ineg (C : jAt E p R s m args meth c mm n0 n1) {x : Int} (hd : decode (jM mm).2.1 pc = .ok (.ineg, 1)) (k : jWj E p l e R s m args below meth c Q mm n0 n1 (pc + 1) ls (.inl (jw32 (-x)) :: st) n r h) : jWj E p l e R s m args below meth c Q mm n0 n1 pc ls (.inl x :: st) n r h := fun lsS H locs hS => by
  have h2 := k lsS H locs (jS_st hS (jok1 hS.2.2.2.1 (j32_r _)))
  have e : jtv E (.inl (jw32 (-x))) = .int (-Int32.ofInt x) := congrArg Value.int ((jof32 _).trans (Int32.ofInt_neg x))
  rw [List.map_cons, e] at h2
  exact lv_ineg C.1 C.2.1 hd h2
theorem js_i2l (C : jAt E p R s m args meth c mm n0 n1) {x : Int} (hd : decode (jM mm).2.1 pc = .ok (.i2l, 1)) (k : jWj E p l e R s m args below meth c Q mm n0 n1 (pc + 1) ls (.inr (.inl x) :: st) n r h) : jWj E p l e R s m args below meth c Q mm n0 n1 pc ls (.inl x :: st) n r h := fun lsS H locs hS => by
  have hx0 : jR32 x := hS.2.2.2.1 _ List.mem_cons_self
  have h2 := k lsS H locs (jS_st hS (jok1 hS.2.2.2.1 ⟨by have := hx0.1; omega, by have := hx0.2; omega⟩))
  exact lv_i2l (v := Int64.ofInt x) C.1 C.2.1 hd (by rw [← Int64.ofInt_int32ToInt, jto32 hx0]) h2
theorem js_l2i (C : jAt E p R s m args meth c mm n0 n1) {x : Int} (hd : decode (jM mm).2.1 pc = .ok (.l2i, 1)) (k : jWj E p l e R s m args below meth c Q mm n0 n1 (pc + 1) ls (.inl (jw32 x) :: st) n r h) : jWj E p l e R s m args below meth c Q mm n0 n1 pc ls (.inr (.inl x) :: st) n r h := fun lsS H locs hS => by
  have hx0 : jR64 x := hS.2.2.2.1 _ List.mem_cons_self
  have h2 := k lsS H locs (jS_st hS (jok1 hS.2.2.2.1 (j32_r _)))
  exact lv_l2i (v := Int32.ofInt (jw32 x)) C.1 C.2.1 hd (by rw [← Int32.ofInt_int64ToInt, jto64 hx0, jof32]) h2
theorem js_lcmp (C : jAt E p R s m args meth c mm n0 n1) {x y : Int} (hd : decode (jM mm).2.1 pc = .ok (.lcmp, 1)) (k : jWj E p l e R s m args below meth c Q mm n0 n1 (pc + 1) ls (.inl (jlc x y) :: st) n r h) : jWj E p l e R s m args below meth c Q mm n0 n1 pc ls (.inr (.inl y) :: .inr (.inl x) :: st) n r h := fun lsS H locs hS => by
  have hy0 : jR64 y := hS.2.2.2.1 _ List.mem_cons_self
  have hx0 : jR64 x := hS.2.2.2.1 _ (List.mem_cons_of_mem _ List.mem_cons_self)
  have h2 := k lsS H locs (jS_st hS (jok2 hS.2.2.2.1 (by unfold jlc; split; exact ⟨by omega, by omega⟩; split <;> exact ⟨by omega, by omega⟩)))
  have e : jtv E (.inl (jlc x y)) = .int (lg_cmp (Int64.ofInt x) (Int64.ofInt y)) := by
    refine congrArg Value.int ?_
    unfold jlc lg_cmp
    by_cases h1 : y < x
    · rw [if_pos h1, if_pos ((jlt64 hy0 hx0).mpr h1)]; rfl
    · rw [if_neg h1, if_neg (fun q => h1 ((jlt64 hy0 hx0).mp q))]
      by_cases h2 : x = y
      · rw [if_pos h2, if_pos ((jeq64 hx0 hy0).mpr h2)]; rfl
      · rw [if_neg h2, if_neg (fun q => h2 ((jeq64 hx0 hy0).mp q))]; rfl
  rw [List.map_cons, e] at h2
  exact W.lcmp C.1 C.2.1 hd h2
theorem jcat1 (E : JE) (v : JV) (h : ∀ z, v ≠ .inr (.inl z)) : (jtv E v).category = 1 := by
  rcases lv_cat (jtv E v) with h1 | h1
  · exact h1
  · obtain ⟨z, hz⟩ := (jcat_tv E v).mp h1
    exact absurd hz (h z)
theorem js_dup (C : jAt E p R s m args meth c mm n0 n1) {v : JV} (hv : ∀ z, v ≠ .inr (.inl z)) (hd : decode (jM mm).2.1 pc = .ok (.dup, 1)) (k : jWj E p l e R s m args below meth c Q mm n0 n1 (pc + 1) ls (v :: v :: st) n r h) : jWj E p l e R s m args below meth c Q mm n0 n1 pc ls (v :: st) n r h := fun lsS H locs hS =>
  lv_dup C.1 C.2.1 hd (jcat1 E v hv) (k lsS H locs (jS_st hS (jokc hS.2.2.2.1 (hS.2.2.2.1 _ List.mem_cons_self))))
theorem js_pop (C : jAt E p R s m args meth c mm n0 n1) {v : JV} (hv : ∀ z, v ≠ .inr (.inl z)) (hd : decode (jM mm).2.1 pc = .ok (.pop, 1)) (k : jWj E p l e R s m args below meth c Q mm n0 n1 (pc + 1) ls st n r h) : jWj E p l e R s m args below meth c Q mm n0 n1 pc ls (v :: st) n r h := fun lsS H locs hS =>
  lv_pop C.1 C.2.1 hd (jcat1 E v hv) (k lsS H locs (jS_st hS (jokd hS.2.2.2.1)))
theorem js_dup2 (C : jAt E p R s m args meth c mm n0 n1) {v w : JV} (hv : ∀ z, v ≠ .inr (.inl z)) (hw : ∀ z, w ≠ .inr (.inl z)) (hd : decode (jM mm).2.1 pc = .ok (.dup2, 1)) (k : jWj E p l e R s m args below meth c Q mm n0 n1 (pc + 1) ls (v :: w :: v :: w :: st) n r h) : jWj E p l e R s m args below meth c Q mm n0 n1 pc ls (v :: w :: st) n r h := fun lsS H locs hS =>
  lv_dup2_11 C.1 C.2.1 hd (jcat1 E v hv) (jcat1 E w hw) (k lsS H locs (jS_st hS (jokc (jokc hS.2.2.2.1 (hS.2.2.2.1 _ (List.mem_cons_of_mem _ List.mem_cons_self))) (hS.2.2.2.1 _ List.mem_cons_self))))
-- branches

theorem js_if_eq (C : jAt E p R s m args meth c mm n0 n1) {x off : Int} {a : Nat} (ha : (pc : Int) + off = (a : Int)) (hd : decode (jM mm).2.1 pc = .ok (.ifCond .eq off, 3)) (kt : x = 0 → jWj E p l e R s m args below meth c Q mm n0 n1 a ls st n r h) (kf : ¬ (x = 0) → jWj E p l e R s m args below meth c Q mm n0 n1 (pc + 3) ls st n r h) : jWj E p l e R s m args below meth c Q mm n0 n1 pc ls (.inl x :: st) n r h := fun lsS H locs hS => by
  have hx0 : jR32 x := hS.2.2.2.1 _ List.mem_cons_self
  have hS' := jS_st hS (jokd hS.2.2.2.1)
  have jr0 : jR32 0 := ⟨by omega, by omega⟩
  have e1 : Int32.ofInt x < 0 ↔ x < 0 := jlt32 (y := 0) hx0 jr0
  have e2 : (0 : Int32) < Int32.ofInt x ↔ 0 < x := jlt32 (x := 0) jr0 hx0
  have e3 : Int32.ofInt x = 0 ↔ x = 0 := jz32 hx0
  have e4 : Int32.ofInt x ≤ 0 ↔ x ≤ 0 := jle32 (y := 0) hx0 jr0
  have e5 : (0 : Int32) ≤ Int32.ofInt x ↔ 0 ≤ x := jle32 (x := 0) jr0 hx0
  refine lv_if_eq (x := Int32.ofInt x) C.1 C.2.1 hd ha (fun q => kt ?_ lsS H locs hS') (fun q => kf ?_ lsS H locs hS')
  · simp only [ge_iff_le, gt_iff_lt, Int32.not_lt, Int32.not_le, e1, e2, e3, e4, e5] at q
    omega
  · simp only [ge_iff_le, gt_iff_lt, Int32.not_lt, Int32.not_le, e1, e2, e3, e4, e5] at q
    omega

theorem js_if_ne (C : jAt E p R s m args meth c mm n0 n1) {x off : Int} {a : Nat} (ha : (pc : Int) + off = (a : Int)) (hd : decode (jM mm).2.1 pc = .ok (.ifCond .ne off, 3)) (kt : ¬ x = 0 → jWj E p l e R s m args below meth c Q mm n0 n1 a ls st n r h) (kf : ¬ (¬ x = 0) → jWj E p l e R s m args below meth c Q mm n0 n1 (pc + 3) ls st n r h) : jWj E p l e R s m args below meth c Q mm n0 n1 pc ls (.inl x :: st) n r h := fun lsS H locs hS => by
  have hx0 : jR32 x := hS.2.2.2.1 _ List.mem_cons_self
  have hS' := jS_st hS (jokd hS.2.2.2.1)
  have jr0 : jR32 0 := ⟨by omega, by omega⟩
  have e1 : Int32.ofInt x < 0 ↔ x < 0 := jlt32 (y := 0) hx0 jr0
  have e2 : (0 : Int32) < Int32.ofInt x ↔ 0 < x := jlt32 (x := 0) jr0 hx0
  have e3 : Int32.ofInt x = 0 ↔ x = 0 := jz32 hx0
  have e4 : Int32.ofInt x ≤ 0 ↔ x ≤ 0 := jle32 (y := 0) hx0 jr0
  have e5 : (0 : Int32) ≤ Int32.ofInt x ↔ 0 ≤ x := jle32 (x := 0) jr0 hx0
  refine lv_if_ne (x := Int32.ofInt x) C.1 C.2.1 hd ha (fun q => kt ?_ lsS H locs hS') (fun q => kf ?_ lsS H locs hS')
  · simp only [ge_iff_le, gt_iff_lt, Int32.not_lt, Int32.not_le, e1, e2, e3, e4, e5] at q
    omega
  · simp only [ge_iff_le, gt_iff_lt, Int32.not_lt, Int32.not_le, e1, e2, e3, e4, e5] at q
    omega

theorem js_if_lt (C : jAt E p R s m args meth c mm n0 n1) {x off : Int} {a : Nat} (ha : (pc : Int) + off = (a : Int)) (hd : decode (jM mm).2.1 pc = .ok (.ifCond .lt off, 3)) (kt : x < 0 → jWj E p l e R s m args below meth c Q mm n0 n1 a ls st n r h) (kf : ¬ (x < 0) → jWj E p l e R s m args below meth c Q mm n0 n1 (pc + 3) ls st n r h) : jWj E p l e R s m args below meth c Q mm n0 n1 pc ls (.inl x :: st) n r h := fun lsS H locs hS => by
  have hx0 : jR32 x := hS.2.2.2.1 _ List.mem_cons_self
  have hS' := jS_st hS (jokd hS.2.2.2.1)
  have jr0 : jR32 0 := ⟨by omega, by omega⟩
  have e1 : Int32.ofInt x < 0 ↔ x < 0 := jlt32 (y := 0) hx0 jr0
  have e2 : (0 : Int32) < Int32.ofInt x ↔ 0 < x := jlt32 (x := 0) jr0 hx0
  have e3 : Int32.ofInt x = 0 ↔ x = 0 := jz32 hx0
  have e4 : Int32.ofInt x ≤ 0 ↔ x ≤ 0 := jle32 (y := 0) hx0 jr0
  have e5 : (0 : Int32) ≤ Int32.ofInt x ↔ 0 ≤ x := jle32 (x := 0) jr0 hx0
  refine lv_if_lt (x := Int32.ofInt x) C.1 C.2.1 hd ha (fun q => kt ?_ lsS H locs hS') (fun q => kf ?_ lsS H locs hS')
  · simp only [ge_iff_le, gt_iff_lt, Int32.not_lt, Int32.not_le, e1, e2, e3, e4, e5] at q
    omega
  · simp only [ge_iff_le, gt_iff_lt, Int32.not_lt, Int32.not_le, e1, e2, e3, e4, e5] at q
    omega

theorem js_if_ge (C : jAt E p R s m args meth c mm n0 n1) {x off : Int} {a : Nat} (ha : (pc : Int) + off = (a : Int)) (hd : decode (jM mm).2.1 pc = .ok (.ifCond .ge off, 3)) (kt : 0 ≤ x → jWj E p l e R s m args below meth c Q mm n0 n1 a ls st n r h) (kf : ¬ (0 ≤ x) → jWj E p l e R s m args below meth c Q mm n0 n1 (pc + 3) ls st n r h) : jWj E p l e R s m args below meth c Q mm n0 n1 pc ls (.inl x :: st) n r h := fun lsS H locs hS => by
  have hx0 : jR32 x := hS.2.2.2.1 _ List.mem_cons_self
  have hS' := jS_st hS (jokd hS.2.2.2.1)
  have jr0 : jR32 0 := ⟨by omega, by omega⟩
  have e1 : Int32.ofInt x < 0 ↔ x < 0 := jlt32 (y := 0) hx0 jr0
  have e2 : (0 : Int32) < Int32.ofInt x ↔ 0 < x := jlt32 (x := 0) jr0 hx0
  have e3 : Int32.ofInt x = 0 ↔ x = 0 := jz32 hx0
  have e4 : Int32.ofInt x ≤ 0 ↔ x ≤ 0 := jle32 (y := 0) hx0 jr0
  have e5 : (0 : Int32) ≤ Int32.ofInt x ↔ 0 ≤ x := jle32 (x := 0) jr0 hx0
  refine lv_if_ge (x := Int32.ofInt x) C.1 C.2.1 hd ha (fun q => kt ?_ lsS H locs hS') (fun q => kf ?_ lsS H locs hS')
  · simp only [ge_iff_le, gt_iff_lt, Int32.not_lt, Int32.not_le, e1, e2, e3, e4, e5] at q
    omega
  · simp only [ge_iff_le, gt_iff_lt, Int32.not_lt, Int32.not_le, e1, e2, e3, e4, e5] at q
    omega

theorem js_if_gt (C : jAt E p R s m args meth c mm n0 n1) {x off : Int} {a : Nat} (ha : (pc : Int) + off = (a : Int)) (hd : decode (jM mm).2.1 pc = .ok (.ifCond .gt off, 3)) (kt : 0 < x → jWj E p l e R s m args below meth c Q mm n0 n1 a ls st n r h) (kf : ¬ (0 < x) → jWj E p l e R s m args below meth c Q mm n0 n1 (pc + 3) ls st n r h) : jWj E p l e R s m args below meth c Q mm n0 n1 pc ls (.inl x :: st) n r h := fun lsS H locs hS => by
  have hx0 : jR32 x := hS.2.2.2.1 _ List.mem_cons_self
  have hS' := jS_st hS (jokd hS.2.2.2.1)
  have jr0 : jR32 0 := ⟨by omega, by omega⟩
  have e1 : Int32.ofInt x < 0 ↔ x < 0 := jlt32 (y := 0) hx0 jr0
  have e2 : (0 : Int32) < Int32.ofInt x ↔ 0 < x := jlt32 (x := 0) jr0 hx0
  have e3 : Int32.ofInt x = 0 ↔ x = 0 := jz32 hx0
  have e4 : Int32.ofInt x ≤ 0 ↔ x ≤ 0 := jle32 (y := 0) hx0 jr0
  have e5 : (0 : Int32) ≤ Int32.ofInt x ↔ 0 ≤ x := jle32 (x := 0) jr0 hx0
  refine lv_if_gt (x := Int32.ofInt x) C.1 C.2.1 hd ha (fun q => kt ?_ lsS H locs hS') (fun q => kf ?_ lsS H locs hS')
  · simp only [ge_iff_le, gt_iff_lt, Int32.not_lt, Int32.not_le, e1, e2, e3, e4, e5] at q
    omega
  · simp only [ge_iff_le, gt_iff_lt, Int32.not_lt, Int32.not_le, e1, e2, e3, e4, e5] at q
    omega

theorem js_if_le (C : jAt E p R s m args meth c mm n0 n1) {x off : Int} {a : Nat} (ha : (pc : Int) + off = (a : Int)) (hd : decode (jM mm).2.1 pc = .ok (.ifCond .le off, 3)) (kt : x ≤ 0 → jWj E p l e R s m args below meth c Q mm n0 n1 a ls st n r h) (kf : ¬ (x ≤ 0) → jWj E p l e R s m args below meth c Q mm n0 n1 (pc + 3) ls st n r h) : jWj E p l e R s m args below meth c Q mm n0 n1 pc ls (.inl x :: st) n r h := fun lsS H locs hS => by
  have hx0 : jR32 x := hS.2.2.2.1 _ List.mem_cons_self
  have hS' := jS_st hS (jokd hS.2.2.2.1)
  have jr0 : jR32 0 := ⟨by omega, by omega⟩
  have e1 : Int32.ofInt x < 0 ↔ x < 0 := jlt32 (y := 0) hx0 jr0
  have e2 : (0 : Int32) < Int32.ofInt x ↔ 0 < x := jlt32 (x := 0) jr0 hx0
  have e3 : Int32.ofInt x = 0 ↔ x = 0 := jz32 hx0
  have e4 : Int32.ofInt x ≤ 0 ↔ x ≤ 0 := jle32 (y := 0) hx0 jr0
  have e5 : (0 : Int32) ≤ Int32.ofInt x ↔ 0 ≤ x := jle32 (x := 0) jr0 hx0
  refine lv_if_le (x := Int32.ofInt x) C.1 C.2.1 hd ha (fun q => kt ?_ lsS H locs hS') (fun q => kf ?_ lsS H locs hS')
  · simp only [ge_iff_le, gt_iff_lt, Int32.not_lt, Int32.not_le, e1, e2, e3, e4, e5] at q
    omega
  · simp only [ge_iff_le, gt_iff_lt, Int32.not_lt, Int32.not_le, e1, e2, e3, e4, e5] at q
    omega

theorem js_icmp_eq (C : jAt E p R s m args meth c mm n0 n1) {x y off : Int} {a : Nat} (ha : (pc : Int) + off = (a : Int)) (hd : decode (jM mm).2.1 pc = .ok (.if_icmp .eq off, 3)) (kt : x = y → jWj E p l e R s m args below meth c Q mm n0 n1 a ls st n r h) (kf : ¬ (x = y) → jWj E p l e R s m args below meth c Q mm n0 n1 (pc + 3) ls st n r h) : jWj E p l e R s m args below meth c Q mm n0 n1 pc ls (.inl y :: .inl x :: st) n r h := fun lsS H locs hS => by
  have hy0 : jR32 y := hS.2.2.2.1 _ List.mem_cons_self
  have hx0 : jR32 x := hS.2.2.2.1 _ (List.mem_cons_of_mem _ List.mem_cons_self)
  have hS' := jS_st hS (jokd (jokd hS.2.2.2.1))
  have e1 : Int32.ofInt x < Int32.ofInt y ↔ x < y := jlt32 hx0 hy0
  have e2 : Int32.ofInt y < Int32.ofInt x ↔ y < x := jlt32 hy0 hx0
  have e3 : Int32.ofInt x = Int32.ofInt y ↔ x = y := jeq32 hx0 hy0
  have e4 : Int32.ofInt x ≤ Int32.ofInt y ↔ x ≤ y := jle32 hx0 hy0
  have e5 : Int32.ofInt y ≤ Int32.ofInt x ↔ y ≤ x := jle32 hy0 hx0
  refine lv_icmp_eq (x := Int32.ofInt x) (y := Int32.ofInt y) C.1 C.2.1 hd ha (fun q => kt ?_ lsS H locs hS') (fun q => kf ?_ lsS H locs hS')
  · simp only [ge_iff_le, gt_iff_lt, Int32.not_lt, Int32.not_le, e1, e2, e3, e4, e5] at q
    omega
  · simp only [ge_iff_le, gt_iff_lt, Int32.not_lt, Int32.not_le, e1, e2, e3, e4, e5] at q
    omega

theorem js_icmp_ne (C : jAt E p R s m args meth c mm n0 n1) {x y off : Int} {a : Nat} (ha : (pc : Int) + off = (a : Int)) (hd : decode (jM mm).2.1 pc = .ok (.if_icmp .ne off, 3)) (kt : ¬ x = y → jWj E p l e R s m args below meth c Q mm n0 n1 a ls st n r h) (kf : ¬ (¬ x = y) → jWj E p l e R s m args below meth c Q mm n0 n1 (pc + 3) ls st n r h) : jWj E p l e R s m args below meth c Q mm n0 n1 pc ls (.inl y :: .inl x :: st) n r h := fun lsS H locs hS => by
  have hy0 : jR32 y := hS.2.2.2.1 _ List.mem_cons_self
  have hx0 : jR32 x := hS.2.2.2.1 _ (List.mem_cons_of_mem _ List.mem_cons_self)
  have hS' := jS_st hS (jokd (jokd hS.2.2.2.1))
  have e1 : Int32.ofInt x < Int32.ofInt y ↔ x < y := jlt32 hx0 hy0
  have e2 : Int32.ofInt y < Int32.ofInt x ↔ y < x := jlt32 hy0 hx0
  have e3 : Int32.ofInt x = Int32.ofInt y ↔ x = y := jeq32 hx0 hy0
  have e4 : Int32.ofInt x ≤ Int32.ofInt y ↔ x ≤ y := jle32 hx0 hy0
  have e5 : Int32.ofInt y ≤ Int32.ofInt x ↔ y ≤ x := jle32 hy0 hx0
  refine lv_icmp_ne (x := Int32.ofInt x) (y := Int32.ofInt y) C.1 C.2.1 hd ha (fun q => kt ?_ lsS H locs hS') (fun q => kf ?_ lsS H locs hS')
  · simp only [ge_iff_le, gt_iff_lt, Int32.not_lt, Int32.not_le, e1, e2, e3, e4, e5] at q
    omega
  · simp only [ge_iff_le, gt_iff_lt, Int32.not_lt, Int32.not_le, e1, e2, e3, e4, e5] at q
    omega

theorem js_icmp_lt (C : jAt E p R s m args meth c mm n0 n1) {x y off : Int} {a : Nat} (ha : (pc : Int) + off = (a : Int)) (hd : decode (jM mm).2.1 pc = .ok (.if_icmp .lt off, 3)) (kt : x < y → jWj E p l e R s m args below meth c Q mm n0 n1 a ls st n r h) (kf : ¬ (x < y) → jWj E p l e R s m args below meth c Q mm n0 n1 (pc + 3) ls st n r h) : jWj E p l e R s m args below meth c Q mm n0 n1 pc ls (.inl y :: .inl x :: st) n r h := fun lsS H locs hS => by
  have hy0 : jR32 y := hS.2.2.2.1 _ List.mem_cons_self
  have hx0 : jR32 x := hS.2.2.2.1 _ (List.mem_cons_of_mem _ List.mem_cons_self)
  have hS' := jS_st hS (jokd (jokd hS.2.2.2.1))
  have e1 : Int32.ofInt x < Int32.ofInt y ↔ x < y := jlt32 hx0 hy0
  have e2 : Int32.ofInt y < Int32.ofInt x ↔ y < x := jlt32 hy0 hx0
  have e3 : Int32.ofInt x = Int32.ofInt y ↔ x = y := jeq32 hx0 hy0
  have e4 : Int32.ofInt x ≤ Int32.ofInt y ↔ x ≤ y := jle32 hx0 hy0
  have e5 : Int32.ofInt y ≤ Int32.ofInt x ↔ y ≤ x := jle32 hy0 hx0
  refine lv_icmp_lt (x := Int32.ofInt x) (y := Int32.ofInt y) C.1 C.2.1 hd ha (fun q => kt ?_ lsS H locs hS') (fun q => kf ?_ lsS H locs hS')
  · simp only [ge_iff_le, gt_iff_lt, Int32.not_lt, Int32.not_le, e1, e2, e3, e4, e5] at q
    omega
  · simp only [ge_iff_le, gt_iff_lt, Int32.not_lt, Int32.not_le, e1, e2, e3, e4, e5] at q
    omega

theorem js_icmp_ge (C : jAt E p R s m args meth c mm n0 n1) {x y off : Int} {a : Nat} (ha : (pc : Int) + off = (a : Int)) (hd : decode (jM mm).2.1 pc = .ok (.if_icmp .ge off, 3)) (kt : y ≤ x → jWj E p l e R s m args below meth c Q mm n0 n1 a ls st n r h) (kf : ¬ (y ≤ x) → jWj E p l e R s m args below meth c Q mm n0 n1 (pc + 3) ls st n r h) : jWj E p l e R s m args below meth c Q mm n0 n1 pc ls (.inl y :: .inl x :: st) n r h := fun lsS H locs hS => by
  have hy0 : jR32 y := hS.2.2.2.1 _ List.mem_cons_self
  have hx0 : jR32 x := hS.2.2.2.1 _ (List.mem_cons_of_mem _ List.mem_cons_self)
  have hS' := jS_st hS (jokd (jokd hS.2.2.2.1))
  have e1 : Int32.ofInt x < Int32.ofInt y ↔ x < y := jlt32 hx0 hy0
  have e2 : Int32.ofInt y < Int32.ofInt x ↔ y < x := jlt32 hy0 hx0
  have e3 : Int32.ofInt x = Int32.ofInt y ↔ x = y := jeq32 hx0 hy0
  have e4 : Int32.ofInt x ≤ Int32.ofInt y ↔ x ≤ y := jle32 hx0 hy0
  have e5 : Int32.ofInt y ≤ Int32.ofInt x ↔ y ≤ x := jle32 hy0 hx0
  refine lv_icmp_ge (x := Int32.ofInt x) (y := Int32.ofInt y) C.1 C.2.1 hd ha (fun q => kt ?_ lsS H locs hS') (fun q => kf ?_ lsS H locs hS')
  · simp only [ge_iff_le, gt_iff_lt, Int32.not_lt, Int32.not_le, e1, e2, e3, e4, e5] at q
    omega
  · simp only [ge_iff_le, gt_iff_lt, Int32.not_lt, Int32.not_le, e1, e2, e3, e4, e5] at q
    omega

theorem js_icmp_gt (C : jAt E p R s m args meth c mm n0 n1) {x y off : Int} {a : Nat} (ha : (pc : Int) + off = (a : Int)) (hd : decode (jM mm).2.1 pc = .ok (.if_icmp .gt off, 3)) (kt : y < x → jWj E p l e R s m args below meth c Q mm n0 n1 a ls st n r h) (kf : ¬ (y < x) → jWj E p l e R s m args below meth c Q mm n0 n1 (pc + 3) ls st n r h) : jWj E p l e R s m args below meth c Q mm n0 n1 pc ls (.inl y :: .inl x :: st) n r h := fun lsS H locs hS => by
  have hy0 : jR32 y := hS.2.2.2.1 _ List.mem_cons_self
  have hx0 : jR32 x := hS.2.2.2.1 _ (List.mem_cons_of_mem _ List.mem_cons_self)
  have hS' := jS_st hS (jokd (jokd hS.2.2.2.1))
  have e1 : Int32.ofInt x < Int32.ofInt y ↔ x < y := jlt32 hx0 hy0
  have e2 : Int32.ofInt y < Int32.ofInt x ↔ y < x := jlt32 hy0 hx0
  have e3 : Int32.ofInt x = Int32.ofInt y ↔ x = y := jeq32 hx0 hy0
  have e4 : Int32.ofInt x ≤ Int32.ofInt y ↔ x ≤ y := jle32 hx0 hy0
  have e5 : Int32.ofInt y ≤ Int32.ofInt x ↔ y ≤ x := jle32 hy0 hx0
  refine lv_icmp_gt (x := Int32.ofInt x) (y := Int32.ofInt y) C.1 C.2.1 hd ha (fun q => kt ?_ lsS H locs hS') (fun q => kf ?_ lsS H locs hS')
  · simp only [ge_iff_le, gt_iff_lt, Int32.not_lt, Int32.not_le, e1, e2, e3, e4, e5] at q
    omega
  · simp only [ge_iff_le, gt_iff_lt, Int32.not_lt, Int32.not_le, e1, e2, e3, e4, e5] at q
    omega

theorem js_icmp_le (C : jAt E p R s m args meth c mm n0 n1) {x y off : Int} {a : Nat} (ha : (pc : Int) + off = (a : Int)) (hd : decode (jM mm).2.1 pc = .ok (.if_icmp .le off, 3)) (kt : x ≤ y → jWj E p l e R s m args below meth c Q mm n0 n1 a ls st n r h) (kf : ¬ (x ≤ y) → jWj E p l e R s m args below meth c Q mm n0 n1 (pc + 3) ls st n r h) : jWj E p l e R s m args below meth c Q mm n0 n1 pc ls (.inl y :: .inl x :: st) n r h := fun lsS H locs hS => by
  have hy0 : jR32 y := hS.2.2.2.1 _ List.mem_cons_self
  have hx0 : jR32 x := hS.2.2.2.1 _ (List.mem_cons_of_mem _ List.mem_cons_self)
  have hS' := jS_st hS (jokd (jokd hS.2.2.2.1))
  have e1 : Int32.ofInt x < Int32.ofInt y ↔ x < y := jlt32 hx0 hy0
  have e2 : Int32.ofInt y < Int32.ofInt x ↔ y < x := jlt32 hy0 hx0
  have e3 : Int32.ofInt x = Int32.ofInt y ↔ x = y := jeq32 hx0 hy0
  have e4 : Int32.ofInt x ≤ Int32.ofInt y ↔ x ≤ y := jle32 hx0 hy0
  have e5 : Int32.ofInt y ≤ Int32.ofInt x ↔ y ≤ x := jle32 hy0 hx0
  refine lv_icmp_le (x := Int32.ofInt x) (y := Int32.ofInt y) C.1 C.2.1 hd ha (fun q => kt ?_ lsS H locs hS') (fun q => kf ?_ lsS H locs hS')
  · simp only [ge_iff_le, gt_iff_lt, Int32.not_lt, Int32.not_le, e1, e2, e3, e4, e5] at q
    omega
  · simp only [ge_iff_le, gt_iff_lt, Int32.not_lt, Int32.not_le, e1, e2, e3, e4, e5] at q
    omega

theorem js_goto (C : jAt E p R s m args meth c mm n0 n1) {off : Int} {a : Nat} (ha : (pc : Int) + off = (a : Int)) (hd : decode (jM mm).2.1 pc = .ok (.goto off, 3)) (k : jWj E p l e R s m args below meth c Q mm n0 n1 a ls st n r h) : jWj E p l e R s m args below meth c Q mm n0 n1 pc ls st n r h := fun lsS H locs hS =>
  lv_goto C.1 C.2.1 hd ha (k lsS H locs hS)
theorem jswt_at (NX : JN) (pc : Nat) (x : Int) (ls st : List JV) (n : Nat) (r h : JH) : ∀ (os : List Int) (lo : Int), jswt NX pc x lo os ls st n r h → ∀ (j : Nat) (o : Int), os[j]? = some o → x = lo + j → NX ((pc : Int) + o).toNat ls st n r h
  | [], lo, hh, j, o, ho, hx => by simp at ho
  | o0 :: os, lo, hh, 0, o, ho, hx => by
    simp at ho
    subst ho
    exact hh.1 (by simpa using hx)
  | o0 :: os, lo, hh, j + 1, o, ho, hx => jswt_at NX pc x ls st n r h os (lo + 1) hh.2 j o (by simpa using ho) (by omega)
theorem js_tsw (C : jAt E p R s m args meth c mm n0 n1) {x d lo hi : Int} {os : Array Int} {len : Nat} (h0 : 0 ≤ (pc : Int) + d) (hsz : (os.size : Int) = hi - lo + 1) (hos : os.toList.all (fun o => decide (0 ≤ (pc : Int) + o)) = true) (hd : decode (jM mm).2.1 pc = .ok (.tableswitch d lo hi os, len)) (k : jtsw (jWj E p l e R s m args below meth c Q mm n0 n1) pc d lo hi os.toList ls (.inl x :: st) n r h) : jWj E p l e R s m args below meth c Q mm n0 n1 pc ls (.inl x :: st) n r h := fun lsS H locs hS => by
  have hx0 : jR32 x := hS.2.2.2.1 _ List.mem_cons_self
  have hS' := jS_st hS (jokd hS.2.2.2.1)
  have ex : (Int32.ofInt x).toInt = x := jto32 hx0
  obtain ⟨k1, k2⟩ := k
  by_cases hc : x < lo ∨ hi < x
  · refine lv_tableOut (x := Int32.ofInt x) (tgt := ((pc : Int) + d).toNat) C.1 C.2.1 hd (by rw [ex]; exact hc) (by omega) (k1 hc lsS H locs hS')
  · have hj : (x - lo).toNat < os.size := by omega
    have ho : os[(x - lo).toNat]? = some os[(x - lo).toNat] := Array.getElem?_eq_getElem hj
    generalize os[(x - lo).toNat] = o at ho
    have hol : os.toList[(x - lo).toNat]? = some o := by rw [Array.getElem?_toList]; exact ho
    have hp := List.all_eq_true.mp hos o (List.mem_of_getElem? hol)
    simp only [decide_eq_true_eq] at hp
    have k3 := jswt_at _ pc x ls st n r h os.toList lo k2 _ o hol (by omega)
    exact lv_tableIn (x := Int32.ofInt x) (tgt := ((pc : Int) + o).toNat) C.1 C.2.1 hd (by rw [ex]; omega) (by rw [ex]; omega) (by rw [ex]; exact ho) (by omega) (k3 lsS H locs hS')
theorem jswl_at (NX : JN) (pc : Nat) (x d : Int) (ls st : List JV) (n : Nat) (r h : JH) : ∀ (qs : List (Int × Int)), jswl NX pc x d qs ls st n r h → NX ((pc : Int) + Op.lookupswitch.offset qs d x).toNat ls st n r h
  | [], hh => hh
  | (a, o) :: qs, hh => by
    by_cases hx : x = a
    · subst hx
      have e : Op.lookupswitch.offset ((x, o) :: qs) d x = o := by simp [Op.lookupswitch.offset]
      rw [e]
      exact hh.1 rfl
    · have e : Op.lookupswitch.offset ((a, o) :: qs) d x = Op.lookupswitch.offset qs d x := by
        have : ¬ a = x := fun q => hx q.symm
        simp [Op.lookupswitch.offset, this]
      rw [e]
      exact jswl_at NX pc x d ls st n r h qs (hh.2 hx)
theorem joff_in (x d : Int) : ∀ qs : List (Int × Int), Op.lookupswitch.offset qs d x = d ∨ ∃ q ∈ qs, Op.lookupswitch.offset qs d x = q.2
  | [] => Or.inl rfl
  | (a, o) :: qs => by
    by_cases hx : a = x
    · exact Or.inr ⟨(a, o), List.mem_cons_self, by simp [Op.lookupswitch.offset, hx]⟩
    · have e : Op.lookupswitch.offset ((a, o) :: qs) d x = Op.lookupswitch.offset qs d x := by simp [Op.lookupswitch.offset, hx]
      rw [e]
      rcases joff_in x d qs with h1 | ⟨q, h1, h2⟩
      · exact Or.inl h1
      · exact Or.inr ⟨q, List.mem_cons_of_mem _ h1, h2⟩
theorem js_lsw (C : jAt E p R s m args meth c mm n0 n1) {x d : Int} {qs : Array (Int × Int)} {len : Nat} (h0 : 0 ≤ (pc : Int) + d) (hos : qs.toList.all (fun o => decide (0 ≤ (pc : Int) + o.2)) = true) (hso : (qs.toList.zip (qs.toList.drop 1)).all (fun (a, next) => a.1 < next.1) = true) (hd : decode (jM mm).2.1 pc = .ok (.lookupswitch d qs, len)) (k : jlsw (jWj E p l e R s m args below meth c Q mm n0 n1) pc d qs.toList ls (.inl x :: st) n r h) : jWj E p l e R s m args below meth c Q mm n0 n1 pc ls (.inl x :: st) n r h := fun lsS H locs hS => by
  have hx0 : jR32 x := hS.2.2.2.1 _ List.mem_cons_self
  have hS' := jS_st hS (jokd hS.2.2.2.1)
  have ex : (Int32.ofInt x).toInt = x := jto32 hx0
  have k3 := jswl_at _ pc x d ls st n r h qs.toList k
  have hp : 0 ≤ (pc : Int) + Op.lookupswitch.offset qs.toList d x := by
    rcases joff_in x d qs.toList with h1 | ⟨q, h1, h2⟩
    · rw [h1]; exact h0
    · rw [h2]
      have := List.all_eq_true.mp hos q h1
      simpa using this
  exact lv_lookup (x := Int32.ofInt x) (off := Op.lookupswitch.offset qs.toList d x) (tgt := ((pc : Int) + Op.lookupswitch.offset qs.toList d x).toNat) C.1 C.2.1 hd hso (by rw [ex]) (by omega) (k3 lsS H locs hS')
end jrows2
