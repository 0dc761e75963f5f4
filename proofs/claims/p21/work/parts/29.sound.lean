/-! ===== A STRETCH IS SOUND ===== -/
theorem jCI : ∀ ci, ci < 13 → jcw (jCP.getD ci (0, 0)).1 (.instantiable (vwCl.getD ci ("", TX0, 0)).1 (vwCl.getD ci ("", TX0, 0)).2.2) = true ∧ jcw (jCP.getD ci (0, 0)).2 (.initialized (vwCl.getD ci ("", TX0, 0)).1) = true := by decide +kernel
theorem jG_dec {w : Cond} (h : (decide (w ∈ lw_tbl) && goodWord w) = true) : w ∈ jG := by
  simp only [Bool.and_eq_true, decide_eq_true_eq] at h
  exact List.mem_filter.mpr h
theorem jw_int : (Cond.arrayClass .int) ∈ jG := jG_dec (by decide +kernel)
theorem jw_long : (Cond.arrayClass .long) ∈ jG := jG_dec (by decide +kernel)
theorem jw_bool : (Cond.arrayClass .boolean) ∈ jG := jG_dec (by decide +kernel)
theorem jw_obj1 : (Cond.instanceMethod objectInit) ∈ jG := jG_dec (by decide +kernel)
theorem jw_obj2 : (Cond.code objectInit ⟨#[0xb1]⟩ 1 none) ∈ jG := jG_dec (by decide +kernel)
theorem jw_cp1 : (Cond.native arraycopyName) ∈ jG := jG_dec (by decide +kernel)
theorem jw_cp2 : (Cond.static arraycopyName) ∈ jG := jG_dec (by decide +kernel)
theorem jw_cp3 : (Cond.initialized "java/lang/System") ∈ jG := jG_dec (by decide +kernel)
theorem jw_ma : (Cond.initialized "java/lang/Math") ∈ jG := jG_dec (by decide +kernel)
theorem jw_m0 : (Cond.static Lib.Math.min.name) ∈ jG ∧ (Cond.code Lib.Math.min.name Lib.Math.min.code 2 (some .int)) ∈ jG := ⟨jG_dec (by decide +kernel), jG_dec (by decide +kernel)⟩
theorem jw_m1 : (Cond.static Lib.Math.max.name) ∈ jG ∧ (Cond.code Lib.Math.max.name Lib.Math.max.code 2 (some .int)) ∈ jG := ⟨jG_dec (by decide +kernel), jG_dec (by decide +kernel)⟩
theorem jw_m2 : (Cond.static Lib.Math.abs.name) ∈ jG ∧ (Cond.code Lib.Math.abs.name Lib.Math.abs.code 1 (some .int)) ∈ jG := ⟨jG_dec (by decide +kernel), jG_dec (by decide +kernel)⟩
theorem jw_m3 : (Cond.static Lib.MathLoose.min_long.x) ∈ jG ∧ (Cond.code Lib.MathLoose.min_long.x Lib.MathLoose.min_long.code 4 (some .long)) ∈ jG := ⟨jG_dec (by decide +kernel), jG_dec (by decide +kernel)⟩
section jsd
variable {E : JE} {p : Program} {l : Launch} {e : Env} {R : Room} {s : State} {m : MethodId} {args : Array Value} {below : List Frame} {meth : Method} {c : Code} {Q : State → Prop} {mm n0 n1 : Nat} {pc : Nat} {ls st : List JV} {n : Nat} {r h : JH}
/-- what returns owe -/
def jRet (E : JE) (p : Program) (l : Launch) (e : Env) (R : Room) (s : State) (m : MethodId) (args : Array Value) (below : List Frame) (meth : Method) (c : Code) (Q : State → Prop) (mm n0 n1 : Nat) (RT : JR) : Prop :=
  (∀ (pc : Nat) (ls : List JV) (x : Int) (n : Nat) (r h : JH), decode (jM mm).2.1 pc = .ok (.ireturn, 1) → ((jM mm).2.2.2.1 = some .int ∨ ((jM mm).2.2.2.1 = some .boolean ∧ (x = 0 ∨ x = 1))) → RT (some (.inl x)) n r h → jWj E p l e R s m args below meth c Q mm n0 n1 pc ls [.inl x] n r h) ∧
  (∀ (pc : Nat) (ls : List JV) (x : Int) (n : Nat) (r h : JH), decode (jM mm).2.1 pc = .ok (.lreturn, 1) → (jM mm).2.2.2.1 = some .long → RT (some (.inr (.inl x))) n r h → jWj E p l e R s m args below meth c Q mm n0 n1 pc ls [.inr (.inl x)] n r h) ∧
  (∀ (pc : Nat) (ls : List JV) (n : Nat) (r h : JH), decode (jM mm).2.1 pc = .ok (.return_, 1) → (jM mm).2.2.2.1 = none → RT none n r h → jWj E p l e R s m args below meth c Q mm n0 n1 pc ls [] n r h)
theorem js_math (C : jAt E p R s m args meth c mm n0 n1) {b : Int} {idx pp : Nat} (hw : jcw pp (.methodLink (jM mm).1.cls idx (jmn b)) = true) (hf : 1 ≤ (jM mm).2.2.2.2.1 ∧ 23 ≤ (jM mm).2.2.2.2.2.1) (hd : decode (jM mm).2.1 pc = .ok (.invokestatic idx, 3)) (K : jmth b (jWj E p l e R s m args below meth c Q mm n0 n1 (pc + 3)) ls st n r h) : jWj E p l e R s m args below meth c Q mm n0 n1 pc ls st n r h := fun lsS H locs hS => by
  have hfr : 1 ≤ R.frames := by have := C.2.2.2.2.2.2.1; omega
  have hlo : 23 ≤ R.locals := by have := C.2.2.2.2.2.2.2.1; omega
  have hcap := C.2.2.2.2.2.2.2.2.1 n hS.2.2.2.2.2.2.2
  have hml : c.maxLocals = lsS.size := by rw [C.2.2.1]; exact hS.1.1.symm
  have hl := C.2.2.2.2.1 _ (jG_of hw)
  have hok := hS.2.2.2.1
  unfold jmth at K
  split at K
  · rename_i y x s9
    have hx : jR32 x := hok _ (List.mem_cons_of_mem _ List.mem_cons_self)
    have hy : jR32 y := hok _ List.mem_cons_self
    have hr : jok (.inl (if y < x then y else x)) := by by_cases q : y < x <;> simp only [q, if_true, if_false] <;> first | exact hy | exact hx
    have h2 := K.2 lsS H locs (jS_st hS (jok2 hok hr))
    refine va_mmin (x := Int32.ofInt x) (y := Int32.ofInt y) C.1 C.2.1 hml C.2.2.2.1 hl (C.2.2.2.2.1 _ jw_m0.1) (C.2.2.2.2.1 _ jw_ma) (C.2.2.2.2.1 _ jw_m0.2) hfr (by have := jcat8 (E := E) K.1; omega) hcap.1 hcap.2 hd ?_
    have e9 : (if Int32.ofInt y < Int32.ofInt x then Int32.ofInt y else Int32.ofInt x) = Int32.ofInt (if y < x then y else x) := by
      by_cases q : y < x
      · rw [if_pos ((jlt32 hy hx).mpr q), if_pos q]
      · rw [if_neg (fun z => q ((jlt32 hy hx).mp z)), if_neg q]
    rw [e9]
    exact h2
  · rename_i y x s9
    have hx : jR32 x := hok _ (List.mem_cons_of_mem _ List.mem_cons_self)
    have hy : jR32 y := hok _ List.mem_cons_self
    have hr : jok (.inl (if x < y then y else x)) := by by_cases q : x < y <;> simp only [q, if_true, if_false] <;> first | exact hy | exact hx
    have h2 := K.2 lsS H locs (jS_st hS (jok2 hok hr))
    refine va_mmax (x := Int32.ofInt x) (y := Int32.ofInt y) C.1 C.2.1 hml C.2.2.2.1 hl (C.2.2.2.2.1 _ jw_m1.1) (C.2.2.2.2.1 _ jw_ma) (C.2.2.2.2.1 _ jw_m1.2) hfr (by have := jcat8 (E := E) K.1; omega) hcap.1 hcap.2 hd ?_
    have e9 : (if Int32.ofInt x < Int32.ofInt y then Int32.ofInt y else Int32.ofInt x) = Int32.ofInt (if x < y then y else x) := by
      by_cases q : x < y
      · rw [if_pos ((jlt32 hx hy).mpr q), if_pos q]
      · rw [if_neg (fun z => q ((jlt32 hx hy).mp z)), if_neg q]
    rw [e9]
    exact h2
  · rename_i x s9
    have hx : jR32 x := hok _ List.mem_cons_self
    have hr : jok (.inl (if 0 ≤ x then x else jw32 (-x))) := by by_cases q : 0 ≤ x <;> simp only [q, if_true, if_false] <;> first | exact hx | exact j32_r _
    have h2 := K.2 lsS H locs (jS_st hS (jok1 hok hr))
    refine va_mabs (x := Int32.ofInt x) C.1 C.2.1 hml C.2.2.2.1 hl (C.2.2.2.2.1 _ jw_m2.1) (C.2.2.2.2.1 _ jw_ma) (C.2.2.2.2.1 _ jw_m2.2) hfr (by have := jcat8 (E := E) K.1; omega) hcap.1 hcap.2 hd ?_
    have e9 : (if 0 ≤ Int32.ofInt x then Int32.ofInt x else 0 - Int32.ofInt x) = Int32.ofInt (if 0 ≤ x then x else jw32 (-x)) := by
      have hz : (0 : Int32) ≤ Int32.ofInt x ↔ 0 ≤ x := jle32 (x := 0) ⟨by omega, by omega⟩ hx
      by_cases q : 0 ≤ x
      · rw [if_pos (hz.mpr q), if_pos q]
      · rw [if_neg (fun z => q (hz.mp z)), if_neg q, jof32, Int32.ofInt_neg, Int32.zero_sub]
    rw [e9]
    exact h2
  · rename_i y x s9
    have hx : jR64 x := hok _ (List.mem_cons_of_mem _ List.mem_cons_self)
    have hy : jR64 y := hok _ List.mem_cons_self
    have hr : jok (.inr (.inl (if y < x then y else x))) := by by_cases q : y < x <;> simp only [q, if_true, if_false] <;> first | exact hy | exact hx
    have h2 := K.2 lsS H locs (jS_st hS (jok2 hok hr))
    refine va_mmin_long (x := Int64.ofInt x) (y := Int64.ofInt y) C.1 C.2.1 hml C.2.2.2.1 hl (C.2.2.2.2.1 _ jw_m3.1) (C.2.2.2.2.1 _ jw_ma) (C.2.2.2.2.1 _ jw_m3.2) hfr (by have := jcat8 (E := E) K.1; omega) hcap.1 hcap.2 hd ?_
    have e9 : (if Int64.ofInt y < Int64.ofInt x then Int64.ofInt y else Int64.ofInt x) = Int64.ofInt (if y < x then y else x) := by
      by_cases q : y < x
      · rw [if_pos ((jlt64 hy hx).mpr q), if_pos q]
      · rw [if_neg (fun z => q ((jlt64 hy hx).mp z)), if_neg q]
    rw [e9]
    exact h2
  · exact K.elim
section inv
variable {K : JK} {f : Int → Int → Int} {a t z : Nat} {b : Int} {NX : JN} {RT : JR}
theorem jbin_i (h0 : jbin f K ls st n r h) : ∃ y x s9, st = .inl y :: .inl x :: s9 ∧ K ls (.inl (f x y) :: s9) n r h := by
  unfold jbin at h0; split at h0
  · exact ⟨_, _, _, rfl, h0⟩
  · exact h0.elim
theorem jbil_i (h0 : jbil f K ls st n r h) : ∃ y x s9, st = .inr (.inl y) :: .inr (.inl x) :: s9 ∧ K ls (.inr (.inl (f x y)) :: s9) n r h := by
  unfold jbil at h0; split at h0
  · exact ⟨_, _, _, rfl, h0⟩
  · exact h0.elim
theorem jdvi_i (h0 : jdvi f K ls st n r h) : ∃ y x s9, st = .inl y :: .inl x :: s9 ∧ y ≠ 0 ∧ K ls (.inl (f x y) :: s9) n r h := by
  unfold jdvi at h0; split at h0
  · exact ⟨_, _, _, rfl, h0⟩
  · exact h0.elim
theorem jdvl_i (h0 : jdvl f K ls st n r h) : ∃ y x s9, st = .inr (.inl y) :: .inr (.inl x) :: s9 ∧ y ≠ 0 ∧ K ls (.inr (.inl (f x y)) :: s9) n r h := by
  unfold jdvl at h0; split at h0
  · exact ⟨_, _, _, rfl, h0⟩
  · exact h0.elim
theorem jldi_i (h0 : jldi a K ls st n r h) : ∃ x, jget ls a = .inl x ∧ K ls (.inl x :: st) n r h := by
  unfold jldi at h0; split at h0
  · rename_i x hx; exact ⟨x, hx, h0⟩
  · exact h0.elim
theorem jldl_i (h0 : jldl a K ls st n r h) : ∃ x, jget ls a = .inr (.inl x) ∧ K ls (.inr (.inl x) :: st) n r h := by
  unfold jldl at h0; split at h0
  · rename_i x hx; exact ⟨x, hx, h0⟩
  · exact h0.elim
theorem jldr_i (h0 : jldr a K ls st n r h) : ∃ x, jget ls a = .inr (.inr (.inl x)) ∧ K ls (.inr (.inr (.inl x)) :: st) n r h := by
  unfold jldr at h0; split at h0
  · rename_i x hx; exact ⟨x, hx, h0⟩
  · exact h0.elim
theorem jinc_i (h0 : jinc a b K ls st n r h) : ∃ x, jget ls a = .inl x ∧ K (jst1 ls a (.inl (jw32 (x + b)))) st n r h := by
  unfold jinc at h0; split at h0
  · rename_i x hx; exact ⟨x, hx, h0⟩
  · exact h0.elim
theorem jsti_i (h0 : jsti a K ls st n r h) : ∃ x s9, st = .inl x :: s9 ∧ K (jst1 ls a (.inl x)) s9 n r h := by
  unfold jsti at h0; split at h0
  · exact ⟨_, _, rfl, h0⟩
  · exact h0.elim
theorem jstl_i (h0 : jstl a K ls st n r h) : ∃ x s9, st = .inr (.inl x) :: s9 ∧ K (jst1 (jst1 ls (a + 1) (.inr (.inr (.inr ())))) a (.inr (.inl x))) s9 n r h := by
  unfold jstl at h0; split at h0
  · exact ⟨_, _, rfl, h0⟩
  · exact h0.elim
theorem jstr_i (h0 : jstr a K ls st n r h) : ∃ x s9, st = .inr (.inr (.inl x)) :: s9 ∧ x ≠ -1 ∧ K (jst1 ls a (.inr (.inr (.inl x)))) s9 n r h := by
  unfold jstr at h0; split at h0
  · exact ⟨_, _, rfl, h0⟩
  · exact h0.elim
theorem jif1_i {P : Int → Prop} (h0 : jif1 NX P a K ls st n r h) : ∃ x s9, st = .inl x :: s9 ∧ (P x → NX a ls s9 n r h) ∧ (¬ P x → K ls s9 n r h) := by
  unfold jif1 at h0; split at h0
  · exact ⟨_, _, rfl, h0⟩
  · exact h0.elim
theorem jif2_i {P : Int → Int → Prop} (h0 : jif2 NX P a K ls st n r h) : ∃ y x s9, st = .inl y :: .inl x :: s9 ∧ (P x y → NX a ls s9 n r h) ∧ (¬ P x y → K ls s9 n r h) := by
  unfold jif2 at h0; split at h0
  · exact ⟨_, _, _, rfl, h0⟩
  · exact h0.elim
theorem jgfi_i (h0 : jgfi a b K ls st n r h) : ∃ i s9, st = .inr (.inr (.inl i)) :: s9 ∧ 0 ≤ i ∧ i < n ∧ jk i = (0, a) ∧ (jbd i b (h i b) → K ls (.inl (h i b) :: s9) n r h) := by
  unfold jgfi at h0; split at h0
  · exact ⟨_, _, rfl, h0⟩
  · exact h0.elim
theorem jgfr_i (h0 : jgfr a b K ls st n r h) : ∃ i s9, st = .inr (.inr (.inl i)) :: s9 ∧ 0 ≤ i ∧ i < n ∧ jk i = (0, a) ∧ K ls (.inr (.inr (.inl (r i b))) :: s9) n r h := by
  unfold jgfr at h0; split at h0
  · exact ⟨_, _, rfl, h0⟩
  · exact h0.elim
theorem jpfi_i (h0 : jpfi a b K ls st n r h) : ∃ x i s9, st = .inl x :: .inr (.inr (.inl i)) :: s9 ∧ 0 ≤ i ∧ i < n ∧ jk i = (0, a) ∧ (jR32 x → jbd i b x) ∧ K ls s9 n r (jup h i b x) := by
  unfold jpfi at h0; split at h0
  · exact ⟨_, _, _, rfl, h0⟩
  · exact h0.elim
theorem jpfr_i (h0 : jpfr a b K ls st n r h) : ∃ x i s9, st = .inr (.inr (.inl x)) :: .inr (.inr (.inl i)) :: s9 ∧ 0 ≤ i ∧ i < n ∧ jk i = (0, a) ∧ 0 ≤ x ∧ K ls s9 n (jup r i b x) h := by
  unfold jpfr at h0; split at h0
  · exact ⟨_, _, _, rfl, h0⟩
  · exact h0.elim
theorem jald_i (h0 : jald E t K ls st n r h) : ∃ k i s9, st = .inl k :: .inr (.inr (.inl i)) :: s9 := by
  unfold jald at h0; split at h0
  · exact ⟨_, _, _, rfl⟩
  · exact h0.elim
theorem jald_m {K' : JK} (hK : ∀ ls st n r h, K ls st n r h → K' ls st n r h) (h0 : jald E t K ls st n r h) : jald E t K' ls st n r h := by
  obtain ⟨k, i, s9, rfl⟩ := jald_i h0
  exact ⟨fun q => ⟨(h0.1 q).1, (h0.1 q).2.1, (h0.1 q).2.2.1, (h0.1 q).2.2.2.1, fun z => hK _ _ _ _ _ ((h0.1 q).2.2.2.2 z)⟩, fun q => ⟨(h0.2 q).1, (h0.2 q).2.1, (h0.2 q).2.2.1, (h0.2 q).2.2.2.1, hK _ _ _ _ _ (h0.2 q).2.2.2.2⟩⟩
theorem jalr_m {K' : JK} (hK : ∀ ls st n r h, K ls st n r h → K' ls st n r h) (h0 : jalr K ls st n r h) : ∃ k i s9, st = .inl k :: .inr (.inr (.inl i)) :: s9 ∧ jalr K' ls (.inl k :: .inr (.inr (.inl i)) :: s9) n r h := by
  unfold jalr at h0; split at h0
  · exact ⟨_, _, _, rfl, h0.1, h0.2.1, h0.2.2.1, h0.2.2.2.1, h0.2.2.2.2.1, hK _ _ _ _ _ h0.2.2.2.2.2⟩
  · exact h0.elim
theorem jast_m {K' : JK} (hK : ∀ ls st n r h, K ls st n r h → K' ls st n r h) (h0 : jast t K ls st n r h) : ∃ x k i s9, st = .inl x :: .inl k :: .inr (.inr (.inl i)) :: s9 ∧ jast t K' ls (.inl x :: .inl k :: .inr (.inr (.inl i)) :: s9) n r h := by
  unfold jast at h0; split at h0
  · exact ⟨_, _, _, _, rfl, h0.1, h0.2.1, h0.2.2.1, h0.2.2.2.1, h0.2.2.2.2.1, h0.2.2.2.2.2.1, hK _ _ _ _ _ h0.2.2.2.2.2.2⟩
  · exact h0.elim
theorem jasl_m {K' : JK} (hK : ∀ ls st n r h, K ls st n r h → K' ls st n r h) (h0 : jasl K ls st n r h) : ∃ x k i s9, st = .inr (.inl x) :: .inl k :: .inr (.inr (.inl i)) :: s9 ∧ jasl K' ls (.inr (.inl x) :: .inl k :: .inr (.inr (.inl i)) :: s9) n r h := by
  unfold jasl at h0; split at h0
  · exact ⟨_, _, _, _, rfl, h0.1, h0.2.1, h0.2.2.1, h0.2.2.2.1, h0.2.2.2.2.1, h0.2.2.2.2.2.1, hK _ _ _ _ _ h0.2.2.2.2.2.2⟩
  · exact h0.elim
theorem jasr_m {K' : JK} (hK : ∀ ls st n r h, K ls st n r h → K' ls st n r h) (h0 : jasr K ls st n r h) : ∃ x k i s9, st = .inr (.inr (.inl x)) :: .inl k :: .inr (.inr (.inl i)) :: s9 ∧ jasr K' ls (.inr (.inr (.inl x)) :: .inl k :: .inr (.inr (.inl i)) :: s9) n r h := by
  unfold jasr at h0; split at h0
  · exact ⟨_, _, _, _, rfl, h0.1, h0.2.1, h0.2.2.1, h0.2.2.2.1, h0.2.2.2.2.1, h0.2.2.2.2.2.1, h0.2.2.2.2.2.2.1, h0.2.2.2.2.2.2.2.1, hK _ _ _ _ _ h0.2.2.2.2.2.2.2.2⟩
  · exact h0.elim
theorem jaln_m {K' : JK} (hK : ∀ ls st n r h, K ls st n r h → K' ls st n r h) (h0 : jaln E K ls st n r h) : ∃ i s9, st = .inr (.inr (.inl i)) :: s9 ∧ jaln E K' ls (.inr (.inr (.inl i)) :: s9) n r h := by
  unfold jaln at h0; split at h0
  · exact ⟨_, _, rfl, fun q => ⟨(h0.1 q).1, (h0.1 q).2.1, (h0.1 q).2.2.1, hK _ _ _ _ _ (h0.1 q).2.2.2⟩, fun q => ⟨(h0.2 q).1, hK _ _ _ _ _ (h0.2 q).2⟩⟩
  · exact h0.elim
theorem jnwa_m {K' : JK} (hK : ∀ ls st n r h, K ls st n r h → K' ls st n r h) (h0 : jnwa n1 t K ls st n r h) : ∃ x s9, st = .inl x :: s9 ∧ jnwa n1 t K' ls (.inl x :: s9) n r h := by
  unfold jnwa at h0; split at h0
  · exact ⟨_, _, rfl, h0.1, h0.2.1, h0.2.2.1, h0.2.2.2.1, hK _ _ _ _ _ h0.2.2.2.2⟩
  · exact h0.elim
theorem jnwm_m {K' : JK} (hK : ∀ ls st n r h, K ls st n r h → K' ls st n r h) (h0 : jnwm n1 K ls st n r h) : ∃ x y s9, st = .inl x :: .inl y :: s9 ∧ jnwm n1 K' ls (.inl x :: .inl y :: s9) n r h := by
  unfold jnwm at h0; split at h0
  · exact ⟨_, _, _, rfl, h0.1, h0.2.1, h0.2.2.1, h0.2.2.2.1, h0.2.2.2.2.1, h0.2.2.2.2.2.1, h0.2.2.2.2.2.2.1, hK _ _ _ _ _ h0.2.2.2.2.2.2.2⟩
  · exact h0.elim
theorem jacp_m {K' : JK} (hK : ∀ ls st n r h, K ls st n r h → K' ls st n r h) (h0 : jacp K ls st n r h) : ∃ c0 dp d sp s0 s9, st = .inl c0 :: .inl dp :: .inr (.inr (.inl d)) :: .inl sp :: .inr (.inr (.inl s0)) :: s9 ∧ jacp K' ls (.inl c0 :: .inl dp :: .inr (.inr (.inl d)) :: .inl sp :: .inr (.inr (.inl s0)) :: s9) n r h := by
  unfold jacp at h0; split at h0
  · obtain ⟨a1, a2, a3, a4, a5, a6, a7, a8, a9, a10, a11, a12, a13, a14⟩ := h0
    exact ⟨_, _, _, _, _, _, rfl, a1, a2, a3, a4, a5, a6, a7, a8, a9, a10, a11, a12, a13, hK _ _ _ _ _ a14⟩
  · exact h0.elim
theorem jret_i (h0 : jret RT z ls st n r h) : ∃ x, st = [.inl x] ∧ (z = 1 → x = 0 ∨ x = 1) ∧ RT (some (.inl x)) n r h := by
  unfold jret at h0; split at h0
  · exact ⟨_, rfl, h0⟩
  · exact h0.elim
theorem jrel_i (h0 : jrel RT ls st n r h) : ∃ x, st = [.inr (.inl x)] ∧ RT (some (.inr (.inl x))) n r h := by
  unfold jrel at h0; split at h0
  · exact ⟨_, rfl, h0⟩
  · exact h0.elim
theorem jrev_i (h0 : jrev RT ls st n r h) : st = [] ∧ RT none n r h := by
  unfold jrev at h0; split at h0
  · exact ⟨rfl, h0⟩
  · exact h0.elim
theorem ji2l_i (h0 : ji2l K ls st n r h) : ∃ x s9, st = .inl x :: s9 ∧ K ls (.inr (.inl x) :: s9) n r h := by
  unfold ji2l at h0; split at h0
  · exact ⟨_, _, rfl, h0⟩
  · exact h0.elim
theorem jl2i_i (h0 : jl2i K ls st n r h) : ∃ x s9, st = .inr (.inl x) :: s9 ∧ K ls (.inl (jw32 x) :: s9) n r h := by
  unfold jl2i at h0; split at h0
  · exact ⟨_, _, rfl, h0⟩
  · exact h0.elim
theorem jneg_i (h0 : jneg K ls st n r h) : ∃ x s9, st = .inl x :: s9 ∧ K ls (.inl (jw32 (-x)) :: s9) n r h := by
  unfold jneg at h0; split at h0
  · exact ⟨_, _, rfl, h0⟩
  · exact h0.elim
theorem jlcp_i (h0 : jlcp K ls st n r h) : ∃ y x s9, st = .inr (.inl y) :: .inr (.inl x) :: s9 ∧ K ls (.inl (jlc x y) :: s9) n r h := by
  unfold jlcp at h0; split at h0
  · exact ⟨_, _, _, rfl, h0⟩
  · exact h0.elim
theorem jobj_m {K' : JK} (hK : ∀ ls st n r h, K ls st n r h → K' ls st n r h) (h0 : jobj K ls st n r h) : ∃ i s9, st = .inr (.inr (.inl i)) :: s9 ∧ jobj K' ls (.inr (.inr (.inl i)) :: s9) n r h := by
  unfold jobj at h0; split at h0
  · exact ⟨_, _, rfl, h0.1, h0.2.1, hK _ _ _ _ _ h0.2.2⟩
  · exact h0.elim
theorem jdp2_i (h0 : jdp2 K ls st n r h) : ∃ x i s9, st = .inl x :: .inr (.inr (.inl i)) :: s9 ∧ K ls (.inl x :: .inr (.inr (.inl i)) :: .inl x :: .inr (.inr (.inl i)) :: s9) n r h := by
  unfold jdp2 at h0; split at h0
  · exact ⟨_, _, _, rfl, h0⟩
  · exact h0.elim
theorem jmth_m {K' : JK} (hK : ∀ ls st n r h, K ls st n r h → K' ls st n r h) (h0 : jmth b K ls st n r h) : jmth b K' ls st n r h := by
  unfold jmth at h0 ⊢; split at h0
  · exact ⟨h0.1, hK _ _ _ _ _ h0.2⟩
  · exact ⟨h0.1, hK _ _ _ _ _ h0.2⟩
  · exact ⟨h0.1, hK _ _ _ _ _ h0.2⟩
  · exact ⟨h0.1, hK _ _ _ _ _ h0.2⟩
  · exact h0.elim
theorem jswt_m {NX' : JN} (hN : ∀ pc ls st n r h, NX pc ls st n r h → NX' pc ls st n r h) (pc : Nat) (x : Int) : ∀ (os : List Int) (lo : Int), jswt NX pc x lo os ls st n r h → jswt NX' pc x lo os ls st n r h
  | [], _, _ => trivial
  | _ :: os, lo, h0 => ⟨fun q => hN _ _ _ _ _ _ (h0.1 q), jswt_m hN pc x os (lo + 1) h0.2⟩
theorem jswl_m {NX' : JN} (hN : ∀ pc ls st n r h, NX pc ls st n r h → NX' pc ls st n r h) (pc : Nat) (x d : Int) : ∀ (qs : List (Int × Int)), jswl NX pc x d qs ls st n r h → jswl NX' pc x d qs ls st n r h
  | [], h0 => hN _ _ _ _ _ _ h0
  | _ :: qs, h0 => ⟨fun q => hN _ _ _ _ _ _ (h0.1 q), fun q => jswl_m hN pc x d qs (h0.2 q)⟩
theorem jtsw_m {NX' : JN} (hN : ∀ pc ls st n r h, NX pc ls st n r h → NX' pc ls st n r h) {pc : Nat} {d lo hi : Int} {os : List Int} (h0 : jtsw NX pc d lo hi os ls st n r h) : ∃ x s9, st = .inl x :: s9 ∧ jtsw NX' pc d lo hi os ls (.inl x :: s9) n r h := by
  unfold jtsw at h0; split at h0
  · exact ⟨_, _, rfl, fun q => hN _ _ _ _ _ _ (h0.1 q), jswt_m hN _ _ _ _ h0.2⟩
  · exact h0.elim
theorem jlsw_m {NX' : JN} (hN : ∀ pc ls st n r h, NX pc ls st n r h → NX' pc ls st n r h) {pc : Nat} {d : Int} {qs : List (Int × Int)} (h0 : jlsw NX pc d qs ls st n r h) : ∃ x s9, st = .inl x :: s9 ∧ jlsw NX' pc d qs ls (.inl x :: s9) n r h := by
  unfold jlsw at h0; split at h0
  · exact ⟨_, _, rfl, jswl_m hN _ _ _ _ h0⟩
  · exact h0.elim
end inv
theorem jMt_m {E : JE} {l : Launch} {m0 : Nat} {av : List JV} {n : Nat} {r h : JH} {K K' : Option JV → JH → JH → Prop} (hK : ∀ v r' h', K v r' h' → K' v r' h') (h0 : jMt E l m0 av n r h K) : jMt E l m0 av n r h K' := fun hv => by
  have h1 := h0 hv
  intro p e ha hc hk s m args below hf hpre hP ht
  obtain ⟨k, o, g1, g2, g3, ⟨⟨v, r', h', q1, q2, q3, q4⟩, q5⟩⟩ := h1 p e ha hc hk s m args below hf hpre hP ht
  exact ⟨k, o, g1, g2, g3, ⟨v, r', h', q1, q2, hK v r' h' q3, q4⟩, q5⟩
end jsd
