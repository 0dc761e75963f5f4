/-! ===== ROWS: arraycopy, calls, returns ===== -/
/-- what a method needs of the tables: its own code, then all words that calls hand on -/
def jws (m : Nat) : List Cond := .code (jM m).1 (jM m).2.1 (jM m).2.2.1 (jM m).2.2.2.1 :: jG
def jrm (m n : Nat) : Room := { frames := (jM m).2.2.2.2.1, cells := (jM m).2.2.2.2.2.2, slots := jSZ (n + (jM m).2.2.2.2.2.2) - jSZ n, locals := (jM m).2.2.2.2.2.1 }
/-- THE CONTRACT of method m with arguments av at the picture (n, r, h): it returns, what it answers and the picture behind it have K -/
def jMt (E : JE) (l : Launch) (m : Nat) (av : List JV) (n : Nat) (r h : JH) (K : Option JV → JH → JH → Prop) : Prop :=
  (∀ v ∈ av, jok v) → Met l (jM m).1 (jws m) (jrm m n) (va_Pc (av.map (jtv E)) (fun U => jEx E U ∧ jHp E n r h U.heap))
    (fun _ _ o t => ∃ (v : Option JV) (r' h' : JH), o = .returned (v.map (jtv E)) ∧ jokO v ∧ K v r' h' ∧ jHp E (n + (jM m).2.2.2.2.2.2) r' h' t.heap) (jM m).2.2.2.2.2.2 (jSZ (n + (jM m).2.2.2.2.2.2) - jSZ n) (fun q => jb0 E ≤ q)
theorem jG_good {w : Cond} (h : w ∈ jG) : (w.onTables && w.keeps) = true ∨ ∃ ty, w = .arrayClass ty := good_of_word (List.mem_filter.mp h).2
theorem jpay {args : Array Value} {s : State} (ht : ∀ w ∈ jG, w.before args s = true) {w : Cond} (hw : w ∈ jG) (a' : Array Value) (U : State) (hW : s.WarmedH U.vm) : w.before a' U = true := word_at hW (jG_good hw) (ht w hw)
section jcalls
variable {E : JE} {p : Program} {l : Launch} {e : Env} {R : Room} {s : State} {m : MethodId} {args : Array Value} {below : List Frame} {meth : Method} {c : Code} {Q : State → Prop} {mm n0 n1 : Nat} {pc : Nat} {ls st : List JV} {n : Nat} {r h : JH}
theorem jcat8 {st : List JV} (h : st.length ≤ 4) : ((st.map (jtv E)).map fun v => v.category).sum ≤ 8 := by
  have : ∀ (l : List Value), l.length ≤ 4 → (l.map fun v => v.category).sum ≤ 2 * l.length := by
    intro l _
    induction l with
    | nil => simp
    | cons v l ih =>
      have hv : v.category ≤ 2 := by rcases lv_cat v with h | h <;> omega
      simp only [List.map_cons, List.sum_cons, List.length_cons]
      have := ih (by simp at *; omega)
      omega
  have := this (st.map (jtv E)) (by simpa using h)
  simp only [List.length_map] at this
  omega
theorem jcp_bd {h : JH} (hb : ∀ a b : Int, jbd a b (h a b)) {s0 sp d dp c0 : Int} (hx : ∀ j : Int, 0 ≤ j → j < c0 → jbd d (dp + j) (h s0 (sp + j))) : ∀ a b : Int, jbd a b (jcp h s0 sp d dp c0 a b) := by
  intro a b
  unfold jcp
  split
  · rename_i g
    rw [g.1]
    have := hx (b - dp) (by omega) (by omega)
    rwa [show dp + (b - dp) = b by omega] at this
  · exact hb a b
theorem js_acopy (C : jAt E p R s m args meth c mm n0 n1) {c0 dp d sp s0 : Int} {idx pp : Nat} (hw : jcw pp (.methodLink (jM mm).1.cls idx arraycopyName) = true) (hw2 : (Cond.native arraycopyName) ∈ jG) (hw3 : (Cond.static arraycopyName) ∈ jG) (hw4 : (Cond.initialized "java/lang/System") ∈ jG) (hf : 1 ≤ (jM mm).2.2.2.2.1 ∧ 26 ≤ (jM mm).2.2.2.2.2.1) (hd : decode (jM mm).2.1 pc = .ok (.invokestatic idx, 3))
    (K : jacp (jWj E p l e R s m args below meth c Q mm n0 n1 (pc + 3)) ls (.inl c0 :: .inl dp :: .inr (.inr (.inl d)) :: .inl sp :: .inr (.inr (.inl s0)) :: st) n r h) : jWj E p l e R s m args below meth c Q mm n0 n1 pc ls (.inl c0 :: .inl dp :: .inr (.inr (.inl d)) :: .inl sp :: .inr (.inr (.inl s0)) :: st) n r h := fun lsS H locs hS => by
  have hH := hS.2.2.2.2.1
  obtain ⟨a1, a2, a3, a4, a5, a6, a7, a8, a9, a10, a11, a12, a13, a14⟩ := K
  have hok := hS.2.2.2.1
  have hc0 : jR32 c0 := hok (.inl c0) (by simp)
  have hdp0 : jR32 dp := hok (.inl dp) (by simp)
  have hsp0 : jR32 sp := hok (.inl sp) (by simp)
  have hs := jHp_arr hH a1 a2 (by omega)
  have hdd := jHp_arr hH a3 a4 (by omega)
  rw [a5] at hs
  rw [a6] at hdd
  have hr0 : jR32 0 := ⟨by omega, by omega⟩
  have neg : ∀ {z : Int}, jR32 z → 0 ≤ z → ¬ Int32.ofInt z < 0 := fun hz h0 q => by have := (jlt32 (y := 0) hz hr0).mp q; omega
  have hlen : (jk d).2 ≤ 100000 ∧ (jk s0).2 ≤ 100000 := by
    have t : ∀ q ∈ jLY, q.2 ≤ 100000 := by decide +kernel
    have t2 : ∀ i : Int, (jk i).2 ≤ 100000 := fun i => by
      unfold jk
      rw [List.getD_eq_getElem?_getD]
      cases hq : jLY[i.toNat]? with
      | none => exact Nat.zero_le _
      | some q => exact t q (List.mem_of_getElem? hq)
    exact ⟨t2 d, t2 s0⟩
  let ws : va_W := if s0 = d then [(jb0 E + d.toNat, .inl (E.2.1 1, (jk d).2, .inl (fun j => Int32.ofInt (h d j))))] else [(jb0 E + d.toNat, .inl (E.2.1 1, (jk d).2, .inl (fun j => Int32.ofInt (h d j)))), (jb0 E + s0.toNat, .inl (E.2.1 1, (jk s0).2, .inl (fun j => Int32.ofInt (h s0 j))))]
  have hP : va_P E.1 vwCl ws H := by
    intro k q hq
    by_cases e1 : s0 = d
    · have hws : ws = [(jb0 E + d.toNat, .inl (E.2.1 1, (jk d).2, .inl (fun j => Int32.ofInt (h d j))))] := if_pos e1
      rw [hws] at hq
      cases k with
      | zero => cases hq; exact hdd
      | succ k => simp at hq
    · have hws : ws = [(jb0 E + d.toNat, .inl (E.2.1 1, (jk d).2, .inl (fun j => Int32.ofInt (h d j)))), (jb0 E + s0.toNat, .inl (E.2.1 1, (jk s0).2, .inl (fun j => Int32.ofInt (h s0 j))))] := if_neg e1
      rw [hws] at hq
      match k, hq with
      | 0, hq => cases hq; exact hdd
      | 1, hq => cases hq; exact hs
      | k + 2, hq => simp at hq
  have hD : va_D (jA E) ws := by
    by_cases e1 : s0 = d
    · have hws : ws = [(jb0 E + d.toNat, .inl (E.2.1 1, (jk d).2, .inl (fun j => Int32.ofInt (h d j))))] := if_pos e1
      rw [hws]
      refine ⟨fun i j x y hi hj _ => ?_, fun k q hq => ?_⟩
      · have g1 := (List.getElem?_eq_some_iff.mp hi).1
        have g2 := (List.getElem?_eq_some_iff.mp hj).1
        simp at g1 g2
        omega
      · match k, hq with
        | 0, hq => cases hq; exact Nat.le_add_right _ _
        | k + 1, hq => simp at hq
    · have hws : ws = [(jb0 E + d.toNat, .inl (E.2.1 1, (jk d).2, .inl (fun j => Int32.ofInt (h d j)))), (jb0 E + s0.toNat, .inl (E.2.1 1, (jk s0).2, .inl (fun j => Int32.ofInt (h s0 j))))] := if_neg e1
      rw [hws]
      refine ⟨fun i j x y hi hj hxy => ?_, fun k q hq => ?_⟩
      · match i, j, hi, hj with
        | 0, 0, hi, hj => rfl
        | 1, 1, hi, hj => rfl
        | 0, 1, hi, hj => cases hi; cases hj; simp at hxy; omega
        | 1, 0, hi, hj => cases hi; cases hj; simp at hxy; omega
        | 0, j + 2, hi, hj => simp at hj
        | 1, j + 2, hi, hj => simp at hj
        | i + 2, j, hi, hj => simp at hi
      · match k, hq with
        | 0, hq => cases hq; exact Nat.le_add_right _ _
        | 1, hq => cases hq; exact Nat.le_add_right _ _
        | k + 2, hq => simp at hq
  have hws0 : ws[0]? = some (jb0 E + d.toNat, .inl (E.2.1 1, (jk d).2, .inl (fun j => Int32.ofInt (h d j)))) := by
    by_cases e1 : s0 = d
    · rw [show ws = [(jb0 E + d.toNat, .inl (E.2.1 1, (jk d).2, .inl (fun j => Int32.ofInt (h d j))))] from if_pos e1]; rfl
    · rw [show ws = [(jb0 E + d.toNat, .inl (E.2.1 1, (jk d).2, .inl (fun j => Int32.ofInt (h d j)))), (jb0 E + s0.toNat, .inl (E.2.1 1, (jk s0).2, .inl (fun j => Int32.ofInt (h s0 j))))] from if_neg e1]; rfl
  have hwsS : ∃ q0 : Nat, ws[q0]? = some (jb0 E + s0.toNat, .inl (E.2.1 1, (jk s0).2, .inl (fun j => Int32.ofInt (h s0 j)))) := by
    by_cases e1 : s0 = d
    · refine ⟨0, ?_⟩
      rw [hws0, e1]
    · refine ⟨1, ?_⟩
      rw [show ws = [(jb0 E + d.toNat, .inl (E.2.1 1, (jk d).2, .inl (fun j => Int32.ofInt (h d j)))), (jb0 E + s0.toNat, .inl (E.2.1 1, (jk s0).2, .inl (fun j => Int32.ofInt (h s0 j))))] from if_neg e1]; rfl
  obtain ⟨q0, hq0⟩ := hwsS
  clear_value ws
  have hSv : va_S (fun q => q = jb0 E + d.toNat ∨ ∃ z ∈ locs, z.base = q) H H locs := ⟨Nat.le_refl _, fun _ _ _ => rfl, fun z hz => Or.inr ⟨z, hz, rfl⟩⟩
  rw [List.map_cons, List.map_cons, List.map_cons, List.map_cons, List.map_cons, jtv_ref a1, jtv_ref a3]
  have hlo : ((st.map (jtv E)).map fun v => v.category).sum + (nativeFrameWords "java/lang/System" "arraycopy" 5 + 11) ≤ R.locals := by
    have h1 := jcat8 (E := E) a12
    have h2 := C.2.2.2.2.2.2.2.1
    have h3 : nativeFrameWords "java/lang/System" "arraycopy" 5 = 7 := by decide
    have := hf.2
    omega
  refine va_copyi (D := E.1) (cl := vwCl) (tys := jtys E) (A := jA E) (H0 := E.2.2.1) (q0 := q0) (q1 := 0) (t0 := 0) (t1 := 0) (ty := .int) (sp := Int32.ofInt sp) (dp := Int32.ofInt dp) (n := Int32.ofInt c0) C.1 C.2.1 (by rw [C.2.2.1]; exact hS.1.1.symm) C.2.2.2.1 (C.2.2.2.2.1 _ (jG_of hw)) (C.2.2.2.2.1 _ hw2) (C.2.2.2.2.1 _ hw3) (C.2.2.2.2.1 _ hw4) C.2.2.2.2.2.1.1 hP hD ⟨by rw [hH.1]; exact Nat.le_add_right _ _, fun q g1 _ => hH.2.1 q g1, hS.2.2.2.2.2.1⟩ hq0 hws0 rfl rfl rfl (neg hsp0 a7) (neg hdp0 a8) (neg hc0 a9) ?_ ?_ (fun i hi => rfl) (by have := C.2.2.2.2.2.2.1; omega) hlo hd ?_
  · rw [jclamp a7 hsp0, jclamp a9 hc0]; omega
  · rw [jclamp a8 hdp0, jclamp a9 hc0]; omega
  · sorry
end jcalls
