/-! ===== A METHOD'S CONTRACT OUT OF THE JUDGEMENT ===== -/
theorem jls_void (E : JE) : ∀ (k i : Nat), jls E i (List.replicate k (.inr (.inr (.inr ())))) = []
  | 0, _ => rfl
  | k + 1, i => by rw [List.replicate_succ, jls]; exact jls_void E k (i + 1)
theorem jls_args (E : JE) : ∀ (av : List JV) (i k : Nat), ∀ q ∈ jls E i (jarg av ++ List.replicate k (.inr (.inr (.inr ())))), q ∈ lv_args i (av.map (jtv E))
  | [], i, k, q, hq => by rw [jarg, List.nil_append, jls_void] at hq; cases hq
  | .inl x :: av, i, k, q, hq => by
    rw [jarg, List.cons_append, jls] at hq
    · rw [List.map_cons, lv_args]
      rcases List.mem_cons.mp hq with rfl | hq
      · exact List.mem_cons_self
      · refine List.mem_cons_of_mem _ ?_
        rw [if_neg (by simp [jtv, Value.category])]
        exact jls_args E av (i + 1) k q hq
    · intro z h; cases h
  | .inr (.inl x) :: av, i, k, q, hq => by
    rw [jarg, List.cons_append, List.cons_append, jls, jls] at hq
    rw [List.map_cons, lv_args]
    rcases List.mem_cons.mp hq with rfl | hq
    · exact List.mem_cons_self
    · refine List.mem_cons_of_mem _ ?_
      rw [if_pos (by simp [jtv, Value.category])]
      exact jls_args E av (i + 2) k q hq
  | .inr (.inr (.inl x)) :: av, i, k, q, hq => by
    rw [jarg, List.cons_append, jls] at hq
    · rw [List.map_cons, lv_args]
      rcases List.mem_cons.mp hq with rfl | hq
      · exact List.mem_cons_self
      · refine List.mem_cons_of_mem _ ?_
        rw [if_neg (by by_cases e : x = -1 <;> simp [jtv, Value.category, e])]
        exact jls_args E av (i + 1) k q hq
    · intro z h; cases h
  | .inr (.inr (.inr x)) :: av, i, k, q, hq => by
    rw [jarg, List.cons_append, jls] at hq
    · rw [List.map_cons, lv_args]
      refine List.mem_cons_of_mem _ ?_
      rw [if_neg (by simp [jtv, Value.category])]
      exact jls_args E av (i + 1) k q hq
    · intro z h; cases h
theorem jlg_len (E : JE) : ∀ (av : List JV), (lg_sl (av.map (jtv E))).length = (jarg av).length
  | [] => rfl
  | .inl x :: av => by
    have ih := jlg_len E av
    unfold lg_sl at ih ⊢
    rw [List.map_cons, List.flatMap_cons, List.length_append, ih, jarg]
    · simp [jtv, Value.category]; omega
    · intro z h; cases h
  | .inr (.inl x) :: av => by
    have ih := jlg_len E av
    unfold lg_sl at ih ⊢
    rw [List.map_cons, List.flatMap_cons, List.length_append, ih, jarg]
    simp [jtv, Value.category]; omega
  | .inr (.inr (.inl x)) :: av => by
    have ih := jlg_len E av
    unfold lg_sl at ih ⊢
    rw [List.map_cons, List.flatMap_cons, List.length_append, ih, jarg]
    · by_cases e : x = -1
      · simp [jtv, Value.category, e]; omega
      · simp [jtv, Value.category, e]; omega
    · intro z h; cases h
  | .inr (.inr (.inr x)) :: av => by
    have ih := jlg_len E av
    unfold lg_sl at ih ⊢
    rw [List.map_cons, List.flatMap_cons, List.length_append, ih, jarg]
    · simp [jtv, Value.category]; omega
    · intro z h; cases h
theorem jarg_ok : ∀ (av : List JV), (∀ v ∈ av, jok v) → ∀ v ∈ jarg av, jok v
  | [], _, v, hv => by rw [jarg] at hv; cases hv
  | .inl x :: av, h, v, hv => by
    rw [jarg] at hv
    · rcases List.mem_cons.mp hv with rfl | hv
      · exact h _ List.mem_cons_self
      · exact jarg_ok av (fun w hw => h w (List.mem_cons_of_mem _ hw)) v hv
    · intro z h; cases h
  | .inr (.inl x) :: av, h, v, hv => by
    rw [jarg] at hv
    rcases List.mem_cons.mp hv with rfl | hv
    · exact h _ List.mem_cons_self
    · rcases List.mem_cons.mp hv with rfl | hv
      · exact trivial
      · exact jarg_ok av (fun w hw => h w (List.mem_cons_of_mem _ hw)) v hv
  | .inr (.inr (.inl x)) :: av, h, v, hv => by
    rw [jarg] at hv
    · rcases List.mem_cons.mp hv with rfl | hv
      · exact trivial
      · exact jarg_ok av (fun w hw => h w (List.mem_cons_of_mem _ hw)) v hv
    · intro z h; cases h
  | .inr (.inr (.inr x)) :: av, h, v, hv => by
    rw [jarg] at hv
    · rcases List.mem_cons.mp hv with rfl | hv
      · exact trivial
      · exact jarg_ok av (fun w hw => h w (List.mem_cons_of_mem _ hw)) v hv
    · intro z h; cases h
theorem jloc_S {E : JE} {av : List JV} {nL : Nat} (h : (jarg av).length ≤ nL) (hv : ∀ v ∈ av, jok v) : lv_has ((lg_sl (av.map (jtv E)) ++ List.replicate (nL - (lg_sl (av.map (jtv E))).length) Slot.unset).toArray) nL (jls E 0 (jloc av nL)) ∧ (jloc av nL).length = nL ∧ ∀ v ∈ jloc av nL, jok v := by
  refine ⟨jlv_mono (lv_entry (av.map (jtv E)) (by rw [jlg_len]; exact h)) (jls_args E av 0 _), ?_, fun v hv' => ?_⟩
  · unfold jloc
    rw [List.length_append, List.length_replicate]
    omega
  · unfold jloc at hv'
    rcases List.mem_append.mp hv' with q | q
    · exact jarg_ok av hv v q
    · rw [List.eq_of_mem_replicate q]; exact trivial
theorem jMt_of {E : JE} {l : Launch} {m0 : Nat} {av : List JV} {n : Nat} {r h : JH} {K : Option JV → JH → JH → Prop} (hp : plainName (jM m0).1.cls = true) (hav : (jarg av).length ≤ (jM m0).2.2.1) (hn : n + (jM m0).2.2.2.2.2.2 ≤ 229)
    (body : jGo E l m0 n (n + (jM m0).2.2.2.2.2.2) (fun v n' r' h' => n' = n + (jM m0).2.2.2.2.2.2 ∧ K v r' h') 0 (jloc av (jM m0).2.2.1) [] n r h) : jMt E l m0 av n r h K := fun hv => by
  refine Met.ofW (cc := (jM m0).2.1) (maxL := (jM m0).2.2.1) (ret := (jM m0).2.2.2.1) (ws' := jG) hp rfl ?_
  intro p e s mi args below meth c s₁ B hml hP
  obtain ⟨rfl, hE, hH⟩ := hP
  have hts := atoms_spec (ws := jws m0) B.pre
  have hlocks := B.notSynchronized
  have hret := B.returns
  have C : jAt E p (headSpec (jws m0) (jrm m0 n)).room s mi ((av.map (jtv E)).toArray) meth c m0 n (n + (jM m0).2.2.2.2.2.2) := ⟨B.exec, B.bytes, hml, findClass_of_methodNamed B.named, fun w hw => hts w (List.mem_cons_of_mem _ hw), hE, Nat.le_refl _, Nat.le_refl _, fun k hk => ⟨by show k - n ≤ (jM m0).2.2.2.2.2.2; omega, by
      show jSZ k - jSZ n ≤ jSZ (n + (jM m0).2.2.2.2.2.2) - jSZ n
      have := jsz_mono hk hn
      omega⟩, hn, (name_of_methodNamed B.named B.method).1⟩
  rw [lg_entry_eq]
  obtain ⟨g1, g2, g3⟩ := jloc_S (E := E) hav hv
  have k := body p e _ s mi _ below meth c (MQ below (fun (_ : Array Value) (_ : State) (o : Outcome) (t : State) => ∃ (v : Option JV) (r' h' : JH), o = .returned (v.map (jtv E)) ∧ jokO v ∧ K v r' h' ∧ jHp E (n + (jM m0).2.2.2.2.2.2) r' h' t.heap) (av.map (jtv E)).toArray s (jM m0).2.2.2.2.2.2 (jSZ (n + (jM m0).2.2.2.2.2.2) - jSZ n) (fun q => jb0 E ≤ q)) C ⟨?_, ?_, ?_⟩ _ s.heap [] ⟨g1, g2, g3, (fun v hv => by cases hv), hH, (fun q hq => by cases hq), Nat.le_refl _, Nat.le_add_right _ _⟩
  · rw [Nat.sub_self, Nat.sub_self] at k
    exact k
  · intro pc ls x n' r' h' hd ht hRT lsS H locs hS
    obtain ⟨rfl, hK⟩ := hRT
    have hx : jR32 x := hS.2.2.2.1 _ List.mem_cons_self
    rw [Nat.add_sub_cancel_left]
    rcases ht with ht | ⟨ht, hx01⟩
    · exact W.iret (v := Int32.ofInt x) C.1 C.2.1 (hret.trans ht) (fun t ht hW => ⟨some (.inl x), r', h', rfl, hx, hK, by rw [ht]; exact hS.2.2.2.2.1⟩) hS.2.2.2.2.2.1 hd hlocks
    · exact W.zret (v := Int32.ofInt x) (ty := .boolean) C.1 C.2.1 (hret.trans ht) (by rcases hx01 with rfl | rfl <;> decide) (fun t ht hW => ⟨some (.inl x), r', h', rfl, hx, hK, by rw [ht]; exact hS.2.2.2.2.1⟩) hS.2.2.2.2.2.1 hd hlocks
  · intro pc ls x n' r' h' hd ht hRT lsS H locs hS
    obtain ⟨rfl, hK⟩ := hRT
    have hx : jR64 x := hS.2.2.2.1 _ List.mem_cons_self
    rw [Nat.add_sub_cancel_left]
    exact W.lret (v := Int64.ofInt x) C.1 C.2.1 (hret.trans ht) (fun t ht hW => ⟨some (.inr (.inl x)), r', h', rfl, hx, hK, by rw [ht]; exact hS.2.2.2.2.1⟩) hS.2.2.2.2.2.1 hd hlocks
  · intro pc ls n' r' h' hd ht hRT lsS H locs hS
    obtain ⟨rfl, hK⟩ := hRT
    rw [Nat.add_sub_cancel_left]
    exact W.vret C.1 C.2.1 (hret.trans ht) (fun t ht hW => ⟨none, r', h', rfl, trivial, hK, by rw [ht]; exact hS.2.2.2.2.1⟩) hS.2.2.2.2.2.1 hd hlocks
