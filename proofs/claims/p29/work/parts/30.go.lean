/-! ===== ONE INSTRUCTION, A STRETCH, A METHOD ===== -/
section jgo
variable {E : JE} {p : Program} {l : Launch} {e : Env} {R : Room} {s : State} {m : MethodId} {args : Array Value} {below : List Frame} {meth : Method} {c : Code} {Q : State → Prop} {mm n0 n1 : Nat} {pc : Nat} {ls st : List JV} {n : Nat} {r h : JH}
theorem jr32_u {b : Int} (h : jr32 b = true) : jR32 b := by
  unfold jr32 at h
  unfold jR32
  exact of_decide_eq_true h
theorem jr64_u {b : Int} (h : jr64 b = true) : jR64 b := by
  unfold jr64 at h
  unfold jR64
  exact of_decide_eq_true h
theorem jbd_of {i b : Int} {pc' : Nat} {st' : List JV} (k : jbd i b (h i b) → jWj E p l e R s m args below meth c Q mm n0 n1 pc' ls st' n r h) : jWj E p l e R s m args below meth c Q mm n0 n1 pc' ls st' n r h := fun lsS H locs hS => k (hS.2.2.2.2.1.2.2.2 i b) lsS H locs hS
theorem jcas_m {K K' : JK} {m0 c0 na : Nat} (hK : ∀ ls st n r h, K ls st n r h → K' ls st n r h) (h0 : jcas (jMt E l) n1 m0 c0 na K ls st n r h) : jcas (jMt E l) n1 m0 c0 na K' ls st n r h :=
  ⟨h0.1, h0.2.1, h0.2.2.1, jMt_m (fun v r' h' q z => hK _ _ _ _ _ (q z)) h0.2.2.2⟩
theorem jcav_m {K K' : JK} {m0 c0 na ci : Nat} (hK : ∀ ls st n r h, K ls st n r h → K' ls st n r h) (h0 : jcav (jMt E l) n1 m0 c0 na ci K ls st n r h) : jcav (jMt E l) n1 m0 c0 na ci K' ls st n r h := by
  obtain ⟨i, s9, hdr, g0, g1, g2, g3, g4, g5⟩ := jcav_inv h0
  unfold jcav
  rw [hdr]
  exact ⟨g0, g1, g2, g3, g4, jMt_m (fun v r' h' q z => hK _ _ _ _ _ (q z)) g5⟩
theorem jrf {ins : Instr} {len a t u pp : Nat} {b : Int} {K : JK} {RT : JR} {NX : JN} {G : JK} (hG : ji (jMt E l) E n1 RT NX pc (ins, len, a, b, t, u, pp) K = G) (h0 : ji (jMt E l) E n1 RT NX pc (ins, len, a, b, t, u, pp) K ls st n r h) : G ls st n r h := hG ▸ h0
set_option maxHeartbeats 4000000 in
theorem ji_sound (C : jAt E p R s m args meth c mm n0 n1) {RT : JR} (hR : jRet E p l e R s m args below meth c Q mm n0 n1 RT) {NX : JN} (hN : ∀ pc ls st n r h, NX pc ls st n r h → jWj E p l e R s m args below meth c Q mm n0 n1 pc ls st n r h) {K : JK} {ins : Instr} {len a t u pp : Nat} {b : Int} (hd : decode (jM mm).2.1 pc = .ok (ins, len)) (hI : jchkI mm pc (ins, len, a, b, t, u, pp) = true) (hK : ∀ ls st n r h, K ls st n r h → jWj E p l e R s m args below meth c Q mm n0 n1 (pc + len) ls st n r h) (h0 : ji (jMt E l) E n1 RT NX pc (ins, len, a, b, t, u, pp) K ls st n r h) : jWj E p l e R s m args below meth c Q mm n0 n1 pc ls st n r h := by
  cases ins with
  | iconst c0 =>
    simp only [jchkI, Bool.and_eq_true, decide_eq_true_eq] at hI
    obtain ⟨⟨rfl, rfl⟩, hb⟩ := hI
    exact js_iconst C (jr32_u hb) hd (hK _ _ _ _ _ h0)
  | bipush c0 =>
    simp only [jchkI, Bool.and_eq_true, decide_eq_true_eq] at hI
    obtain ⟨⟨hv, rfl⟩, hb⟩ := hI
    exact js_bipush C (jr32_u hb) hv hd (hK _ _ _ _ _ h0)
  | sipush c0 =>
    simp only [jchkI, Bool.and_eq_true, decide_eq_true_eq] at hI
    obtain ⟨⟨hv, rfl⟩, hb⟩ := hI
    exact js_sipush C (jr32_u hb) hv hd (hK _ _ _ _ _ h0)
  | lconst c0 =>
    simp only [jchkI, decide_eq_true_eq] at hI
    obtain ⟨hv, rfl⟩ := hI
    exact js_lconst C hv hd (hK _ _ _ _ _ h0)
  | ldc i =>
    simp only [jchkI, Bool.and_eq_true, decide_eq_true_eq] at hI
    obtain ⟨⟨rfl, hw⟩, hb⟩ := hI
    exact js_ldc C (jr32_u hb) hw hd (hK _ _ _ _ _ h0)
  | ldc_w i =>
    simp only [jchkI, Bool.and_eq_true, decide_eq_true_eq] at hI
    obtain ⟨⟨rfl, hw⟩, hb⟩ := hI
    exact js_ldcw C (jr32_u hb) hw hd (hK _ _ _ _ _ h0)
  | ldc2_w i =>
    simp only [jchkI, Bool.and_eq_true, decide_eq_true_eq] at hI
    obtain ⟨⟨rfl, hw⟩, hb⟩ := hI
    exact js_ldc2 C (jr64_u hb) hw hd (hK _ _ _ _ _ h0)
  | iload_n k0 =>
    simp only [jchkI, decide_eq_true_eq] at hI
    obtain ⟨ha, rfl⟩ := hI
    obtain ⟨x, g1, g2⟩ := jldi_i h0
    exact js_iload_n C ha g1 hd (hK _ _ _ _ _ g2)
  | iload k0 =>
    simp only [jchkI, decide_eq_true_eq] at hI
    obtain ⟨rfl, rfl⟩ := hI
    obtain ⟨x, g1, g2⟩ := jldi_i h0
    exact js_iload C g1 hd (hK _ _ _ _ _ g2)
  | lload_n k0 =>
    simp only [jchkI, decide_eq_true_eq] at hI
    obtain ⟨ha, rfl⟩ := hI
    obtain ⟨x, g1, g2⟩ := jldl_i h0
    exact js_lload_n C ha g1 hd (hK _ _ _ _ _ g2)
  | lload k0 =>
    simp only [jchkI, decide_eq_true_eq] at hI
    obtain ⟨rfl, rfl⟩ := hI
    obtain ⟨x, g1, g2⟩ := jldl_i h0
    exact js_lload C g1 hd (hK _ _ _ _ _ g2)
  | aload_n k0 =>
    simp only [jchkI, decide_eq_true_eq] at hI
    obtain ⟨ha, rfl⟩ := hI
    obtain ⟨x, g1, g2⟩ := jldr_i h0
    exact js_aload_n C ha g1 hd (hK _ _ _ _ _ g2)
  | aload k0 =>
    simp only [jchkI, decide_eq_true_eq] at hI
    obtain ⟨rfl, rfl⟩ := hI
    obtain ⟨x, g1, g2⟩ := jldr_i h0
    exact js_aload C g1 hd (hK _ _ _ _ _ g2)
  | istore_n k0 =>
    simp only [jchkI, decide_eq_true_eq] at hI
    obtain ⟨ha, rfl, hl⟩ := hI
    obtain ⟨x, s9, rfl, g2⟩ := jsti_i h0
    exact js_istore_n C ha hl hd (hK _ _ _ _ _ g2)
  | istore k0 =>
    simp only [jchkI, decide_eq_true_eq] at hI
    obtain ⟨rfl, rfl, hl⟩ := hI
    obtain ⟨x, s9, rfl, g2⟩ := jsti_i h0
    exact js_istore C hl hd (hK _ _ _ _ _ g2)
  | lstore_n k0 =>
    simp only [jchkI, decide_eq_true_eq] at hI
    obtain ⟨ha, rfl, hl⟩ := hI
    obtain ⟨x, s9, rfl, g2⟩ := jstl_i h0
    exact js_lstore_n C ha hl hd (hK _ _ _ _ _ g2)
  | lstore k0 =>
    simp only [jchkI, decide_eq_true_eq] at hI
    obtain ⟨rfl, rfl, hl⟩ := hI
    obtain ⟨x, s9, rfl, g2⟩ := jstl_i h0
    exact js_lstore C hl hd (hK _ _ _ _ _ g2)
  | astore_n k0 =>
    simp only [jchkI, decide_eq_true_eq] at hI
    obtain ⟨ha, rfl, hl⟩ := hI
    obtain ⟨x, s9, rfl, g1, g2⟩ := jstr_i h0
    exact js_astore_n C g1 ha hl hd (hK _ _ _ _ _ g2)
  | astore k0 =>
    simp only [jchkI, decide_eq_true_eq] at hI
    obtain ⟨rfl, rfl, hl⟩ := hI
    obtain ⟨x, s9, rfl, g1, g2⟩ := jstr_i h0
    exact js_astore C g1 hl hd (hK _ _ _ _ _ g2)
  | iinc k0 c0 =>
    simp only [jchkI, decide_eq_true_eq] at hI
    obtain ⟨rfl, rfl, rfl, hl⟩ := hI
    obtain ⟨x, g1, g2⟩ := jinc_i h0
    exact js_iinc C g1 hl hd (hK _ _ _ _ _ g2)
  | iadd =>
    simp only [jchkI, decide_eq_true_eq] at hI
    subst hI
    obtain ⟨y, x, s9, rfl, g2⟩ := jbin_i h0
    exact js_iadd C hd (hK _ _ _ _ _ g2)
  | isub =>
    simp only [jchkI, decide_eq_true_eq] at hI
    subst hI
    obtain ⟨y, x, s9, rfl, g2⟩ := jbin_i h0
    exact js_isub C hd (hK _ _ _ _ _ g2)
  | imul =>
    simp only [jchkI, decide_eq_true_eq] at hI
    subst hI
    obtain ⟨y, x, s9, rfl, g2⟩ := jbin_i h0
    exact js_imul C hd (hK _ _ _ _ _ g2)
  | iand =>
    simp only [jchkI, decide_eq_true_eq] at hI
    subst hI
    obtain ⟨y, x, s9, rfl, g2⟩ := jbin_i h0
    exact js_iand C hd (hK _ _ _ _ _ g2)
  | ior =>
    simp only [jchkI, decide_eq_true_eq] at hI
    subst hI
    obtain ⟨y, x, s9, rfl, g2⟩ := jbin_i h0
    exact js_ior C hd (hK _ _ _ _ _ g2)
  | ixor =>
    simp only [jchkI, decide_eq_true_eq] at hI
    subst hI
    obtain ⟨y, x, s9, rfl, g2⟩ := jbin_i h0
    exact js_ixor C hd (hK _ _ _ _ _ g2)
  | ishl =>
    simp only [jchkI, decide_eq_true_eq] at hI
    subst hI
    obtain ⟨y, x, s9, rfl, g2⟩ := jbin_i h0
    exact js_ishl C hd (hK _ _ _ _ _ g2)
  | ishr =>
    simp only [jchkI, decide_eq_true_eq] at hI
    subst hI
    obtain ⟨y, x, s9, rfl, g2⟩ := jbin_i h0
    exact js_ishr C hd (hK _ _ _ _ _ g2)
  | idiv =>
    simp only [jchkI, decide_eq_true_eq] at hI
    subst hI
    obtain ⟨y, x, s9, rfl, g1, g2⟩ := jdvi_i h0
    exact js_idiv C g1 hd (hK _ _ _ _ _ g2)
  | irem =>
    simp only [jchkI, decide_eq_true_eq] at hI
    subst hI
    obtain ⟨y, x, s9, rfl, g1, g2⟩ := jdvi_i h0
    exact js_irem C g1 hd (hK _ _ _ _ _ g2)
  | ladd =>
    simp only [jchkI, decide_eq_true_eq] at hI
    subst hI
    obtain ⟨y, x, s9, rfl, g2⟩ := jbil_i h0
    exact js_ladd C hd (hK _ _ _ _ _ g2)
  | lsub =>
    simp only [jchkI, decide_eq_true_eq] at hI
    subst hI
    obtain ⟨y, x, s9, rfl, g2⟩ := jbil_i h0
    exact js_lsub C hd (hK _ _ _ _ _ g2)
  | lmul =>
    simp only [jchkI, decide_eq_true_eq] at hI
    subst hI
    obtain ⟨y, x, s9, rfl, g2⟩ := jbil_i h0
    exact js_lmul C hd (hK _ _ _ _ _ g2)
  | ldiv =>
    simp only [jchkI, decide_eq_true_eq] at hI
    subst hI
    obtain ⟨y, x, s9, rfl, g1, g2⟩ := jdvl_i h0
    exact js_ldiv C g1 hd (hK _ _ _ _ _ g2)
  | lrem =>
    simp only [jchkI, decide_eq_true_eq] at hI
    subst hI
    obtain ⟨y, x, s9, rfl, g1, g2⟩ := jdvl_i h0
    exact js_lrem C g1 hd (hK _ _ _ _ _ g2)
  | ineg =>
    simp only [jchkI, decide_eq_true_eq] at hI
    subst hI
    obtain ⟨x, s9, rfl, g2⟩ := jneg_i h0
    exact js_ineg C hd (hK _ _ _ _ _ g2)
  | i2l =>
    simp only [jchkI, decide_eq_true_eq] at hI
    subst hI
    obtain ⟨x, s9, rfl, g2⟩ := ji2l_i h0
    exact js_i2l C hd (hK _ _ _ _ _ g2)
  | l2i =>
    simp only [jchkI, decide_eq_true_eq] at hI
    subst hI
    obtain ⟨x, s9, rfl, g2⟩ := jl2i_i h0
    exact js_l2i C hd (hK _ _ _ _ _ g2)
  | lcmp =>
    simp only [jchkI, decide_eq_true_eq] at hI
    subst hI
    obtain ⟨y, x, s9, rfl, g2⟩ := jlcp_i h0
    exact js_lcmp C hd (hK _ _ _ _ _ g2)
  | dup =>
    simp only [jchkI, decide_eq_true_eq] at hI
    subst hI
    have h0 : jdup K ls st n r h := h0
    unfold jdup at h0
    split at h0
    · exact js_dup C (fun z q => by cases q) hd (hK _ _ _ _ _ h0)
    · exact js_dup C (fun z q => by cases q) hd (hK _ _ _ _ _ h0)
    · exact h0.elim
  | pop =>
    simp only [jchkI, decide_eq_true_eq] at hI
    subst hI
    have h0 : jpop K ls st n r h := h0
    unfold jpop at h0
    split at h0
    · exact js_pop C (fun z q => by cases q) hd (hK _ _ _ _ _ h0)
    · exact js_pop C (fun z q => by cases q) hd (hK _ _ _ _ _ h0)
    · exact h0.elim
  | dup2 =>
    simp only [jchkI, decide_eq_true_eq] at hI
    subst hI
    obtain ⟨x, i, s9, rfl, g2⟩ := jdp2_i h0
    exact js_dup2 C (fun z q => by cases q) (fun z q => by cases q) hd (hK _ _ _ _ _ g2)
  | ifCond cd off =>
    simp only [jchkI, decide_eq_true_eq] at hI
    obtain ⟨ha, rfl⟩ := hI
    cases cd with
    | eq => obtain ⟨x, s9, rfl, g1, g2⟩ := jif1_i h0; exact js_if_eq C ha hd (fun q => hN _ _ _ _ _ _ (g1 q)) (fun q => hK _ _ _ _ _ (g2 q))
    | ne => obtain ⟨x, s9, rfl, g1, g2⟩ := jif1_i h0; exact js_if_ne C ha hd (fun q => hN _ _ _ _ _ _ (g1 q)) (fun q => hK _ _ _ _ _ (g2 q))
    | lt => obtain ⟨x, s9, rfl, g1, g2⟩ := jif1_i h0; exact js_if_lt C ha hd (fun q => hN _ _ _ _ _ _ (g1 q)) (fun q => hK _ _ _ _ _ (g2 q))
    | ge => obtain ⟨x, s9, rfl, g1, g2⟩ := jif1_i h0; exact js_if_ge C ha hd (fun q => hN _ _ _ _ _ _ (g1 q)) (fun q => hK _ _ _ _ _ (g2 q))
    | gt => obtain ⟨x, s9, rfl, g1, g2⟩ := jif1_i h0; exact js_if_gt C ha hd (fun q => hN _ _ _ _ _ _ (g1 q)) (fun q => hK _ _ _ _ _ (g2 q))
    | le => obtain ⟨x, s9, rfl, g1, g2⟩ := jif1_i h0; exact js_if_le C ha hd (fun q => hN _ _ _ _ _ _ (g1 q)) (fun q => hK _ _ _ _ _ (g2 q))
  | if_icmp cd off =>
    simp only [jchkI, decide_eq_true_eq] at hI
    obtain ⟨ha, rfl⟩ := hI
    cases cd with
    | eq => obtain ⟨y, x, s9, rfl, g1, g2⟩ := jif2_i h0; exact js_icmp_eq C ha hd (fun q => hN _ _ _ _ _ _ (g1 q)) (fun q => hK _ _ _ _ _ (g2 q))
    | ne => obtain ⟨y, x, s9, rfl, g1, g2⟩ := jif2_i h0; exact js_icmp_ne C ha hd (fun q => hN _ _ _ _ _ _ (g1 q)) (fun q => hK _ _ _ _ _ (g2 q))
    | lt => obtain ⟨y, x, s9, rfl, g1, g2⟩ := jif2_i h0; exact js_icmp_lt C ha hd (fun q => hN _ _ _ _ _ _ (g1 q)) (fun q => hK _ _ _ _ _ (g2 q))
    | ge => obtain ⟨y, x, s9, rfl, g1, g2⟩ := jif2_i h0; exact js_icmp_ge C ha hd (fun q => hN _ _ _ _ _ _ (g1 q)) (fun q => hK _ _ _ _ _ (g2 q))
    | gt => obtain ⟨y, x, s9, rfl, g1, g2⟩ := jif2_i h0; exact js_icmp_gt C ha hd (fun q => hN _ _ _ _ _ _ (g1 q)) (fun q => hK _ _ _ _ _ (g2 q))
    | le => obtain ⟨y, x, s9, rfl, g1, g2⟩ := jif2_i h0; exact js_icmp_le C ha hd (fun q => hN _ _ _ _ _ _ (g1 q)) (fun q => hK _ _ _ _ _ (g2 q))
  | goto off =>
    simp only [jchkI, decide_eq_true_eq] at hI
    obtain ⟨ha, rfl⟩ := hI
    exact js_goto C ha hd (hN _ _ _ _ _ _ h0)
  | tableswitch d lo hi os =>
    simp only [jchkI, Bool.and_eq_true, decide_eq_true_eq] at hI
    obtain ⟨⟨g1, g2⟩, g3⟩ := hI
    obtain ⟨x, s9, rfl, g4⟩ := jtsw_m hN h0
    exact js_tsw C g1 g2 g3 hd g4
  | lookupswitch d qs =>
    simp only [jchkI, Bool.and_eq_true, decide_eq_true_eq] at hI
    obtain ⟨⟨g1, g2⟩, g3⟩ := hI
    obtain ⟨x, s9, rfl, g4⟩ := jlsw_m hN h0
    exact js_lsw C g1 g2 g3 hd g4
  | getfield i0 =>
    simp only [jchkI, Bool.and_eq_true, decide_eq_true_eq] at hI
    obtain ⟨rfl, hm⟩ := hI
    cases hc : vwCl[a]? with
    | none => rw [hc] at hm; cases hm
    | some w =>
      obtain ⟨CN, TT, N⟩ := w
      rw [hc] at hm
      simp only [Bool.and_eq_true, decide_eq_true_eq] at hm
      obtain ⟨hb, hw⟩ := hm
      have h0 : (if t = 4 then jgfr a b K else jgfi a b K) ls st n r h := h0
      by_cases ht : t = 4
      · rw [if_pos ht] at h0
        obtain ⟨i, s9, rfl, q0, q1, q2, q3⟩ := jgfr_i h0
        exact js_getf C hc hb hw hd q0 q1 q2 ⟨fun _ => rfl, fun z => absurd ht z⟩ (hK _ _ _ _ _ q3)
      · rw [if_neg ht] at h0
        obtain ⟨i, s9, rfl, q0, q1, q2, q3⟩ := jgfi_i h0
        exact js_getf C hc hb hw hd q0 q1 q2 ⟨fun z => absurd z ht, fun _ => rfl⟩ (jbd_of (i := i) (b := b) (fun z => hK _ _ _ _ _ (q3 z)))
  | putfield i0 =>
    simp only [jchkI, Bool.and_eq_true, decide_eq_true_eq] at hI
    obtain ⟨rfl, hm⟩ := hI
    cases hc : vwCl[a]? with
    | none => rw [hc] at hm; cases hm
    | some w =>
      obtain ⟨CN, TT, N⟩ := w
      rw [hc] at hm
      simp only [Bool.and_eq_true, Bool.or_eq_true, decide_eq_true_eq] at hm
      obtain ⟨⟨hb, hw⟩, hf⟩ := hm
      have h0 : (if t = 4 then jpfr a b K else jpfi a b K) ls st n r h := h0
      by_cases ht : t = 4
      · rw [if_pos ht] at h0
        obtain ⟨x, i, s9, rfl, q0, q1, q2, q3, q4⟩ := jpfr_i h0
        subst ht
        rcases hf with hf | hf
        · exact js_putr C hc hb hw ⟨hf.2.1, hf.2.2.1, hf.2.2.2⟩ hd q0 q1 q2 q3 (hK _ _ _ _ _ q4)
        · exact absurd rfl hf.1
      · rw [if_neg ht] at h0
        obtain ⟨x, i, s9, rfl, q0, q1, q2, q3, q4⟩ := jpfi_i h0
        rcases hf with hf | hf
        · exact absurd hf.1 ht
        · exact js_putf C hc hb hw hf hd q0 q1 q2 q3 (hK _ _ _ _ _ q4)
  | getstatic i0 =>
    simp only [jchkI, Bool.and_eq_true, decide_eq_true_eq] at hI
    obtain ⟨rfl, hm⟩ := hI
    cases hc : jST[(-3 - b).toNat]? with
    | none => rw [hc] at hm; cases hm
    | some w =>
      obtain ⟨CN, nn, dd, tt, xs⟩ := w
      rw [hc] at hm
      simp only [Bool.and_eq_true, decide_eq_true_eq] at hm
      obtain ⟨hb, hw⟩ := hm
      refine js_gets (t := t) (pp := pp) C hb hc ?_ hd (hK _ _ _ _ _ h0)
      by_cases ht : t = 0
      · rw [if_pos ht] at hw ⊢; exact hw
      · rw [if_neg ht] at hw ⊢; exact of_decide_eq_true hw
  | iaload =>
    simp only [jchkI, decide_eq_true_eq] at hI
    subst hI
    obtain ⟨k, i, s9, rfl⟩ := jald_i (h0 : jald E 1 K ls st n r h)
    exact js_iald C hd (jald_m hK h0)
  | laload =>
    simp only [jchkI, decide_eq_true_eq] at hI
    subst hI
    obtain ⟨k, i, s9, rfl⟩ := jald_i (h0 : jald E 2 K ls st n r h)
    exact js_lald C hd (jald_m hK h0)
  | baload =>
    simp only [jchkI, decide_eq_true_eq] at hI
    subst hI
    obtain ⟨k, i, s9, rfl⟩ := jald_i (h0 : jald E 3 K ls st n r h)
    exact js_bald C hd (jald_m hK h0)
  | aaload =>
    simp only [jchkI, decide_eq_true_eq] at hI
    subst hI
    obtain ⟨k, i, s9, rfl, g⟩ := jalr_m hK (h0 : jalr K ls st n r h)
    exact js_aald C hd g
  | iastore =>
    simp only [jchkI, decide_eq_true_eq] at hI
    subst hI
    obtain ⟨x, k, i, s9, rfl, g⟩ := jast_m hK (h0 : jast 1 K ls st n r h)
    exact js_iast C hd g
  | bastore =>
    simp only [jchkI, decide_eq_true_eq] at hI
    subst hI
    obtain ⟨x, k, i, s9, rfl, g⟩ := jast_m hK (h0 : jast 3 K ls st n r h)
    exact js_bast C hd g
  | lastore =>
    simp only [jchkI, decide_eq_true_eq] at hI
    subst hI
    obtain ⟨x, k, i, s9, rfl, g⟩ := jasl_m hK (h0 : jasl K ls st n r h)
    exact js_last C hd g
  | aastore =>
    simp only [jchkI, decide_eq_true_eq] at hI
    subst hI
    obtain ⟨x, k, i, s9, rfl, g⟩ := jasr_m hK (h0 : jasr K ls st n r h)
    exact js_aast C hd g
  | arraylength =>
    simp only [jchkI, decide_eq_true_eq] at hI
    subst hI
    obtain ⟨i, s9, rfl, g⟩ := jaln_m hK (h0 : jaln E K ls st n r h)
    exact js_alen C hd g
  | new i0 =>
    simp only [jchkI, Bool.and_eq_true, decide_eq_true_eq] at hI
    obtain ⟨rfl, hm⟩ := hI
    cases hc : vwCl[a]? with
    | none => rw [hc] at hm; cases hm
    | some w =>
      obtain ⟨CN, TT, N⟩ := w
      rw [hc] at hm
      have hq := jci hc
      have hCI := jCI a hq.1
      rw [hq.2] at hCI
      have h0 : jnew n1 a K ls st n r h := h0
      exact js_new C hc hm (jG_of hCI.1) (jG_of hCI.2) hd h0.1 h0.2.1 (hK _ _ _ _ _ h0.2.2)
  | newarray aty =>
    simp only [jchkI, decide_eq_true_eq] at hI
    subst hI
    cases aty with
    | int => obtain ⟨x, s9, rfl, g⟩ := jnwa_m hK (h0 : jnwa n1 1 K ls st n r h); exact js_newa C (t := 1) (ty := .int) rfl (Or.inl ⟨rfl, rfl⟩) jw_int hd g
    | long => obtain ⟨x, s9, rfl, g⟩ := jnwa_m hK (h0 : jnwa n1 2 K ls st n r h); exact js_newa C (t := 2) (ty := .long) rfl (Or.inr (Or.inl ⟨rfl, rfl⟩)) jw_long hd g
    | boolean => obtain ⟨x, s9, rfl, g⟩ := jnwa_m hK (h0 : jnwa n1 3 K ls st n r h); exact js_newa C (t := 3) (ty := .boolean) rfl (Or.inr (Or.inr ⟨rfl, rfl⟩)) jw_bool hd g
    | _ => exact False.elim h0
  | anewarray i0 =>
    simp only [jchkI, Bool.and_eq_true, decide_eq_true_eq] at hI
    obtain ⟨rfl, hw⟩ := hI
    obtain ⟨x, s9, rfl, g⟩ := jnwa_m hK (h0 : jnwa n1 4 K ls st n r h)
    exact js_anew C hw hd g
  | multianewarray i0 d0 =>
    simp only [jchkI, Bool.and_eq_true, decide_eq_true_eq] at hI
    obtain ⟨⟨rfl, rfl⟩, hw⟩ := hI
    obtain ⟨x, y, s9, rfl, g⟩ := jnwm_m hK (h0 : jnwm n1 K ls st n r h)
    exact js_multi C hw jw_int hd g
  | invokevirtual i0 =>
    simp only [jchkI, Bool.and_eq_true, decide_eq_true_eq] at hI
    obtain ⟨⟨⟨rfl, hb, hu, hms, hse⟩, hc⟩, hl⟩ := hI
    exact js_cav C hu hms hse hc hl hd (jcav_m hK h0)
  | invokestatic i0 =>
    simp only [jchkI, Bool.and_eq_true, decide_eq_true_eq] at hI
    obtain ⟨⟨rfl, hb⟩, hm⟩ := hI
    have h0 : (if a = 999 then jacp K else if a = 997 then jmth b K else jcas (jMt E l) n1 a t b.toNat K) ls st n r h := h0
    by_cases h9 : a = 999
    · rw [if_pos h9] at h0 hm
      simp only [Bool.and_eq_true, decide_eq_true_eq] at hm
      obtain ⟨c0, dp, d, sp, s0, s9, rfl, g⟩ := jacp_m hK h0
      exact js_acopy C hm.1 jw_cp1 jw_cp2 jw_cp3 hm.2 hd g
    · rw [if_neg h9] at h0 hm
      by_cases h7 : a = 997
      · rw [if_pos h7] at h0 hm
        simp only [Bool.and_eq_true, decide_eq_true_eq] at hm
        exact js_math C hm.1 hm.2 hd (jmth_m hK h0)
      · rw [if_neg h7] at h0 hm
        simp only [Bool.and_eq_true, decide_eq_true_eq] at hm
        refine js_cas (pp := pp) C hm.1.1 hm.1.2 ?_ hd (jcas_m hK h0)
        by_cases hp : pp < 100000
        · rw [if_pos hp]; have := hm.2; rw [if_pos hp] at this; exact this
        · rw [if_neg hp]; have := hm.2; rw [if_neg hp] at this; exact of_decide_eq_true this
  | invokespecial i0 =>
    simp only [jchkI, Bool.and_eq_true, decide_eq_true_eq] at hI
    obtain ⟨⟨rfl, hb⟩, hm⟩ := hI
    have h0 : (if a = 998 then jobj K else jcav (jMt E l) n1 a t b.toNat u K) ls st n r h := h0
    by_cases h9 : a = 998
    · rw [if_pos h9] at h0 hm
      simp only [Bool.and_eq_true, decide_eq_true_eq] at hm
      obtain ⟨i, s9, rfl, g⟩ := jobj_m hK h0
      exact js_objI C hm.1 jw_obj1 jw_obj2 hm.2 hd g
    · rw [if_neg h9] at h0 hm
      simp only [Bool.and_eq_true, decide_eq_true_eq] at hm
      refine js_cai (pp := pp) C hm.1.1.1 hm.1.1.2.1 hm.1.1.2.2 hm.1.2 ?_ hd (jcav_m hK h0)
      by_cases hp : pp < 100000
      · rw [if_pos hp]; have := hm.2; rw [if_pos hp] at this; exact this
      · rw [if_neg hp]; have := hm.2; rw [if_neg hp] at this; exact of_decide_eq_true this
  | ireturn =>
    simp only [jchkI, decide_eq_true_eq] at hI
    obtain ⟨x, rfl, g1, g2⟩ := jret_i (ls := ls) (h0 : jret RT t ls st n r h)
    rcases hI with ⟨g3, rfl⟩ | ⟨g3, g4, rfl⟩
    · exact hR.1 pc ls x n r h hd (Or.inl g3) g2
    · exact hR.1 pc ls x n r h hd (Or.inr ⟨g3, g1 g4⟩) g2
  | lreturn =>
    simp only [jchkI, decide_eq_true_eq] at hI
    obtain ⟨g3, rfl⟩ := hI
    obtain ⟨x, rfl, g2⟩ := jrel_i (ls := ls) (h0 : jrel RT ls st n r h)
    exact hR.2.1 pc ls x n r h hd g3 g2
  | return_ =>
    simp only [jchkI, decide_eq_true_eq] at hI
    obtain ⟨g3, rfl⟩ := hI
    obtain ⟨rfl, g2⟩ := jrev_i (ls := ls) (h0 : jrev RT ls st n r h)
    exact hR.2.2 pc ls n r h hd g3 g2
  | _ => exact False.elim h0
theorem jw_sound (C : jAt E p R s m args meth c mm n0 n1) {RT : JR} (hR : jRet E p l e R s m args below meth c Q mm n0 n1 RT) {NX : JN} (hN : ∀ pc ls st n r h, NX pc ls st n r h → jWj E p l e R s m args below meth c Q mm n0 n1 pc ls st n r h) : ∀ (qs : List JI) (pc : Nat) (ls st : List JV) (n : Nat) (r h : JH), jchk mm pc qs = true → jw (jMt E l) E n1 RT NX pc qs ls st n r h → jWj E p l e R s m args below meth c Q mm n0 n1 pc ls st n r h
  | [], pc, ls, st, n, r, h, _, h0 => hN _ _ _ _ _ _ h0
  | (ins, len, a, b, t, u, pp) :: qs, pc, ls, st, n, r, h, hc, h0 => by
    have hc := jzchk_u hc
    obtain ⟨pp', hI⟩ := jzchkF_i hc.1.2
    exact ji_sound C hR hN hc.1.1 hI (fun ls st n r h g => jw_sound C hR hN qs (pc + len) ls st n r h hc.2 g) h0
end jgo
/-- THE JUDGEMENT: from pc on, with these locals, stack and picture, method mm comes to a return that RT takes (whatever the machine around it) -/
def jGo (E : JE) (l : Launch) (mm n0 n1 : Nat) (RT : JR) : JN := fun pc ls st n r h =>
  ∀ (p : Program) (e : Env) (R : Room) (s : State) (m : MethodId) (args : Array Value) (below : List Frame) (meth : Method) (c : Code) (Q : State → Prop), jAt E p R s m args meth c mm n0 n1 → jRet E p l e R s m args below meth c Q mm n0 n1 RT → jWj E p l e R s m args below meth c Q mm n0 n1 pc ls st n r h
theorem jGo_blk {E : JE} {l : Launch} {mm n0 n1 : Nat} {RT : JR} {pc : Nat} {qs : List JI} {ls st : List JV} {n : Nat} {r h : JH} (hc : jchk mm pc qs = true) (h0 : jw (jMt E l) E n1 RT (jGo E l mm n0 n1 RT) pc qs ls st n r h) : jGo E l mm n0 n1 RT pc ls st n r h :=
  fun p e R s m args below meth c Q C hR => jw_sound C hR (fun pc ls st n r h g => g p e R s m args below meth c Q C hR) qs pc ls st n r h hc h0
/-- the bounds hold at every point -/
theorem jGo_bd {E : JE} {l : Launch} {mm n0 n1 : Nat} {RT : JR} {pc : Nat} {ls st : List JV} {n : Nat} {r h : JH} (k : (∀ i k : Int, jbd i k (h i k)) → jGo E l mm n0 n1 RT pc ls st n r h) : jGo E l mm n0 n1 RT pc ls st n r h :=
  fun p e R s m args below meth c Q C hR lsS H locs hS => k hS.2.2.2.2.1.2.2.2 p e R s m args below meth c Q C hR lsS H locs hS
/-- locals and stack hold numbers of their kinds -/
theorem jGo_ok {E : JE} {l : Launch} {mm n0 n1 : Nat} {RT : JR} {pc : Nat} {ls st : List JV} {n : Nat} {r h : JH} (k : (∀ v ∈ ls, jok v) → (∀ v ∈ st, jok v) → jGo E l mm n0 n1 RT pc ls st n r h) : jGo E l mm n0 n1 RT pc ls st n r h :=
  fun p e R s m args below meth c Q C hR lsS H locs hS => k hS.2.2.1 hS.2.2.2.1 p e R s m args below meth c Q C hR lsS H locs hS
