section jheap
variable {E : JE} {p : Program} {l : Launch} {e : Env} {R : Room} {s : State} {m : MethodId} {args : Array Value} {below : List Frame} {meth : Method} {c : Code} {Q : State → Prop} {mm n0 n1 : Nat} {pc : Nat} {ls st : List JV} {n : Nat} {r h : JH}
/-- a field's place at the machine -/
theorem jfd (C : jAt E p R s m args meth c mm n0 n1) {ci : Nat} {q : vw_C} (hq : vwCl[ci]? = some q) {k : Nat} (hk : k < q.2.2) : ∃ (cf : ClassId) (kf : Class) (fi : Nat) (f : Field), s.fieldFound? (q.2.1 k).1 (q.2.1 k).2.1 (q.2.1 k).2.2.1 = some (cf, kf, fi, f) ∧ f.slot = E.1.2 ci k ∧ f.isStatic = false := by
  obtain ⟨hS, hfc, kC, hkC, hkind⟩ := C.2.2.2.2.2.1.1.1 ci q hq
  obtain ⟨cf, kf, fi, f, hi, hsl⟩ := hS k hk
  exact ⟨cf, kf, fi, f, hi, hsl, (u_facts hfc hkC (u_lays C.2.2.2.2.1 (jUW hq) hk) hi).1⟩
theorem js_getf (C : jAt E p R s m args meth c mm n0 n1) {i b : Int} {a t pp idx : Nat} {T : u_T} {CN : String} {N : Nat} (hc : vwCl[a]? = some (CN, T, N)) (hb : 0 ≤ b ∧ b.toNat < N ∧ t = (jFT.getD a []).getD b.toNat 0) (hw : jcw pp (.fieldLink (jM mm).1.cls idx (T b.toNat).1 (T b.toNat).2.1 (T b.toNat).2.2.1) = true)
    (hd : decode (jM mm).2.1 pc = .ok (.getfield idx, 3)) (h0 : 0 ≤ i) (h1 : i < n) (hk : jk i = (0, a)) {v : JV} (hv : (t = 4 → v = .inr (.inr (.inl (r i b)))) ∧ (t ≠ 4 → v = .inl (h i b))) (k : jWj E p l e R s m args below meth c Q mm n0 n1 (pc + 3) ls (v :: st) n r h) : jWj E p l e R s m args below meth c Q mm n0 n1 pc ls (.inr (.inr (.inl i)) :: st) n r h := fun lsS H locs hS => by
  obtain ⟨q, hq, cell, c1, c2, c3, c4⟩ := jHp_obj hS.2.2.2.2.1 h0 h1 hk
  have hq2 : q = (CN, T, N) := Option.some.inj (hq.symm.trans hc)
  subst hq2
  obtain ⟨cf, kf, fi, f, hi, hsl, hst⟩ := jfd C hc hb.2.1
  have hbe : ((b.toNat : Nat) : Int) = b := Int.toNat_of_nonneg hb.1
  have c5 := c4 b.toNat hb.2.1
  dsimp only at c5
  rw [hbe, ← hb.2.2] at c5
  have hty := (jTY hc hb.2.1).2
  rw [← hb.2.2] at hty
  have hval : jsv E t (h i b) (r i b) = jtv E v := by
    by_cases ht : t = 4
    · rw [hv.1 ht]; simp [jsv, ht]
    · rw [hv.2 ht]
      have ht2 : t = 1 ∨ t = 3 := by omega
      rcases ht2 with rfl | rfl <;> rfl
  have hok : jok v := by
    by_cases ht : t = 4
    · rw [hv.1 ht]; exact trivial
    · rw [hv.2 ht]; exact jbd_int (by rw [hk]; exact fun q => by cases q) (hS.2.2.2.2.1.2.2.2 i b)
  rw [hval, ← hsl] at c5
  rw [List.map_cons, jtv_ref h0]
  refine W.getf C.1 C.2.1 C.2.2.2.1 (C.2.2.2.2.1 _ (jG_of hw)) hi hst c1 (by rw [c3]; exact fun h => by cases h) c5 rfl rfl hd ?_
  exact k lsS H locs (jS_st hS (jokc (jokd hS.2.2.2.1) hok))
theorem jo_obj {E : JE} {r h : JH} {H : Heap} {i : Int} {ci : Nat} {q : vw_C} (h0 : 0 ≤ i) (hk : jk i = (0, ci)) (hq : vwCl[ci]? = some q) (ho : t_OB (jb0 E + i.toNat) (E.1.1 ci) q.2.2 (E.1.2 ci) H (fun k => jsv E ((jFT.getD ci []).getD k 0) (h i k) (r i k))) : jO E r h H i.toNat := by
  unfold jO
  rw [Int.toNat_of_nonneg h0, hk]
  exact ⟨fun _ => ⟨q, hq, ho⟩, fun h => absurd rfl h⟩
theorem jo_arr {E : JE} {r h : JH} {H : Heap} {i : Int} (h0 : 0 ≤ i) (hk : (jk i).1 ≠ 0) (ho : H[jb0 E + i.toNat]? = some (arrV (E.2.1 (jk i).1) (jk i).2 (fun j => jsv E (jk i).1 (h i j) (r i j)))) : jO E r h H i.toNat := by
  unfold jO
  rw [Int.toNat_of_nonneg h0]
  exact ⟨fun h => absurd h hk, fun _ => ho⟩
theorem jS_put {lsS : Array Slot} {H H' : Heap} {locs : List Loc} {st' : List JV} {r' h' : JH} {i k : Nat} (hS : jS E mm n0 n1 lsS H locs ls st n r h) (hs : ∀ v ∈ st', jok v) (hH : jHp E n r' h' H') : jS E mm n0 n1 lsS H' (locs ++ [⟨jb0 E + i, k⟩]) ls st' n r' h' :=
  ⟨hS.1, hS.2.1, hS.2.2.1, hs, hH, fun q hq => by
    rcases List.mem_append.mp hq with g | g
    · exact hS.2.2.2.2.2.1 q g
    · rw [List.mem_singleton.mp g]; exact Nat.le_add_right _ _, hS.2.2.2.2.2.2⟩
theorem jsv_up {E : JE} {h r : JH} {i b x : Int} {ci k : Nat} {t : Nat} (hb : 0 ≤ b) (ht : t = (jFT.getD ci []).getD b.toNat 0) (ht4 : t = 1 ∨ t = 3) : updV (fun k : Nat => jsv E ((jFT.getD ci []).getD k 0) (h i k) (r i k)) b.toNat (.int (Int32.ofInt x)) k = jsv E ((jFT.getD ci []).getD k 0) (jup h i b x i k) (r i k) := by
  unfold updV
  by_cases e : k = b.toNat
  · subst e
    have hbe : ((b.toNat : Nat) : Int) = b := Int.toNat_of_nonneg hb
    rw [if_pos rfl, hbe, jup_eq, ← ht]
    rcases ht4 with rfl | rfl <;> rfl
  · rw [if_neg e, jup_ne (fun q => e (by omega))]
theorem js_putf (C : jAt E p R s m args meth c mm n0 n1) {i b x : Int} {a t pp idx : Nat} {T : u_T} {CN : String} {N : Nat} (hc : vwCl[a]? = some (CN, T, N)) (hb : 0 ≤ b ∧ b.toNat < N ∧ t = (jFT.getD a []).getD b.toNat 0) (hw : jcw pp (.fieldLink (jM mm).1.cls idx (T b.toNat).1 (T b.toNat).2.1 (T b.toNat).2.2.1) = true) (hf : t ≠ 4 ∧ (T b.toNat).2.2.2 = false)
    (hd : decode (jM mm).2.1 pc = .ok (.putfield idx, 3)) (h0 : 0 ≤ i) (h1 : i < n) (hk : jk i = (0, a)) (hx : jR32 x → jbd i b x) (k : jWj E p l e R s m args below meth c Q mm n0 n1 (pc + 3) ls st n r (jup h i b x)) : jWj E p l e R s m args below meth c Q mm n0 n1 pc ls (.inl x :: .inr (.inr (.inl i)) :: st) n r h := fun lsS H locs hS => by
  have hx := hx (hS.2.2.2.1 _ List.mem_cons_self)
  obtain ⟨q, hq, cell, c1, c2, c3, c4⟩ := jHp_obj hS.2.2.2.2.1 h0 h1 hk
  have hq2 : q = (CN, T, N) := Option.some.inj (hq.symm.trans hc)
  subst hq2
  obtain ⟨hSl, hfc, kC, hkC, hkind⟩ := C.2.2.2.2.2.1.1.1 a _ hc
  obtain ⟨cf, kf, fi, f, hi, hsl⟩ := hSl b.toNat hb.2.1
  have hst := (u_facts hfc hkC (u_lays C.2.2.2.2.1 (jUW hc) hb.2.1) hi).1
  have hlay := C.2.2.2.2.1 _ (jUW hc _ (u_in_lay hb.2.1))
  unfold u_lay at hlay
  rw [if_neg (by rw [show ((CN, T, N) : vw_C).2.1 = T from rfl, hf.2]; decide)] at hlay
  have hty := (jTY hc hb.2.1)
  have hcs := hty.2
  rw [← hb.2.2] at hcs
  have ht4 : t = 1 ∨ t = 3 := by have := hf.1; omega
  have hnf : narrow (jty a b.toNat) (.int (Int32.ofInt x)) = .int (Int32.ofInt x) ∧ fits (jty a b.toNat) (.int (Int32.ofInt x)) = true := by
    rcases hcs with ⟨g1, g2⟩ | ⟨g1, g2, g3⟩ | ⟨g1, g2⟩
    · rw [g2]; exact ⟨rfl, rfl⟩
    · rw [g2]
      rcases jbd_bool hk g3 hx with rfl | rfl
      · exact ⟨by decide, by decide⟩
      · exact ⟨by decide, by decide⟩
    · exact absurd g1 hf.1
  have h6 := u_store hfc hkC hkind hlay hi hty.1 hnf.1 hnf.2
  have hap := va_apart (own := (jM mm).1.cls) C.2.2.2.2.1 (jUW hc) (jty a) (fun k hk => (jTY hc hk).1) (jNM hc) C.2.2.2.2.2.1.1 hc
  rw [List.map_cons, List.map_cons, jtv_ref h0]
  refine W.putK C.1 C.2.1 (f := f) ⟨C.2.2.2.1, C.2.2.2.2.1 _ (jG_of hw), ⟨_, _, _, hi⟩, hst⟩ (by rw [c2]; exact h6) c1 c3 (by rw [hsl]; exact k2_hasslot (c4 b.toNat hb.2.1)) rfl rfl hd fun H' e1 e2 e3 => ?_
  rw [hsl] at e1 ⊢
  refine k lsS H' _ (jS_put hS (jokd (jokd hS.2.2.2.1)) ?_)
  refine jHp_put hS.2.2.2.2.1 (i := i.toNat) (by omega) e2 e3 (jo_obj h0 hk hc (t_OB.to ⟨_, e1, c2, c3, t_set c4 hap hb.2.1 _⟩ (fun k _ => jsv_up hb.1 hb.2.2 ht4))) (fun _ _ _ => rfl) (fun j k hj => jup_ne (fun q => hj (by omega))) (jup_bd hS.2.2.2.2.1.2.2.2 hx)
theorem jsv_upr {E : JE} {h r : JH} {i b v : Int} {ci k : Nat} (hb : 0 ≤ b) (ht : 4 = (jFT.getD ci []).getD b.toNat 0) : updV (fun k : Nat => jsv E ((jFT.getD ci []).getD k 0) (h i k) (r i k)) b.toNat (jtv E (.inr (.inr (.inl v)))) k = jsv E ((jFT.getD ci []).getD k 0) (h i k) (jup r i b v i k) := by
  unfold updV
  by_cases e : k = b.toNat
  · subst e
    have hbe : ((b.toNat : Nat) : Int) = b := Int.toNat_of_nonneg hb
    rw [if_pos rfl, hbe, jup_eq, ← ht]
    rfl
  · rw [if_neg e, jup_ne (fun q => e (by omega))]
theorem js_putr (C : jAt E p R s m args meth c mm n0 n1) {i b v : Int} {a pp idx : Nat} {T : u_T} {CN : String} {N : Nat} (hc : vwCl[a]? = some (CN, T, N)) (hb : 0 ≤ b ∧ b.toNat < N ∧ 4 = (jFT.getD a []).getD b.toNat 0) (hw : jcw pp (.fieldLink (jM mm).1.cls idx (T b.toNat).1 (T b.toNat).2.1 (T b.toNat).2.2.1) = true) (hf : (T b.toNat).2.2.2 = true ∧ (jM mm).1.name = "<init>" ∧ (T b.toNat).1 = (jM mm).1.cls)
    (hd : decode (jM mm).2.1 pc = .ok (.putfield idx, 3)) (h0 : 0 ≤ i) (h1 : i < n) (hk : jk i = (0, a)) (hv : 0 ≤ v) (k : jWj E p l e R s m args below meth c Q mm n0 n1 (pc + 3) ls st n (jup r i b v) h) : jWj E p l e R s m args below meth c Q mm n0 n1 pc ls (.inr (.inr (.inl v)) :: .inr (.inr (.inl i)) :: st) n r h := fun lsS H locs hS => by
  obtain ⟨q, hq, cell, c1, c2, c3, c4⟩ := jHp_obj hS.2.2.2.2.1 h0 h1 hk
  have hq2 : q = (CN, T, N) := Option.some.inj (hq.symm.trans hc)
  subst hq2
  obtain ⟨hSl, hfc, kC, hkC, hkind⟩ := C.2.2.2.2.2.1.1.1 a _ hc
  obtain ⟨cf, kf, fi, f, hi, hsl⟩ := hSl b.toNat hb.2.1
  have hst := (u_facts hfc hkC (u_lays C.2.2.2.2.1 (jUW hc) hb.2.1) hi).1
  have hlay := u_lays C.2.2.2.2.1 (jUW hc) hb.2.1
  have hty := (jTY hc hb.2.1)
  have hcs := hty.2
  rw [← hb.2.2] at hcs
  have href : (jty a b.toNat).isReference = true := by
    rcases hcs with ⟨g1, g2⟩ | ⟨g1, g2, g3⟩ | ⟨g1, g2⟩
    · cases g1
    · cases g1
    · exact g2
  have hnf : narrow (jty a b.toNat) (.ref (jb0 E + v.toNat)) = .ref (jb0 E + v.toNat) ∧ fits (jty a b.toNat) (.ref (jb0 E + v.toNat)) = true := by
    cases hj : jty a b.toNat <;> rw [hj] at href <;> first | exact ⟨rfl, rfl⟩ | cases href
  have h6 := u_fits hfc hkC hkind hlay hi hty.1 hnf.1 hnf.2
  have hap := va_apart (own := (jM mm).1.cls) C.2.2.2.2.1 (jUW hc) (jty a) (fun k hk => (jTY hc hk).1) (jNM hc) C.2.2.2.2.2.1.1 hc
  have hcf : m.cls = cf := by
    have hlay2 := C.2.2.2.2.1 _ (jUW hc _ (u_in_lay hb.2.1))
    unfold u_lay at hlay2
    rw [if_pos hf.1] at hlay2
    obtain ⟨_, _, c', _, _, _, -, -, hf', -, -, -, hown2, -⟩ := Cond.laysFinal_spec hlay2
    have e1 : c' = cf := by have := hi.symm.trans hf'; simp at this; exact this.1.symm
    rw [show (((CN, T, N) : vw_C).2.1 b.toNat).1 = (jM mm).1.cls from hf.2.2] at hown2
    rw [← e1]; exact Option.some.inj (C.2.2.2.1.symm.trans hown2)
  rw [List.map_cons, List.map_cons, jtv_ref h0, jtv_ref hv]
  refine W.putFinK C.1 C.2.1 C.2.2.2.1 (C.2.2.2.2.1 _ (jG_of hw)) hi hst hcf (C.2.2.2.2.2.2.2.2.2.2.trans hf.2.1) (by rw [c2]; exact h6) c1 c3 (by rw [hsl]; exact k2_hasslot (c4 b.toNat hb.2.1)) rfl rfl hd fun H' e1 e2 e3 => ?_
  rw [hsl] at e1 ⊢
  refine k lsS H' _ (jS_put hS (jokd (jokd hS.2.2.2.1)) ?_)
  refine jHp_put hS.2.2.2.2.1 (i := i.toNat) (by omega) e2 e3 (jo_obj h0 hk hc (t_OB.to ⟨_, e1, c2, c3, t_set c4 hap hb.2.1 _⟩ (fun k _ => by rw [← jtv_ref hv]; exact jsv_upr hb.1 hb.2.2))) (fun j k hj => jup_ne (fun q => hj (by omega))) (fun _ _ _ => rfl) hS.2.2.2.2.1.2.2.2
end jheap
