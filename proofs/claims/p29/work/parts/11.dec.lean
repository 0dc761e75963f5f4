/-! ===== BYTES THAT BEGIN WITH AN INSTRUCTION DECODE TO IT ===== -/
section dec
variable {code : ByteArray} {pc : Nat} {a b c d : UInt8} {r : List UInt8}
theorem jzby_at {p : Nat} (h : code.data.toList.drop p = a :: r) : ∃ q : p < code.size, code[p] = a := by
  have h1 : code.data.toList[p]? = some a := by
    have h2 : (code.data.toList.drop p)[0]? = some a := by rw [h]; rfl
    rw [List.getElem?_drop] at h2
    exact h2
  obtain ⟨q, e⟩ := List.getElem?_eq_some_iff.mp h1
  exact ⟨q, e⟩
theorem jzby_next {p : Nat} (h : code.data.toList.drop p = a :: r) : code.data.toList.drop (p + 1) = r := by
  rw [← List.drop_drop, h]
  rfl
theorem jzrb {α β : Type} {x : ClassFile.Decoder α} {f : α → ClassFile.Decoder β} {p q : Nat} {v : α} (hx : Reader.runAt x code p = .ok (v, q)) : Reader.runAt (x >>= f) code p = Reader.runAt (f v) code q := by
  have h1 : x code p = Except.ok (v, q) := hx
  show Except.bind (x code p) (fun z => f z.1 code z.2) = f v code q
  rw [h1]
  rfl
theorem jzru1 {p : Nat} (h : code.data.toList.drop p = a :: r) : Reader.runAt (Reader.u1 : ClassFile.Decoder Nat) code p = .ok (a.toNat, p + 1) := by
  obtain ⟨q, e⟩ := jzby_at h
  show (if h : p < code.size then _ else _ : ClassFile.Decoder Nat) code p = _
  rw [dif_pos q, ← e]
  rfl
theorem jzru2 {p : Nat} (h : code.data.toList.drop p = a :: b :: r) : Reader.runAt (Reader.u2 : ClassFile.Decoder Nat) code p = .ok (a.toNat * 256 + b.toNat, p + 2) := by
  unfold Reader.u2
  rw [jzrb (jzru1 h), jzrb (jzru1 (jzby_next h))]
  rfl
theorem jzrs1 {p : Nat} (h : code.data.toList.drop p = a :: r) : Reader.runAt (Reader.s1 : ClassFile.Decoder Int) code p = .ok (Reader.signed 8 a.toNat, p + 1) := by
  have h1 : (Reader.u1 : ClassFile.Decoder Nat) code p = Except.ok (a.toNat, p + 1) := jzru1 h
  show Except.bind ((Reader.u1 : ClassFile.Decoder Nat) code p) (fun z => Except.ok (Reader.signed 8 z.1, z.2)) = _
  rw [h1]
  rfl
theorem jzrs2 {p : Nat} (h : code.data.toList.drop p = a :: b :: r) : Reader.runAt (Reader.s2 : ClassFile.Decoder Int) code p = .ok (Reader.signed 16 (a.toNat * 256 + b.toNat), p + 2) := by
  have h1 : (Reader.u2 : ClassFile.Decoder Nat) code p = Except.ok (a.toNat * 256 + b.toNat, p + 2) := jzru2 h
  show Except.bind ((Reader.u2 : ClassFile.Decoder Nat) code p) (fun z => Except.ok (Reader.signed 16 z.1, z.2)) = _
  rw [h1]
  rfl
theorem jzdo {i : Instr} {n : Nat} (h : Reader.runAt (ClassFile.Decoder.instr pc) code pc = .ok (i, pc + n)) : decode code pc = .ok (i, n) := by
  unfold decode
  rw [h]
  show Except.ok (i, pc + n - pc) = _
  rw [Nat.add_sub_cancel_left]
variable {f : Nat → ClassFile.Decoder Instr} {o : Nat} {i : Instr}
theorem jzd0 (hf : ClassFile.Decoder.instr pc = Reader.u1 >>= f) (hi : f o = Pure.pure i) (h : code.data.toList.drop pc = a :: r) (e : a.toNat = o) : decode code pc = .ok (i, 1) := jzdo (by
  rw [hf, jzrb (jzru1 h), e, hi]
  rfl)
theorem jzdu1 {g : Nat → Instr} {x : Nat} (hf : ClassFile.Decoder.instr pc = Reader.u1 >>= f) (hi : f o = Reader.u1 >>= fun x => Pure.pure (g x)) (h : code.data.toList.drop pc = a :: b :: r) (e : a.toNat = o) (ex : b.toNat = x) : decode code pc = .ok (g x, 2) := jzdo (by
  rw [hf, jzrb (jzru1 h), e, hi, jzrb (jzru1 (jzby_next h)), ex]
  rfl)
theorem jzdu1c {g : Nat → ClassFile.Decoder Instr} {x : Nat} (hf : ClassFile.Decoder.instr pc = Reader.u1 >>= f) (hi : f o = Reader.u1 >>= g) (hx : g x = Pure.pure i) (h : code.data.toList.drop pc = a :: b :: r) (e : a.toNat = o) (ex : b.toNat = x) : decode code pc = .ok (i, 2) := jzdo (by
  rw [hf, jzrb (jzru1 h), e, hi, jzrb (jzru1 (jzby_next h)), ex, hx]
  rfl)
theorem jzds1 {g : Int → Instr} {x : Int} (hf : ClassFile.Decoder.instr pc = Reader.u1 >>= f) (hi : f o = Reader.s1 >>= fun x => Pure.pure (g x)) (h : code.data.toList.drop pc = a :: b :: r) (e : a.toNat = o) (ex : Reader.signed 8 b.toNat = x) : decode code pc = .ok (g x, 2) := jzdo (by
  rw [hf, jzrb (jzru1 h), e, hi, jzrb (jzrs1 (jzby_next h)), ex]
  rfl)
theorem jzdu2 {g : Nat → Instr} {x : Nat} (hf : ClassFile.Decoder.instr pc = Reader.u1 >>= f) (hi : f o = Reader.u2 >>= fun x => Pure.pure (g x)) (h : code.data.toList.drop pc = a :: b :: c :: r) (e : a.toNat = o) (ex : b.toNat * 256 + c.toNat = x) : decode code pc = .ok (g x, 3) := jzdo (by
  rw [hf, jzrb (jzru1 h), e, hi, jzrb (jzru2 (jzby_next h)), ex]
  rfl)
theorem jzds2 {g : Int → Instr} {x : Int} (hf : ClassFile.Decoder.instr pc = Reader.u1 >>= f) (hi : f o = Reader.s2 >>= fun x => Pure.pure (g x)) (h : code.data.toList.drop pc = a :: b :: c :: r) (e : a.toNat = o) (ex : Reader.signed 16 (b.toNat * 256 + c.toNat) = x) : decode code pc = .ok (g x, 3) := jzdo (by
  rw [hf, jzrb (jzru1 h), e, hi, jzrb (jzrs2 (jzby_next h)), ex]
  rfl)
theorem jzdii {x : Nat} {y : Int} (hf : ClassFile.Decoder.instr pc = Reader.u1 >>= f) (hi : f o = Reader.u1 >>= fun x => Reader.s1 >>= fun y => Pure.pure (.iinc x y)) (h : code.data.toList.drop pc = a :: b :: c :: r) (e : a.toNat = o) (ex : b.toNat = x) (ey : Reader.signed 8 c.toNat = y) : decode code pc = .ok (.iinc x y, 3) := jzdo (by
  rw [hf, jzrb (jzru1 h), e, hi, jzrb (jzru1 (jzby_next h)), jzrb (jzrs1 (jzby_next (jzby_next h))), ex, ey]
  rfl)
end dec
theorem jzb0_u {bs : List UInt8} {o : Nat} (h : jzb0 bs o = true) : ∃ b r, bs = b :: r ∧ b.toNat = o := by
  unfold jzb0 at h
  split at h
  · exact ⟨_, _, rfl, Nat.eq_of_beq_eq_true h⟩
  · cases h
theorem jzbu1_u {bs : List UInt8} {o x : Nat} (h : jzbu1 bs o x = true) : ∃ b c r, bs = b :: c :: r ∧ b.toNat = o ∧ c.toNat = x := by
  unfold jzbu1 at h
  split at h
  · simp only [Bool.and_eq_true] at h
    exact ⟨_, _, _, rfl, Nat.eq_of_beq_eq_true h.1, Nat.eq_of_beq_eq_true h.2⟩
  · cases h
theorem jzbs1_u {bs : List UInt8} {o : Nat} {x : Int} (h : jzbs1 bs o x = true) : ∃ b c r, bs = b :: c :: r ∧ b.toNat = o ∧ Reader.signed 8 c.toNat = x := by
  unfold jzbs1 at h
  split at h
  · simp only [Bool.and_eq_true] at h
    exact ⟨_, _, _, rfl, Nat.eq_of_beq_eq_true h.1, of_decide_eq_true h.2⟩
  · cases h
theorem jzbu2_u {bs : List UInt8} {o x : Nat} (h : jzbu2 bs o x = true) : ∃ b c d r, bs = b :: c :: d :: r ∧ b.toNat = o ∧ c.toNat * 256 + d.toNat = x := by
  unfold jzbu2 at h
  split at h
  · simp only [Bool.and_eq_true] at h
    exact ⟨_, _, _, _, rfl, Nat.eq_of_beq_eq_true h.1, Nat.eq_of_beq_eq_true h.2⟩
  · cases h
theorem jzbs2_u {bs : List UInt8} {o : Nat} {x : Int} (h : jzbs2 bs o x = true) : ∃ b c d r, bs = b :: c :: d :: r ∧ b.toNat = o ∧ Reader.signed 16 (c.toNat * 256 + d.toNat) = x := by
  unfold jzbs2 at h
  split at h
  · simp only [Bool.and_eq_true] at h
    exact ⟨_, _, _, _, rfl, Nat.eq_of_beq_eq_true h.1, of_decide_eq_true h.2⟩
  · cases h
theorem jzbii_u {bs : List UInt8} {o k : Nat} {x : Int} (h : jzbii bs o k x = true) : ∃ b c d r, bs = b :: c :: d :: r ∧ b.toNat = o ∧ c.toNat = k ∧ Reader.signed 8 d.toNat = x := by
  unfold jzbii at h
  split at h
  · simp only [Bool.and_eq_true] at h
    exact ⟨_, _, _, _, rfl, Nat.eq_of_beq_eq_true h.1.1, Nat.eq_of_beq_eq_true h.1.2, of_decide_eq_true h.2⟩
  · cases h
theorem jzfin4 (k : Fin 4) : k = 0 ∨ k = 1 ∨ k = 2 ∨ k = 3 := by
  revert k
  decide
theorem jzfin2 (k : Fin 2) : k = 0 ∨ k = 1 := by
  revert k
  decide
set_option maxHeartbeats 4000000 in
theorem jzop_ok {code : ByteArray} {pc len : Nat} {i : Instr} (h : jzop (code.data.toList.drop pc) len i = true) : decode code pc = .ok (i, len) := by
  cases i with
  | iaload =>
    simp only [jzop, Bool.and_eq_true, decide_eq_true_eq] at h
    obtain rfl := Nat.eq_of_beq_eq_true h.1
    obtain ⟨b, r, hb, e⟩ := jzb0_u h.2
    exact jzd0 (o := 46) rfl rfl hb e
  | laload =>
    simp only [jzop, Bool.and_eq_true, decide_eq_true_eq] at h
    obtain rfl := Nat.eq_of_beq_eq_true h.1
    obtain ⟨b, r, hb, e⟩ := jzb0_u h.2
    exact jzd0 (o := 47) rfl rfl hb e
  | aaload =>
    simp only [jzop, Bool.and_eq_true, decide_eq_true_eq] at h
    obtain rfl := Nat.eq_of_beq_eq_true h.1
    obtain ⟨b, r, hb, e⟩ := jzb0_u h.2
    exact jzd0 (o := 50) rfl rfl hb e
  | baload =>
    simp only [jzop, Bool.and_eq_true, decide_eq_true_eq] at h
    obtain rfl := Nat.eq_of_beq_eq_true h.1
    obtain ⟨b, r, hb, e⟩ := jzb0_u h.2
    exact jzd0 (o := 51) rfl rfl hb e
  | iastore =>
    simp only [jzop, Bool.and_eq_true, decide_eq_true_eq] at h
    obtain rfl := Nat.eq_of_beq_eq_true h.1
    obtain ⟨b, r, hb, e⟩ := jzb0_u h.2
    exact jzd0 (o := 79) rfl rfl hb e
  | lastore =>
    simp only [jzop, Bool.and_eq_true, decide_eq_true_eq] at h
    obtain rfl := Nat.eq_of_beq_eq_true h.1
    obtain ⟨b, r, hb, e⟩ := jzb0_u h.2
    exact jzd0 (o := 80) rfl rfl hb e
  | aastore =>
    simp only [jzop, Bool.and_eq_true, decide_eq_true_eq] at h
    obtain rfl := Nat.eq_of_beq_eq_true h.1
    obtain ⟨b, r, hb, e⟩ := jzb0_u h.2
    exact jzd0 (o := 83) rfl rfl hb e
  | bastore =>
    simp only [jzop, Bool.and_eq_true, decide_eq_true_eq] at h
    obtain rfl := Nat.eq_of_beq_eq_true h.1
    obtain ⟨b, r, hb, e⟩ := jzb0_u h.2
    exact jzd0 (o := 84) rfl rfl hb e
  | pop =>
    simp only [jzop, Bool.and_eq_true, decide_eq_true_eq] at h
    obtain rfl := Nat.eq_of_beq_eq_true h.1
    obtain ⟨b, r, hb, e⟩ := jzb0_u h.2
    exact jzd0 (o := 87) rfl rfl hb e
  | dup =>
    simp only [jzop, Bool.and_eq_true, decide_eq_true_eq] at h
    obtain rfl := Nat.eq_of_beq_eq_true h.1
    obtain ⟨b, r, hb, e⟩ := jzb0_u h.2
    exact jzd0 (o := 89) rfl rfl hb e
  | dup2 =>
    simp only [jzop, Bool.and_eq_true, decide_eq_true_eq] at h
    obtain rfl := Nat.eq_of_beq_eq_true h.1
    obtain ⟨b, r, hb, e⟩ := jzb0_u h.2
    exact jzd0 (o := 92) rfl rfl hb e
  | iadd =>
    simp only [jzop, Bool.and_eq_true, decide_eq_true_eq] at h
    obtain rfl := Nat.eq_of_beq_eq_true h.1
    obtain ⟨b, r, hb, e⟩ := jzb0_u h.2
    exact jzd0 (o := 96) rfl rfl hb e
  | ladd =>
    simp only [jzop, Bool.and_eq_true, decide_eq_true_eq] at h
    obtain rfl := Nat.eq_of_beq_eq_true h.1
    obtain ⟨b, r, hb, e⟩ := jzb0_u h.2
    exact jzd0 (o := 97) rfl rfl hb e
  | isub =>
    simp only [jzop, Bool.and_eq_true, decide_eq_true_eq] at h
    obtain rfl := Nat.eq_of_beq_eq_true h.1
    obtain ⟨b, r, hb, e⟩ := jzb0_u h.2
    exact jzd0 (o := 100) rfl rfl hb e
  | lsub =>
    simp only [jzop, Bool.and_eq_true, decide_eq_true_eq] at h
    obtain rfl := Nat.eq_of_beq_eq_true h.1
    obtain ⟨b, r, hb, e⟩ := jzb0_u h.2
    exact jzd0 (o := 101) rfl rfl hb e
  | imul =>
    simp only [jzop, Bool.and_eq_true, decide_eq_true_eq] at h
    obtain rfl := Nat.eq_of_beq_eq_true h.1
    obtain ⟨b, r, hb, e⟩ := jzb0_u h.2
    exact jzd0 (o := 104) rfl rfl hb e
  | lmul =>
    simp only [jzop, Bool.and_eq_true, decide_eq_true_eq] at h
    obtain rfl := Nat.eq_of_beq_eq_true h.1
    obtain ⟨b, r, hb, e⟩ := jzb0_u h.2
    exact jzd0 (o := 105) rfl rfl hb e
  | idiv =>
    simp only [jzop, Bool.and_eq_true, decide_eq_true_eq] at h
    obtain rfl := Nat.eq_of_beq_eq_true h.1
    obtain ⟨b, r, hb, e⟩ := jzb0_u h.2
    exact jzd0 (o := 108) rfl rfl hb e
  | ldiv =>
    simp only [jzop, Bool.and_eq_true, decide_eq_true_eq] at h
    obtain rfl := Nat.eq_of_beq_eq_true h.1
    obtain ⟨b, r, hb, e⟩ := jzb0_u h.2
    exact jzd0 (o := 109) rfl rfl hb e
  | irem =>
    simp only [jzop, Bool.and_eq_true, decide_eq_true_eq] at h
    obtain rfl := Nat.eq_of_beq_eq_true h.1
    obtain ⟨b, r, hb, e⟩ := jzb0_u h.2
    exact jzd0 (o := 112) rfl rfl hb e
  | lrem =>
    simp only [jzop, Bool.and_eq_true, decide_eq_true_eq] at h
    obtain rfl := Nat.eq_of_beq_eq_true h.1
    obtain ⟨b, r, hb, e⟩ := jzb0_u h.2
    exact jzd0 (o := 113) rfl rfl hb e
  | ineg =>
    simp only [jzop, Bool.and_eq_true, decide_eq_true_eq] at h
    obtain rfl := Nat.eq_of_beq_eq_true h.1
    obtain ⟨b, r, hb, e⟩ := jzb0_u h.2
    exact jzd0 (o := 116) rfl rfl hb e
  | ishl =>
    simp only [jzop, Bool.and_eq_true, decide_eq_true_eq] at h
    obtain rfl := Nat.eq_of_beq_eq_true h.1
    obtain ⟨b, r, hb, e⟩ := jzb0_u h.2
    exact jzd0 (o := 120) rfl rfl hb e
  | ishr =>
    simp only [jzop, Bool.and_eq_true, decide_eq_true_eq] at h
    obtain rfl := Nat.eq_of_beq_eq_true h.1
    obtain ⟨b, r, hb, e⟩ := jzb0_u h.2
    exact jzd0 (o := 122) rfl rfl hb e
  | iand =>
    simp only [jzop, Bool.and_eq_true, decide_eq_true_eq] at h
    obtain rfl := Nat.eq_of_beq_eq_true h.1
    obtain ⟨b, r, hb, e⟩ := jzb0_u h.2
    exact jzd0 (o := 126) rfl rfl hb e
  | ior =>
    simp only [jzop, Bool.and_eq_true, decide_eq_true_eq] at h
    obtain rfl := Nat.eq_of_beq_eq_true h.1
    obtain ⟨b, r, hb, e⟩ := jzb0_u h.2
    exact jzd0 (o := 128) rfl rfl hb e
  | ixor =>
    simp only [jzop, Bool.and_eq_true, decide_eq_true_eq] at h
    obtain rfl := Nat.eq_of_beq_eq_true h.1
    obtain ⟨b, r, hb, e⟩ := jzb0_u h.2
    exact jzd0 (o := 130) rfl rfl hb e
  | i2l =>
    simp only [jzop, Bool.and_eq_true, decide_eq_true_eq] at h
    obtain rfl := Nat.eq_of_beq_eq_true h.1
    obtain ⟨b, r, hb, e⟩ := jzb0_u h.2
    exact jzd0 (o := 133) rfl rfl hb e
  | l2i =>
    simp only [jzop, Bool.and_eq_true, decide_eq_true_eq] at h
    obtain rfl := Nat.eq_of_beq_eq_true h.1
    obtain ⟨b, r, hb, e⟩ := jzb0_u h.2
    exact jzd0 (o := 136) rfl rfl hb e
  | lcmp =>
    simp only [jzop, Bool.and_eq_true, decide_eq_true_eq] at h
    obtain rfl := Nat.eq_of_beq_eq_true h.1
    obtain ⟨b, r, hb, e⟩ := jzb0_u h.2
    exact jzd0 (o := 148) rfl rfl hb e
  | ireturn =>
    simp only [jzop, Bool.and_eq_true, decide_eq_true_eq] at h
    obtain rfl := Nat.eq_of_beq_eq_true h.1
    obtain ⟨b, r, hb, e⟩ := jzb0_u h.2
    exact jzd0 (o := 172) rfl rfl hb e
  | lreturn =>
    simp only [jzop, Bool.and_eq_true, decide_eq_true_eq] at h
    obtain rfl := Nat.eq_of_beq_eq_true h.1
    obtain ⟨b, r, hb, e⟩ := jzb0_u h.2
    exact jzd0 (o := 173) rfl rfl hb e
  | return_ =>
    simp only [jzop, Bool.and_eq_true, decide_eq_true_eq] at h
    obtain rfl := Nat.eq_of_beq_eq_true h.1
    obtain ⟨b, r, hb, e⟩ := jzb0_u h.2
    exact jzd0 (o := 177) rfl rfl hb e
  | arraylength =>
    simp only [jzop, Bool.and_eq_true, decide_eq_true_eq] at h
    obtain rfl := Nat.eq_of_beq_eq_true h.1
    obtain ⟨b, r, hb, e⟩ := jzb0_u h.2
    exact jzd0 (o := 190) rfl rfl hb e
  | iload_n k =>
    simp only [jzop, Bool.and_eq_true, decide_eq_true_eq] at h
    obtain rfl := Nat.eq_of_beq_eq_true h.1
    obtain ⟨b, r, hb, e⟩ := jzb0_u h.2
    rcases jzfin4 k with rfl | rfl | rfl | rfl
    · exact jzd0 (o := 26) rfl rfl hb (e.trans (by decide))
    · exact jzd0 (o := 27) rfl rfl hb (e.trans (by decide))
    · exact jzd0 (o := 28) rfl rfl hb (e.trans (by decide))
    · exact jzd0 (o := 29) rfl rfl hb (e.trans (by decide))
  | lload_n k =>
    simp only [jzop, Bool.and_eq_true, decide_eq_true_eq] at h
    obtain rfl := Nat.eq_of_beq_eq_true h.1
    obtain ⟨b, r, hb, e⟩ := jzb0_u h.2
    rcases jzfin4 k with rfl | rfl | rfl | rfl
    · exact jzd0 (o := 30) rfl rfl hb (e.trans (by decide))
    · exact jzd0 (o := 31) rfl rfl hb (e.trans (by decide))
    · exact jzd0 (o := 32) rfl rfl hb (e.trans (by decide))
    · exact jzd0 (o := 33) rfl rfl hb (e.trans (by decide))
  | aload_n k =>
    simp only [jzop, Bool.and_eq_true, decide_eq_true_eq] at h
    obtain rfl := Nat.eq_of_beq_eq_true h.1
    obtain ⟨b, r, hb, e⟩ := jzb0_u h.2
    rcases jzfin4 k with rfl | rfl | rfl | rfl
    · exact jzd0 (o := 42) rfl rfl hb (e.trans (by decide))
    · exact jzd0 (o := 43) rfl rfl hb (e.trans (by decide))
    · exact jzd0 (o := 44) rfl rfl hb (e.trans (by decide))
    · exact jzd0 (o := 45) rfl rfl hb (e.trans (by decide))
  | istore_n k =>
    simp only [jzop, Bool.and_eq_true, decide_eq_true_eq] at h
    obtain rfl := Nat.eq_of_beq_eq_true h.1
    obtain ⟨b, r, hb, e⟩ := jzb0_u h.2
    rcases jzfin4 k with rfl | rfl | rfl | rfl
    · exact jzd0 (o := 59) rfl rfl hb (e.trans (by decide))
    · exact jzd0 (o := 60) rfl rfl hb (e.trans (by decide))
    · exact jzd0 (o := 61) rfl rfl hb (e.trans (by decide))
    · exact jzd0 (o := 62) rfl rfl hb (e.trans (by decide))
  | astore_n k =>
    simp only [jzop, Bool.and_eq_true, decide_eq_true_eq] at h
    obtain rfl := Nat.eq_of_beq_eq_true h.1
    obtain ⟨b, r, hb, e⟩ := jzb0_u h.2
    rcases jzfin4 k with rfl | rfl | rfl | rfl
    · exact jzd0 (o := 75) rfl rfl hb (e.trans (by decide))
    · exact jzd0 (o := 76) rfl rfl hb (e.trans (by decide))
    · exact jzd0 (o := 77) rfl rfl hb (e.trans (by decide))
    · exact jzd0 (o := 78) rfl rfl hb (e.trans (by decide))
  | ldc x =>
    simp only [jzop, Bool.and_eq_true, decide_eq_true_eq] at h
    obtain rfl := Nat.eq_of_beq_eq_true h.1
    obtain ⟨b, c, r, hb, e, ex⟩ := jzbu1_u h.2
    exact jzdu1 (o := 18) (g := fun x => Instr.ldc x) rfl rfl hb e ex
  | iload x =>
    simp only [jzop, Bool.and_eq_true, decide_eq_true_eq] at h
    obtain rfl := Nat.eq_of_beq_eq_true h.1
    obtain ⟨b, c, r, hb, e, ex⟩ := jzbu1_u h.2
    exact jzdu1 (o := 21) (g := fun x => Instr.iload x) rfl rfl hb e ex
  | lload x =>
    simp only [jzop, Bool.and_eq_true, decide_eq_true_eq] at h
    obtain rfl := Nat.eq_of_beq_eq_true h.1
    obtain ⟨b, c, r, hb, e, ex⟩ := jzbu1_u h.2
    exact jzdu1 (o := 22) (g := fun x => Instr.lload x) rfl rfl hb e ex
  | aload x =>
    simp only [jzop, Bool.and_eq_true, decide_eq_true_eq] at h
    obtain rfl := Nat.eq_of_beq_eq_true h.1
    obtain ⟨b, c, r, hb, e, ex⟩ := jzbu1_u h.2
    exact jzdu1 (o := 25) (g := fun x => Instr.aload x) rfl rfl hb e ex
  | istore x =>
    simp only [jzop, Bool.and_eq_true, decide_eq_true_eq] at h
    obtain rfl := Nat.eq_of_beq_eq_true h.1
    obtain ⟨b, c, r, hb, e, ex⟩ := jzbu1_u h.2
    exact jzdu1 (o := 54) (g := fun x => Instr.istore x) rfl rfl hb e ex
  | lstore x =>
    simp only [jzop, Bool.and_eq_true, decide_eq_true_eq] at h
    obtain rfl := Nat.eq_of_beq_eq_true h.1
    obtain ⟨b, c, r, hb, e, ex⟩ := jzbu1_u h.2
    exact jzdu1 (o := 55) (g := fun x => Instr.lstore x) rfl rfl hb e ex
  | astore x =>
    simp only [jzop, Bool.and_eq_true, decide_eq_true_eq] at h
    obtain rfl := Nat.eq_of_beq_eq_true h.1
    obtain ⟨b, c, r, hb, e, ex⟩ := jzbu1_u h.2
    exact jzdu1 (o := 58) (g := fun x => Instr.astore x) rfl rfl hb e ex
  | ldc_w x =>
    simp only [jzop, Bool.and_eq_true, decide_eq_true_eq] at h
    obtain rfl := Nat.eq_of_beq_eq_true h.1
    obtain ⟨b, c, d, r, hb, e, ex⟩ := jzbu2_u h.2
    exact jzdu2 (o := 19) (g := fun x => Instr.ldc_w x) rfl rfl hb e ex
  | ldc2_w x =>
    simp only [jzop, Bool.and_eq_true, decide_eq_true_eq] at h
    obtain rfl := Nat.eq_of_beq_eq_true h.1
    obtain ⟨b, c, d, r, hb, e, ex⟩ := jzbu2_u h.2
    exact jzdu2 (o := 20) (g := fun x => Instr.ldc2_w x) rfl rfl hb e ex
  | getstatic x =>
    simp only [jzop, Bool.and_eq_true, decide_eq_true_eq] at h
    obtain rfl := Nat.eq_of_beq_eq_true h.1
    obtain ⟨b, c, d, r, hb, e, ex⟩ := jzbu2_u h.2
    exact jzdu2 (o := 178) (g := fun x => Instr.getstatic x) rfl rfl hb e ex
  | getfield x =>
    simp only [jzop, Bool.and_eq_true, decide_eq_true_eq] at h
    obtain rfl := Nat.eq_of_beq_eq_true h.1
    obtain ⟨b, c, d, r, hb, e, ex⟩ := jzbu2_u h.2
    exact jzdu2 (o := 180) (g := fun x => Instr.getfield x) rfl rfl hb e ex
  | putfield x =>
    simp only [jzop, Bool.and_eq_true, decide_eq_true_eq] at h
    obtain rfl := Nat.eq_of_beq_eq_true h.1
    obtain ⟨b, c, d, r, hb, e, ex⟩ := jzbu2_u h.2
    exact jzdu2 (o := 181) (g := fun x => Instr.putfield x) rfl rfl hb e ex
  | invokevirtual x =>
    simp only [jzop, Bool.and_eq_true, decide_eq_true_eq] at h
    obtain rfl := Nat.eq_of_beq_eq_true h.1
    obtain ⟨b, c, d, r, hb, e, ex⟩ := jzbu2_u h.2
    exact jzdu2 (o := 182) (g := fun x => Instr.invokevirtual x) rfl rfl hb e ex
  | invokespecial x =>
    simp only [jzop, Bool.and_eq_true, decide_eq_true_eq] at h
    obtain rfl := Nat.eq_of_beq_eq_true h.1
    obtain ⟨b, c, d, r, hb, e, ex⟩ := jzbu2_u h.2
    exact jzdu2 (o := 183) (g := fun x => Instr.invokespecial x) rfl rfl hb e ex
  | invokestatic x =>
    simp only [jzop, Bool.and_eq_true, decide_eq_true_eq] at h
    obtain rfl := Nat.eq_of_beq_eq_true h.1
    obtain ⟨b, c, d, r, hb, e, ex⟩ := jzbu2_u h.2
    exact jzdu2 (o := 184) (g := fun x => Instr.invokestatic x) rfl rfl hb e ex
  | new x =>
    simp only [jzop, Bool.and_eq_true, decide_eq_true_eq] at h
    obtain rfl := Nat.eq_of_beq_eq_true h.1
    obtain ⟨b, c, d, r, hb, e, ex⟩ := jzbu2_u h.2
    exact jzdu2 (o := 187) (g := fun x => Instr.new x) rfl rfl hb e ex
  | anewarray x =>
    simp only [jzop, Bool.and_eq_true, decide_eq_true_eq] at h
    obtain rfl := Nat.eq_of_beq_eq_true h.1
    obtain ⟨b, c, d, r, hb, e, ex⟩ := jzbu2_u h.2
    exact jzdu2 (o := 189) (g := fun x => Instr.anewarray x) rfl rfl hb e ex
  | iconst c =>
    simp only [jzop, Bool.and_eq_true, decide_eq_true_eq] at h
    obtain rfl := Nat.eq_of_beq_eq_true h.1.1
    have hc := h.1.2
    obtain ⟨b, r, hb, e⟩ := jzb0_u h.2
    rcases (show c = -1 ∨ c = 0 ∨ c = 1 ∨ c = 2 ∨ c = 3 ∨ c = 4 ∨ c = 5 by omega) with rfl | rfl | rfl | rfl | rfl | rfl | rfl
    · exact jzd0 (o := 2) rfl rfl hb (e.trans (by decide))
    · exact jzd0 (o := 3) rfl rfl hb (e.trans (by decide))
    · exact jzd0 (o := 4) rfl rfl hb (e.trans (by decide))
    · exact jzd0 (o := 5) rfl rfl hb (e.trans (by decide))
    · exact jzd0 (o := 6) rfl rfl hb (e.trans (by decide))
    · exact jzd0 (o := 7) rfl rfl hb (e.trans (by decide))
    · exact jzd0 (o := 8) rfl rfl hb (e.trans (by decide))
  | lconst k =>
    simp only [jzop, Bool.and_eq_true, decide_eq_true_eq] at h
    obtain rfl := Nat.eq_of_beq_eq_true h.1
    obtain ⟨b, r, hb, e⟩ := jzb0_u h.2
    rcases jzfin2 k with rfl | rfl
    · exact jzd0 (o := 9) rfl rfl hb (e.trans (by decide))
    · exact jzd0 (o := 10) rfl rfl hb (e.trans (by decide))
  | bipush x =>
    simp only [jzop, Bool.and_eq_true, decide_eq_true_eq] at h
    obtain rfl := Nat.eq_of_beq_eq_true h.1
    obtain ⟨b, c, r, hb, e, ex⟩ := jzbs1_u h.2
    exact jzds1 (o := 16) (g := fun x => Instr.bipush x) rfl rfl hb e ex
  | sipush x =>
    simp only [jzop, Bool.and_eq_true, decide_eq_true_eq] at h
    obtain rfl := Nat.eq_of_beq_eq_true h.1
    obtain ⟨b, c, d, r, hb, e, ex⟩ := jzbs2_u h.2
    exact jzds2 (o := 17) (g := fun x => Instr.sipush x) rfl rfl hb e ex
  | iinc k x =>
    simp only [jzop, Bool.and_eq_true, decide_eq_true_eq] at h
    obtain rfl := Nat.eq_of_beq_eq_true h.1
    obtain ⟨b, c, d, r, hb, e, ex, ey⟩ := jzbii_u h.2
    exact jzdii (o := 132) rfl rfl hb e ex ey
  | ifCond cd x =>
    simp only [jzop, Bool.and_eq_true, decide_eq_true_eq] at h
    obtain rfl := Nat.eq_of_beq_eq_true h.1
    obtain ⟨b, c, d, r, hb, e, ex⟩ := jzbs2_u h.2
    cases cd with
    | eq => exact jzds2 (o := 153) (g := fun x => Instr.ifCond .eq x) rfl rfl hb e ex
    | ne => exact jzds2 (o := 154) (g := fun x => Instr.ifCond .ne x) rfl rfl hb e ex
    | lt => exact jzds2 (o := 155) (g := fun x => Instr.ifCond .lt x) rfl rfl hb e ex
    | ge => exact jzds2 (o := 156) (g := fun x => Instr.ifCond .ge x) rfl rfl hb e ex
    | gt => exact jzds2 (o := 157) (g := fun x => Instr.ifCond .gt x) rfl rfl hb e ex
    | le => exact jzds2 (o := 158) (g := fun x => Instr.ifCond .le x) rfl rfl hb e ex
  | if_icmp cd x =>
    simp only [jzop, Bool.and_eq_true, decide_eq_true_eq] at h
    obtain rfl := Nat.eq_of_beq_eq_true h.1
    obtain ⟨b, c, d, r, hb, e, ex⟩ := jzbs2_u h.2
    cases cd with
    | eq => exact jzds2 (o := 159) (g := fun x => Instr.if_icmp .eq x) rfl rfl hb e ex
    | ne => exact jzds2 (o := 160) (g := fun x => Instr.if_icmp .ne x) rfl rfl hb e ex
    | lt => exact jzds2 (o := 161) (g := fun x => Instr.if_icmp .lt x) rfl rfl hb e ex
    | ge => exact jzds2 (o := 162) (g := fun x => Instr.if_icmp .ge x) rfl rfl hb e ex
    | gt => exact jzds2 (o := 163) (g := fun x => Instr.if_icmp .gt x) rfl rfl hb e ex
    | le => exact jzds2 (o := 164) (g := fun x => Instr.if_icmp .le x) rfl rfl hb e ex
  | goto x =>
    simp only [jzop, Bool.and_eq_true, decide_eq_true_eq] at h
    obtain rfl := Nat.eq_of_beq_eq_true h.1
    obtain ⟨b, c, d, r, hb, e, ex⟩ := jzbs2_u h.2
    exact jzds2 (o := 167) (g := fun x => Instr.goto x) rfl rfl hb e ex
  | newarray t =>
    cases t with
    | boolean =>
      simp only [jzop, Bool.and_eq_true] at h
      obtain rfl := Nat.eq_of_beq_eq_true h.2
      obtain ⟨b, c, r, hb, e, ex⟩ := jzbu1_u h.1
      exact jzdu1c (o := 188) (x := 4) rfl rfl rfl hb e ex
    | int =>
      simp only [jzop, Bool.and_eq_true] at h
      obtain rfl := Nat.eq_of_beq_eq_true h.2
      obtain ⟨b, c, r, hb, e, ex⟩ := jzbu1_u h.1
      exact jzdu1c (o := 188) (x := 10) rfl rfl rfl hb e ex
    | long =>
      simp only [jzop, Bool.and_eq_true] at h
      obtain rfl := Nat.eq_of_beq_eq_true h.2
      obtain ⟨b, c, r, hb, e, ex⟩ := jzbu1_u h.1
      exact jzdu1c (o := 188) (x := 11) rfl rfl rfl hb e ex
    | _ => exact absurd (show false = true from h) (by decide)
  | _ => exact absurd (show false = true from h) (by decide)
/-- a stretch's first instruction and the rest -/
theorem jzchkL_u {m pc : Nat} {bs : List UInt8} {q : JI} {qs : List JI} (hb : bs = (jM m).2.1.data.toList.drop pc) (h : jzchkL m pc bs (q :: qs) = true) : (decode (jM m).2.1 pc = .ok (q.1, q.2.1) ∧ jzchkF m pc q = true) ∧ jzchkL m (pc + q.2.1) ((jM m).2.1.data.toList.drop (pc + q.2.1)) qs = true := by
  simp only [jzchkL, Bool.and_eq_true, Bool.or_eq_true, decide_eq_true_eq] at h
  subst hb
  refine ⟨⟨?_, h.1.2⟩, ?_⟩
  · rcases h.1.1 with z | z
    · exact jzop_ok z
    · exact z
  · have z := h.2
    rw [List.drop_drop] at z
    exact z
theorem jzchk_u {m pc : Nat} {q : JI} {qs : List JI} (h : jchk m pc (q :: qs) = true) : (decode (jM m).2.1 pc = .ok (q.1, q.2.1) ∧ jzchkF m pc q = true) ∧ jchk m (pc + q.2.1) qs = true := jzchkL_u rfl h
