/-! ===== IS A STRETCH THE BYTECODE'S? decided by the kernel ===== -/
def jM (m : Nat) : MethodName × ByteArray × Nat × Option FieldType × Nat × Nat × Nat := jML.getD m (x, code, 0, none, 0, 0, 0)
/-- a word at a place of the tables, of those that a call hands on -/
def jcw (p : Nat) (w : Cond) : Bool := decide (lw_tbl[p]? = some w) && goodWord w
def jr32 (b : Int) : Bool := decide (-2147483648 ≤ b ∧ b ≤ 2147483647)
def jr64 (b : Int) : Bool := decide (-9223372036854775808 ≤ b ∧ b ≤ 9223372036854775807)
/-- room and words of a call of method a out of method m -/
def jcall (m a na c : Nat) : Bool := decide (a < 179 ∧ (jM a).2.2.2.2.1 + 1 ≤ (jM m).2.2.2.2.1 ∧ 8 + ((jM a).2.2.1 + 11) + (jM a).2.2.2.2.2.1 ≤ (jM m).2.2.2.2.2.1 ∧ (jM a).2.2.2.2.2.2 = c ∧ (parseMethodDescriptor (jM a).1.desc).map (fun d => d.parameters.length) = some na)
def jmn (b : Int) : MethodName := match b with
  | 0 => Lib.Math.min.name
  | 1 => Lib.Math.max.name
  | 2 => Lib.Math.abs.name
  | _ => Lib.MathLoose.min_long.x
def jchkI (m pc : Nat) (q : JI) : Bool :=
  match q with
  | (ins, len, a, b, t, u, p) => match ins with
  | .iconst c => decide (c = b ∧ len = 1) && jr32 b
  | .bipush c => decide ((Int8.ofInt c).toInt32 = Int32.ofInt b ∧ len = 2) && jr32 b
  | .sipush c => decide ((Int16.ofInt c).toInt32 = Int32.ofInt b ∧ len = 3) && jr32 b
  | .lconst c => decide (b = (c : Nat) ∧ len = 1)
  | .ldc i => decide (len = 2) && jcw p (.constant (jM m).1.cls i (Int32.ofInt b)) && jr32 b
  | .ldc_w i => decide (len = 3) && jcw p (.constant (jM m).1.cls i (Int32.ofInt b)) && jr32 b
  | .ldc2_w i => decide (len = 3) && jcw p (.constantLong (jM m).1.cls i (Int64.ofInt b)) && jr64 b
  | .iload_n k => decide ((k : Nat) = a ∧ len = 1)
  | .lload_n k => decide ((k : Nat) = a ∧ len = 1)
  | .aload_n k => decide ((k : Nat) = a ∧ len = 1)
  | .istore_n k => decide ((k : Nat) = a ∧ len = 1 ∧ a < (jM m).2.2.1)
  | .lstore_n k => decide ((k : Nat) = a ∧ len = 1 ∧ a + 1 < (jM m).2.2.1)
  | .astore_n k => decide ((k : Nat) = a ∧ len = 1 ∧ a < (jM m).2.2.1)
  | .iload k => decide (k = a ∧ len = 2)
  | .lload k => decide (k = a ∧ len = 2)
  | .aload k => decide (k = a ∧ len = 2)
  | .istore k => decide (k = a ∧ len = 2 ∧ a < (jM m).2.2.1)
  | .lstore k => decide (k = a ∧ len = 2 ∧ a + 1 < (jM m).2.2.1)
  | .astore k => decide (k = a ∧ len = 2 ∧ a < (jM m).2.2.1)
  | .iinc k c => decide (k = a ∧ c = b ∧ len = 3 ∧ a < (jM m).2.2.1)
  | .ifCond _ off => decide ((pc : Int) + off = (a : Int) ∧ len = 3)
  | .if_icmp _ off => decide ((pc : Int) + off = (a : Int) ∧ len = 3)
  | .goto off => decide ((pc : Int) + off = (a : Int) ∧ len = 3)
  | .tableswitch d lo hi os => decide (0 ≤ (pc : Int) + d ∧ (os.size : Int) = hi - lo + 1) && os.toList.all (fun o => decide (0 ≤ (pc : Int) + o))
  | .lookupswitch d qs => decide (0 ≤ (pc : Int) + d) && qs.toList.all (fun o => decide (0 ≤ (pc : Int) + o.2)) && (qs.toList.zip (qs.toList.drop 1)).all (fun (a, next) => a.1 < next.1)
  | .getfield i => decide (len = 3) && match vwCl[a]? with
    | some (_, T, N) => decide (0 ≤ b ∧ b.toNat < N ∧ t = (jFT.getD a []).getD b.toNat 0) && jcw p (.fieldLink (jM m).1.cls i (T b.toNat).1 (T b.toNat).2.1 (T b.toNat).2.2.1)
    | none => false
  | .putfield i => decide (len = 3) && match vwCl[a]? with
    | some (_, T, N) => decide (0 ≤ b ∧ b.toNat < N ∧ t = (jFT.getD a []).getD b.toNat 0) && jcw p (.fieldLink (jM m).1.cls i (T b.toNat).1 (T b.toNat).2.1 (T b.toNat).2.2.1) && (decide (t = 4 ∧ (T b.toNat).2.2.2 = true ∧ (jM m).1.name = "<init>" ∧ (T b.toNat).1 = (jM m).1.cls) || decide (t ≠ 4 ∧ (T b.toNat).2.2.2 = false))
    | none => false
  | .getstatic i => decide (len = 3) && match jST[(-3 - b).toNat]? with
    | some (C, n, d, _, _) => decide (b ≤ -3) && (if t = 0 then jcw p (.fieldLink (jM m).1.cls i C n d) else decide (p ∈ jNP ∧ lw_tbl[p]? = some (.fieldLinkNest (jM m).1.cls i C n d "ArsenalRow")))
    | none => false
  | .new i => decide (len = 3) && match vwCl[a]? with
    | some (C, _, _) => jcw p (.classLink (jM m).1.cls i C)
    | none => false
  | .newarray _ => decide (len = 2)
  | .anewarray i => decide (len = 3) && jcw p (.classLink (jM m).1.cls i "ArsenalRow$Hull")
  | .multianewarray i d => decide (len = 4 ∧ d = 2) && jcw p (.classLink (jM m).1.cls i "[[I")
  | .invokevirtual i => decide (len = 3 ∧ 0 ≤ b ∧ (vwCl[u]?).map (fun c => c.1) = some (jM a).1.cls ∧ jMS[a]? = some false ∧ (jMP.getD a (0, 0, 0, 0)).2.2.1 ≠ 9999) && jcall m a b.toNat t && jcw p (.methodLink (jM m).1.cls i (jM a).1)
  | .invokestatic i => decide (len = 3 ∧ 0 ≤ b) && (if a = 999 then jcw p (.methodLink (jM m).1.cls i arraycopyName) && decide (1 ≤ (jM m).2.2.2.2.1 ∧ 26 ≤ (jM m).2.2.2.2.2.1)
      else if a = 997 then jcw p (.methodLink (jM m).1.cls i (jmn b)) && decide (1 ≤ (jM m).2.2.2.2.1 ∧ 23 ≤ (jM m).2.2.2.2.2.1)
      else decide (jMS[a]? = some true) && jcall m a b.toNat t && (if p < 100000 then jcw p (.methodLink (jM m).1.cls i (jM a).1) else decide (p - 100000 ∈ jNP ∧ lw_tbl[p - 100000]? = some (.methodLinkNest (jM m).1.cls i (jM a).1 "ArsenalRow"))))
  | .invokespecial i => decide (len = 3 ∧ 0 ≤ b) && (if a = 998 then jcw p (.methodLink (jM m).1.cls i objectInit) && decide (1 ≤ (jM m).2.2.2.2.1 ∧ 20 ≤ (jM m).2.2.2.2.2.1)
      else decide (jMS[a]? = some false ∧ (jM a).1.name = "<init>" ∧ (jM a).2.2.2.1 = none) && jcall m a b.toNat t && (if p < 100000 then jcw p (.methodLink (jM m).1.cls i (jM a).1) else decide (p - 100000 ∈ jNP ∧ lw_tbl[p - 100000]? = some (.methodLinkNest (jM m).1.cls i (jM a).1 "ArsenalRow"))))
  | .ireturn => decide ((jM m).2.2.2.1 = some .int ∧ len = 1 ∨ (jM m).2.2.2.1 = some .boolean ∧ t = 1 ∧ len = 1)
  | .lreturn => decide ((jM m).2.2.2.1 = some .long ∧ len = 1)
  | .return_ => decide ((jM m).2.2.2.1 = none ∧ len = 1)
  | _ => decide (len = 1)
/-- a word that an instruction wants, as numbers: place, kind, owner, index, a, b -/
abbrev JZT : Type := Nat × Nat × Nat × Nat × Nat × Int
def jztk (x : Nat) : JZT := (jzTK.getD (x / 22) []).getD (x % 22) (0, 0, 0, 0, 0, 0)
def jztw (k c i a : Nat) (b : Int) : Option Cond := match k with
  | 1 => some (.constant (jzCN.getD c "") i (Int32.ofInt b))
  | 2 => some (.constantLong (jzCN.getD c "") i (Int64.ofInt b))
  | 3 => match vwCl[a]? with
    | some (_, T, _) => some (.fieldLink (jzCN.getD c "") i (T b.toNat).1 (T b.toNat).2.1 (T b.toNat).2.2.1)
    | none => none
  | 4 => match jST[(-3 - b).toNat]? with
    | some (C, n, d, _, _) => some (.fieldLink (jzCN.getD c "") i C n d)
    | none => none
  | 5 => match vwCl[a]? with
    | some (C, _, _) => some (.classLink (jzCN.getD c "") i C)
    | none => none
  | 6 => some (.classLink (jzCN.getD c "") i "ArsenalRow$Hull")
  | 7 => some (.classLink (jzCN.getD c "") i "[[I")
  | 8 => some (.methodLink (jzCN.getD c "") i (jM a).1)
  | 9 => some (.methodLink (jzCN.getD c "") i arraycopyName)
  | 10 => some (.methodLink (jzCN.getD c "") i (jmn b))
  | 11 => some (.methodLink (jzCN.getD c "") i objectInit)
  | 12 => some (.methodLinkNest (jzCN.getD c "") i (jM a).1 "ArsenalRow")
  | 13 => match jST[(-3 - b).toNat]? with
    | some (C, n, d, _, _) => some (.fieldLinkNest (jzCN.getD c "") i C n d "ArsenalRow")
    | none => none
  | _ => none
def jztokw (p k : Nat) : Option Cond → Bool
  | some w => decide (lw_tbl[p]? = some w) && (if k ≤ 11 then goodWord w else decide (p ∈ jNP)) && decide (p < 100000)
  | none => false
def jztok (x : Nat) : Bool := jztokw (jztk x).1 (jztk x).2.1 (jztw (jztk x).2.1 (jztk x).2.2.1 (jztk x).2.2.2.1 (jztk x).2.2.2.2.1 (jztk x).2.2.2.2.2)
def jztq (m p k i a : Nat) (b : Int) : Bool := decide (m < 180 ∧ p < jzTL ∧ (jztk p).2 = (k, jzMC.getD m 0, i, a, b))
def jzcallF (m a na c : Nat) : Bool := decide (a < 179 ∧ (jM a).2.2.2.2.1 + 1 ≤ (jM m).2.2.2.2.1 ∧ 8 + ((jM a).2.2.1 + 11) + (jM a).2.2.2.2.2.1 ≤ (jM m).2.2.2.2.2.1 ∧ (jM a).2.2.2.2.2.2 = c ∧ jzNA.getD a 999 = na)
/-- as jchkI, words by their numbers -/
def jzchkF (m pc : Nat) (q : JI) : Bool :=
  match q with
  | (ins, len, a, b, t, u, p) => match ins with
  | .ldc i => decide (len = 2) && jztq m p 1 i 0 b && jr32 b
  | .ldc_w i => decide (len = 3) && jztq m p 1 i 0 b && jr32 b
  | .ldc2_w i => decide (len = 3) && jztq m p 2 i 0 b && jr64 b
  | .getfield i => decide (len = 3) && match vwCl[a]? with
    | some (_, _, N) => decide (0 ≤ b ∧ b.toNat < N ∧ t = (jFT.getD a []).getD b.toNat 0) && jztq m p 3 i a b
    | none => false
  | .putfield i => decide (len = 3) && match vwCl[a]? with
    | some (_, T, N) => decide (0 ≤ b ∧ b.toNat < N ∧ t = (jFT.getD a []).getD b.toNat 0) && jztq m p 3 i a b && (decide (t = 4 ∧ (T b.toNat).2.2.2 = true ∧ (jM m).1.name = "<init>" ∧ (T b.toNat).1 = (jM m).1.cls) || decide (t ≠ 4 ∧ (T b.toNat).2.2.2 = false))
    | none => false
  | .getstatic i => decide (len = 3) && match jST[(-3 - b).toNat]? with
    | some _ => decide (b ≤ -3) && (if t = 0 then jztq m p 4 i 0 b else jztq m p 13 i 0 b)
    | none => false
  | .new i => decide (len = 3) && match vwCl[a]? with
    | some _ => jztq m p 5 i a 0
    | none => false
  | .anewarray i => decide (len = 3) && jztq m p 6 i 0 0
  | .multianewarray i d => decide (len = 4 ∧ d = 2) && jztq m p 7 i 0 0
  | .invokevirtual i => decide (len = 3 ∧ 0 ≤ b ∧ u < 13 ∧ jzMC.getD a 0 = u ∧ jMS[a]? = some false ∧ (jMP.getD a (0, 0, 0, 0)).2.2.1 ≠ 9999) && jzcallF m a b.toNat t && jztq m p 8 i a 0
  | .invokestatic i => decide (len = 3 ∧ 0 ≤ b) && (if a = 999 then jztq m p 9 i 0 0 && decide (1 ≤ (jM m).2.2.2.2.1 ∧ 26 ≤ (jM m).2.2.2.2.2.1)
      else if a = 997 then jztq m p 10 i 0 b && decide (1 ≤ (jM m).2.2.2.2.1 ∧ 23 ≤ (jM m).2.2.2.2.2.1)
      else decide (jMS[a]? = some true) && jzcallF m a b.toNat t && (jztq m p 8 i a 0 || jztq m p 12 i a 0))
  | .invokespecial i => decide (len = 3 ∧ 0 ≤ b) && (if a = 998 then jztq m p 11 i 0 0 && decide (1 ≤ (jM m).2.2.2.2.1 ∧ 20 ≤ (jM m).2.2.2.2.2.1)
      else decide (jMS[a]? = some false ∧ (jM a).1.name = "<init>" ∧ (jM a).2.2.2.1 = none) && jzcallF m a b.toNat t && (jztq m p 8 i a 0 || jztq m p 12 i a 0))
  | _ => jchkI m pc (ins, len, a, b, t, u, p)
/-- do bytes begin with this instruction? opcode, operands -/
def jzb0 (bs : List UInt8) (o : Nat) : Bool := match bs with
  | b :: _ => Nat.beq b.toNat o
  | _ => false
def jzbu1 (bs : List UInt8) (o x : Nat) : Bool := match bs with
  | b :: c :: _ => Nat.beq b.toNat o && Nat.beq c.toNat x
  | _ => false
def jzbs1 (bs : List UInt8) (o : Nat) (x : Int) : Bool := match bs with
  | b :: c :: _ => Nat.beq b.toNat o && decide (Reader.signed 8 c.toNat = x)
  | _ => false
def jzbu2 (bs : List UInt8) (o x : Nat) : Bool := match bs with
  | b :: c :: d :: _ => Nat.beq b.toNat o && Nat.beq (c.toNat * 256 + d.toNat) x
  | _ => false
def jzbs2 (bs : List UInt8) (o : Nat) (x : Int) : Bool := match bs with
  | b :: c :: d :: _ => Nat.beq b.toNat o && decide (Reader.signed 16 (c.toNat * 256 + d.toNat) = x)
  | _ => false
def jzbii (bs : List UInt8) (o k : Nat) (x : Int) : Bool := match bs with
  | b :: c :: d :: _ => Nat.beq b.toNat o && Nat.beq c.toNat k && decide (Reader.signed 8 d.toNat = x)
  | _ => false
def jzcif (c : ClassFile.Cond) : Nat := match c with
  | .eq => 153
  | .ne => 154
  | .lt => 155
  | .ge => 156
  | .gt => 157
  | .le => 158
def jzcic (c : ClassFile.Cond) : Nat := match c with
  | .eq => 159
  | .ne => 160
  | .lt => 161
  | .ge => 162
  | .gt => 163
  | .le => 164
def jzop (bs : List UInt8) (len : Nat) (i : Instr) : Bool := match i with
  | .iaload => Nat.beq len 1 && jzb0 bs 46
  | .laload => Nat.beq len 1 && jzb0 bs 47
  | .aaload => Nat.beq len 1 && jzb0 bs 50
  | .baload => Nat.beq len 1 && jzb0 bs 51
  | .iastore => Nat.beq len 1 && jzb0 bs 79
  | .lastore => Nat.beq len 1 && jzb0 bs 80
  | .aastore => Nat.beq len 1 && jzb0 bs 83
  | .bastore => Nat.beq len 1 && jzb0 bs 84
  | .pop => Nat.beq len 1 && jzb0 bs 87
  | .dup => Nat.beq len 1 && jzb0 bs 89
  | .dup2 => Nat.beq len 1 && jzb0 bs 92
  | .iadd => Nat.beq len 1 && jzb0 bs 96
  | .ladd => Nat.beq len 1 && jzb0 bs 97
  | .isub => Nat.beq len 1 && jzb0 bs 100
  | .lsub => Nat.beq len 1 && jzb0 bs 101
  | .imul => Nat.beq len 1 && jzb0 bs 104
  | .lmul => Nat.beq len 1 && jzb0 bs 105
  | .idiv => Nat.beq len 1 && jzb0 bs 108
  | .ldiv => Nat.beq len 1 && jzb0 bs 109
  | .irem => Nat.beq len 1 && jzb0 bs 112
  | .lrem => Nat.beq len 1 && jzb0 bs 113
  | .ineg => Nat.beq len 1 && jzb0 bs 116
  | .ishl => Nat.beq len 1 && jzb0 bs 120
  | .ishr => Nat.beq len 1 && jzb0 bs 122
  | .iand => Nat.beq len 1 && jzb0 bs 126
  | .ior => Nat.beq len 1 && jzb0 bs 128
  | .ixor => Nat.beq len 1 && jzb0 bs 130
  | .i2l => Nat.beq len 1 && jzb0 bs 133
  | .l2i => Nat.beq len 1 && jzb0 bs 136
  | .lcmp => Nat.beq len 1 && jzb0 bs 148
  | .ireturn => Nat.beq len 1 && jzb0 bs 172
  | .lreturn => Nat.beq len 1 && jzb0 bs 173
  | .return_ => Nat.beq len 1 && jzb0 bs 177
  | .arraylength => Nat.beq len 1 && jzb0 bs 190
  | .iload_n k => Nat.beq len 1 && jzb0 bs (26 + k)
  | .lload_n k => Nat.beq len 1 && jzb0 bs (30 + k)
  | .aload_n k => Nat.beq len 1 && jzb0 bs (42 + k)
  | .istore_n k => Nat.beq len 1 && jzb0 bs (59 + k)
  | .astore_n k => Nat.beq len 1 && jzb0 bs (75 + k)
  | .ldc x => Nat.beq len 2 && jzbu1 bs 18 x
  | .iload x => Nat.beq len 2 && jzbu1 bs 21 x
  | .lload x => Nat.beq len 2 && jzbu1 bs 22 x
  | .aload x => Nat.beq len 2 && jzbu1 bs 25 x
  | .istore x => Nat.beq len 2 && jzbu1 bs 54 x
  | .lstore x => Nat.beq len 2 && jzbu1 bs 55 x
  | .astore x => Nat.beq len 2 && jzbu1 bs 58 x
  | .ldc_w x => Nat.beq len 3 && jzbu2 bs 19 x
  | .ldc2_w x => Nat.beq len 3 && jzbu2 bs 20 x
  | .getstatic x => Nat.beq len 3 && jzbu2 bs 178 x
  | .getfield x => Nat.beq len 3 && jzbu2 bs 180 x
  | .putfield x => Nat.beq len 3 && jzbu2 bs 181 x
  | .invokevirtual x => Nat.beq len 3 && jzbu2 bs 182 x
  | .invokespecial x => Nat.beq len 3 && jzbu2 bs 183 x
  | .invokestatic x => Nat.beq len 3 && jzbu2 bs 184 x
  | .new x => Nat.beq len 3 && jzbu2 bs 187 x
  | .anewarray x => Nat.beq len 3 && jzbu2 bs 189 x
  | .iconst c => Nat.beq len 1 && decide (-1 ≤ c ∧ c ≤ 5) && jzb0 bs (3 + c).toNat
  | .lconst k => Nat.beq len 1 && jzb0 bs (9 + k)
  | .bipush x => Nat.beq len 2 && jzbs1 bs 16 x
  | .sipush x => Nat.beq len 3 && jzbs2 bs 17 x
  | .iinc k x => Nat.beq len 3 && jzbii bs 132 k x
  | .ifCond c x => Nat.beq len 3 && jzbs2 bs (jzcif c) x
  | .if_icmp c x => Nat.beq len 3 && jzbs2 bs (jzcic c) x
  | .goto x => Nat.beq len 3 && jzbs2 bs 167 x
  | .newarray t => (match t with
    | .boolean => jzbu1 bs 188 4
    | .int => jzbu1 bs 188 10
    | .long => jzbu1 bs 188 11
    | _ => false) && Nat.beq len 2
  | _ => false
/-- a stretch of method m from pc on, bytes bs from there -/
def jzchkL (m : Nat) : Nat → List UInt8 → List JI → Bool
  | _, _, [] => true
  | pc, bs, q :: qs => (jzop bs q.2.1 q.1 || decide (decode (jM m).2.1 pc = .ok (q.1, q.2.1))) && jzchkF m pc q && jzchkL m (pc + q.2.1) (bs.drop q.2.1) qs
/-- a stretch of method m from pc on -/
def jchk (m pc : Nat) (qs : List JI) : Bool := jzchkL m pc ((jM m).2.1.data.toList.drop pc) qs
theorem jb1 {a b : Bool} (h : (a && b) = true) : a = true := by revert h; cases a <;> cases b <;> decide
theorem jb2 {a b : Bool} (h : (a && b) = true) : b = true := by revert h; cases a <;> cases b <;> decide
