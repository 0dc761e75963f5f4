/-! ===== THE PICTURE OF THE HEAP, AND THE WP OF A STRETCH OF CODE (no machine here) ===== -/
/-- what the objects hold: object, slot or index, number -/
abbrev JH : Type := Int → Int → Int
/-- a value: int, long, reference (the object's number; -1 null; below: what the launch holds), nothing -/
abbrev JV : Type := Int ⊕ (Int ⊕ (Int ⊕ Unit))
/-- the start: slots of the classes, array classes by kind, the law's first heap, addresses of what the launch holds, the script -/
abbrev JE : Type := va_G × (Nat → ClassId) × Heap × (Int → Nat) × Nat × (Nat → Int)
/-- an instruction, its length, operands a, b, t, u, and the place of its word -/
abbrev JI : Type := Instr × Nat × Nat × Int × Nat × Nat × Nat
def jw32 (x : Int) : Int := (x + 2147483648) % 4294967296 - 2147483648
def jw64 (x : Int) : Int := (x + 9223372036854775808) % 18446744073709551616 - 9223372036854775808
def jR32 (x : Int) : Prop := -2147483648 ≤ x ∧ x ≤ 2147483647
def jR64 (x : Int) : Prop := -9223372036854775808 ≤ x ∧ x ≤ 9223372036854775807
/-- kind and length (class number) of an object -/
def jk (i : Int) : Nat × Nat := jLY.getD i.toNat (9, 0)
/-- bounds of the row in which the reference keeps what days change -/
def jbK (k : Int) : Int × Int × Int :=
  if k = 0 then (0, 2300, 0) else if 10 ≤ k ∧ k ≤ 15 then (-1, 15, 100) else if 20 ≤ k then (if (k - 20) % 16 = 0 then (0, 3, 0) else if (k - 20) % 16 = 1 then (-9, 5, 0) else if (k - 20) % 16 = 2 then (0, 3, 0) else if (k - 20) % 16 = 7 then (0, 99, 0) else (-2147483648, 2147483647, 0)) else (-2147483648, 2147483647, 0)
/-- bounds of a place -/
def jbp (i k : Int) : Int × Int × Int := match jk i with
  | (0, ci) => (jbF.getD ci []).getD k.toNat (-2147483648, 2147483647, 0)
  | _ => if i = 224 then jbK k else jbA.getD i.toNat (-2147483648, 2147483647, 0)
def jbd (i k v : Int) : Prop := ((jbp i k).1 ≤ v ∧ v ≤ (jbp i k).2.1) ∨ v = (jbp i k).2.2
def jup (h : JH) (i k v : Int) : JH := fun i' k' => if i' = i ∧ k' = k then v else h i' k'
/-- a new object's places -/
def jnw (h : JH) (n c : Nat) (v : Int) : JH := fun i k => if (n : Int) ≤ i ∧ i < n + c then v else h i k
def jcp (h : JH) (s sp d dp c : Int) : JH := fun i k => if i = d ∧ dp ≤ k ∧ k < dp + c then h s (sp + (k - dp)) else h i k
/-- new int[c][k]: the outer row's references -/
def jmu (r : JH) (n c : Nat) : JH := fun i k => if i = n ∧ 0 ≤ k ∧ k < c then n + 1 + k else r i k
def jxl (E : JE) (i : Int) : Nat := if i = -2 then E.2.2.2.2.1 else (jST.getD (-3 - i).toNat ("", "", "", 0, [])).2.2.2.2.length
def jxk (i : Int) : Nat := if i = -2 then 1 else (jST.getD (-3 - i).toNat ("", "", "", 0, [])).2.2.2.1
def jxv (E : JE) (i k : Int) : Int := if i = -2 then E.2.2.2.2.2 k.toNat else ((jST.getD (-3 - i).toNat ("", "", "", 0, [])).2.2.2.2).getD k.toNat 0
def jget : List JV → Nat → JV
  | [], _ => .inr (.inr (.inr ()))
  | x :: _, 0 => x
  | _ :: xs, k + 1 => jget xs k
def jcut (x : JV) : JV := match x with
  | .inr (.inl _) => .inr (.inr (.inr ()))
  | x => x
/-- one word stored: a long ahead of it is gone -/
def jst1 : List JV → Nat → JV → List JV
  | [], _, _ => []
  | _ :: xs, 0, v => v :: xs
  | x :: xs, 1, v => jcut x :: jst1 xs 0 v
  | x :: xs, k + 2, v => x :: jst1 xs (k + 1) v
/-- the words of arguments -/
def jarg : List JV → List JV
  | [] => []
  | .inr (.inl x) :: vs => .inr (.inl x) :: .inr (.inr (.inr ())) :: jarg vs
  | v :: vs => v :: jarg vs
def jloc (vs : List JV) (nL : Nat) : List JV := jarg vs ++ List.replicate (nL - (jarg vs).length) (.inr (.inr (.inr ())))
def jshl (x y : Int) : Int := (Int32.ofInt x <<< (Int32.ofInt y &&& 31)).toInt
def jshr (x y : Int) : Int := (Int32.ofInt x >>> (Int32.ofInt y &&& 31)).toInt
def jand (x y : Int) : Int := (Int32.ofInt x &&& Int32.ofInt y).toInt
def jor (x y : Int) : Int := (Int32.ofInt x ||| Int32.ofInt y).toInt
def jxor (x y : Int) : Int := (Int32.ofInt x ^^^ Int32.ofInt y).toInt
def jlc (x y : Int) : Int := if y < x then 1 else if x = y then 0 else -1
/-- a number's range -/
def jok (v : JV) : Prop := match v with
  | .inl x => jR32 x
  | .inr (.inl x) => jR64 x
  | _ => True
def jokO (v : Option JV) : Prop := match v with
  | some v => jok v
  | none => True
abbrev JK : Type := List JV → List JV → Nat → JH → JH → Prop
abbrev JN : Type := Nat → JK
abbrev JR : Type := Option JV → Nat → JH → JH → Prop
section wp
variable (CL : Nat → List JV → Nat → JH → JH → (Option JV → JH → JH → Prop) → Prop) (E : JE) (n1 : Nat) (RT : JR) (NX : JN)
def jbin (f : Int → Int → Int) (K : JK) : JK := fun ls st n r h => match st with
  | .inl y :: .inl x :: s => K ls (.inl (f x y) :: s) n r h
  | _ => False
def jbil (f : Int → Int → Int) (K : JK) : JK := fun ls st n r h => match st with
  | .inr (.inl y) :: .inr (.inl x) :: s => K ls (.inr (.inl (f x y)) :: s) n r h
  | _ => False
def jdvi (f : Int → Int → Int) (K : JK) : JK := fun ls st n r h => match st with
  | .inl y :: .inl x :: s => y ≠ 0 ∧ K ls (.inl (f x y) :: s) n r h
  | _ => False
def jdvl (f : Int → Int → Int) (K : JK) : JK := fun ls st n r h => match st with
  | .inr (.inl y) :: .inr (.inl x) :: s => y ≠ 0 ∧ K ls (.inr (.inl (f x y)) :: s) n r h
  | _ => False
def jldi (a : Nat) (K : JK) : JK := fun ls st n r h => match jget ls a with
  | .inl x => K ls (.inl x :: st) n r h
  | _ => False
def jldl (a : Nat) (K : JK) : JK := fun ls st n r h => match jget ls a with
  | .inr (.inl x) => K ls (.inr (.inl x) :: st) n r h
  | _ => False
def jldr (a : Nat) (K : JK) : JK := fun ls st n r h => match jget ls a with
  | .inr (.inr (.inl x)) => K ls (.inr (.inr (.inl x)) :: st) n r h
  | _ => False
def jsti (a : Nat) (K : JK) : JK := fun ls st n r h => match st with
  | .inl x :: s => K (jst1 ls a (.inl x)) s n r h
  | _ => False
def jstr (a : Nat) (K : JK) : JK := fun ls st n r h => match st with
  | .inr (.inr (.inl x)) :: s => x ≠ -1 ∧ K (jst1 ls a (.inr (.inr (.inl x)))) s n r h
  | _ => False
def jstl (a : Nat) (K : JK) : JK := fun ls st n r h => match st with
  | .inr (.inl x) :: s => K (jst1 (jst1 ls (a + 1) (.inr (.inr (.inr ())))) a (.inr (.inl x))) s n r h
  | _ => False
def jinc (a : Nat) (b : Int) (K : JK) : JK := fun ls st n r h => match jget ls a with
  | .inl x => K (jst1 ls a (.inl (jw32 (x + b)))) st n r h
  | _ => False
/-- a branch on one int -/
def jif1 (P : Int → Prop) (a : Nat) (K : JK) : JK := fun ls st n r h => match st with
  | .inl x :: s => (P x → NX a ls s n r h) ∧ (¬ P x → K ls s n r h)
  | _ => False
def jif2 (P : Int → Int → Prop) (a : Nat) (K : JK) : JK := fun ls st n r h => match st with
  | .inl y :: .inl x :: s => (P x y → NX a ls s n r h) ∧ (¬ P x y → K ls s n r h)
  | _ => False
def jswt (pc : Nat) (x : Int) : Int → List Int → List JV → List JV → Nat → JH → JH → Prop
  | _, [], _, _, _, _, _ => True
  | lo, o :: os, ls, s, n, r, h => (x = lo → NX ((pc : Int) + o).toNat ls s n r h) ∧ jswt pc x (lo + 1) os ls s n r h
def jswl (pc : Nat) (x d : Int) : List (Int × Int) → List JV → List JV → Nat → JH → JH → Prop
  | [], ls, s, n, r, h => NX ((pc : Int) + d).toNat ls s n r h
  | q :: qs, ls, s, n, r, h => (x = q.1 → NX ((pc : Int) + q.2).toNat ls s n r h) ∧ (¬ x = q.1 → jswl pc x d qs ls s n r h)
def jgfi (a : Nat) (b : Int) (K : JK) : JK := fun ls st n r h => match st with
  | .inr (.inr (.inl i)) :: s => 0 ≤ i ∧ i < n ∧ jk i = (0, a) ∧ (jbd i b (h i b) → K ls (.inl (h i b) :: s) n r h)
  | _ => False
def jgfr (a : Nat) (b : Int) (K : JK) : JK := fun ls st n r h => match st with
  | .inr (.inr (.inl i)) :: s => 0 ≤ i ∧ i < n ∧ jk i = (0, a) ∧ K ls (.inr (.inr (.inl (r i b))) :: s) n r h
  | _ => False
def jpfi (a : Nat) (b : Int) (K : JK) : JK := fun ls st n r h => match st with
  | .inl x :: .inr (.inr (.inl i)) :: s => 0 ≤ i ∧ i < n ∧ jk i = (0, a) ∧ (jR32 x → jbd i b x) ∧ K ls s n r (jup h i b x)
  | _ => False
def jpfr (a : Nat) (b : Int) (K : JK) : JK := fun ls st n r h => match st with
  | .inr (.inr (.inl v)) :: .inr (.inr (.inl i)) :: s => 0 ≤ i ∧ i < n ∧ jk i = (0, a) ∧ 0 ≤ v ∧ K ls s n (jup r i b v) h
  | _ => False
/-- an array's element: kind t -/
def jald (t : Nat) (K : JK) : JK := fun ls st n r h => match st with
  | .inl k :: .inr (.inr (.inl i)) :: s =>
    (0 ≤ i → i < n ∧ (jk i).1 = t ∧ 0 ≤ k ∧ k < (jk i).2 ∧ (jbd i k (h i k) → K ls ((if t = 2 then .inr (.inl (h i k)) else .inl (h i k)) :: s) n r h)) ∧
    (i < 0 → i ≠ -1 ∧ jxk i = t ∧ 0 ≤ k ∧ k < jxl E i ∧ K ls ((if t = 2 then .inr (.inl (jxv E i k)) else .inl (jxv E i k)) :: s) n r h)
  | _ => False
def jalr (K : JK) : JK := fun ls st n r h => match st with
  | .inl k :: .inr (.inr (.inl i)) :: s => 0 ≤ i ∧ i < n ∧ ((jk i).1 = 4 ∨ (jk i).1 = 5) ∧ 0 ≤ k ∧ k < (jk i).2 ∧ K ls (.inr (.inr (.inl (r i k))) :: s) n r h
  | _ => False
def jast (t : Nat) (K : JK) : JK := fun ls st n r h => match st with
  | .inl x :: .inl k :: .inr (.inr (.inl i)) :: s => 0 ≤ i ∧ i < n ∧ (jk i).1 = t ∧ 0 ≤ k ∧ k < (jk i).2 ∧ (jR32 x → jbd i k x) ∧ K ls s n r (jup h i k x)
  | _ => False
def jasl (K : JK) : JK := fun ls st n r h => match st with
  | .inr (.inl x) :: .inl k :: .inr (.inr (.inl i)) :: s => 0 ≤ i ∧ i < n ∧ (jk i).1 = 2 ∧ 0 ≤ k ∧ k < (jk i).2 ∧ (jR64 x → jbd i k x) ∧ K ls s n r (jup h i k x)
  | _ => False
def jasr (K : JK) : JK := fun ls st n r h => match st with
  | .inr (.inr (.inl v)) :: .inl k :: .inr (.inr (.inl i)) :: s => 0 ≤ i ∧ i < n ∧ (jk i).1 = 4 ∧ 0 ≤ k ∧ k < (jk i).2 ∧ 0 ≤ v ∧ v < n ∧ jk v = (0, 4) ∧ K ls s n (jup r i k v) h
  | _ => False
def jaln (K : JK) : JK := fun ls st n r h => match st with
  | .inr (.inr (.inl i)) :: s => (0 ≤ i → i < n ∧ 1 ≤ (jk i).1 ∧ (jk i).1 ≤ 3 ∧ K ls (.inl ((jk i).2 : Nat) :: s) n r h) ∧ (i < 0 → i = -2 ∧ K ls (.inl (jxl E i : Nat) :: s) n r h)
  | _ => False
/-- a call of a static method: so many arguments -/
def jcas (m c na : Nat) (K : JK) : JK := fun ls st n r h =>
  na ≤ st.length ∧ (st.drop na).length ≤ 4 ∧ n + c ≤ n1 ∧ CL m (st.take na).reverse n r h (fun v r' h' => jokO v → K ls (v.toList ++ st.drop na) (n + c) r' h')
/-- a call of a method of an object of class ci -/
def jcav (m c na ci : Nat) (K : JK) : JK := fun ls st n r h => match st.drop na with
  | .inr (.inr (.inl i)) :: s => 0 ≤ i ∧ i < n ∧ jk i = (0, ci) ∧ s.length ≤ 4 ∧ n + c ≤ n1 ∧ CL m (.inr (.inr (.inl i)) :: (st.take na).reverse) n r h (fun v r' h' => jokO v → K ls (v.toList ++ s) (n + c) r' h')
  | _ => False
def jnew (a : Nat) (K : JK) : JK := fun ls st n r h => n + 1 ≤ n1 ∧ jk n = (0, a) ∧ K ls (.inr (.inr (.inl n)) :: st) (n + 1) (jnw r n 1 (-1)) (jnw h n 1 0)
def jnwa (t : Nat) (K : JK) : JK := fun ls st n r h => match st with
  | .inl c :: s => 0 ≤ c ∧ c ≤ 10000 ∧ n + 1 ≤ n1 ∧ jk n = (t, c.toNat) ∧ K ls (.inr (.inr (.inl n)) :: s) (n + 1) (jnw r n 1 (-1)) (jnw h n 1 0)
  | _ => False
def jnwm (K : JK) : JK := fun ls st n r h => match st with
  | .inl k :: .inl c :: s => 0 ≤ c ∧ c ≤ 10000 ∧ 0 ≤ k ∧ k ≤ 10000 ∧ n + 1 + c.toNat ≤ n1 ∧ jk n = (5, c.toNat) ∧ (∀ j : Nat, j < c.toNat → jk (n + 1 + j) = (1, k.toNat)) ∧
    K ls (.inr (.inr (.inl n)) :: s) (n + 1 + c.toNat) (jmu (jnw r n (1 + c.toNat) (-1)) n c.toNat) (jnw h n (1 + c.toNat) 0)
  | _ => False
def jacp (K : JK) : JK := fun ls st n r h => match st with
  | .inl c :: .inl dp :: .inr (.inr (.inl d)) :: .inl sp :: .inr (.inr (.inl s0)) :: s => 0 ≤ s0 ∧ s0 < n ∧ 0 ≤ d ∧ d < n ∧ (jk s0).1 = 1 ∧ (jk d).1 = 1 ∧ 0 ≤ sp ∧ 0 ≤ dp ∧ 0 ≤ c ∧ sp + c ≤ (jk s0).2 ∧ dp + c ≤ (jk d).2 ∧ s.length ≤ 4 ∧
    ((∀ i k : Int, jbd i k (h i k)) → ∀ j : Int, 0 ≤ j → j < c → jbd d (dp + j) (h s0 (sp + j))) ∧ K ls s n r (jcp h s0 sp d dp c)
  | _ => False
/-- Math.min, max, abs of ints, min of longs -/
def jmth (b : Int) (K : JK) : JK := fun ls st n r h => match b, st with
  | 0, .inl y :: .inl x :: s => s.length ≤ 4 ∧ K ls (.inl (if y < x then y else x) :: s) n r h
  | 1, .inl y :: .inl x :: s => s.length ≤ 4 ∧ K ls (.inl (if x < y then y else x) :: s) n r h
  | 2, .inl x :: s => s.length ≤ 4 ∧ K ls (.inl (if 0 ≤ x then x else jw32 (-x)) :: s) n r h
  | 3, .inr (.inl y) :: .inr (.inl x) :: s => s.length ≤ 4 ∧ K ls (.inr (.inl (if y < x then y else x)) :: s) n r h
  | _, _ => False
def jret (z : Nat) : JK := fun _ st n r h => match st with
  | [.inl x] => (z = 1 → x = 0 ∨ x = 1) ∧ RT (some (.inl x)) n r h
  | _ => False
def jrel : JK := fun _ st n r h => match st with
  | [.inr (.inl x)] => RT (some (.inr (.inl x))) n r h
  | _ => False
def jrev : JK := fun _ st n r h => match st with
  | [] => RT none n r h
  | _ => False
def jdup (K : JK) : JK := fun ls st n r h => match st with
  | .inl x :: s => K ls (.inl x :: .inl x :: s) n r h
  | .inr (.inr (.inl x)) :: s => K ls (.inr (.inr (.inl x)) :: .inr (.inr (.inl x)) :: s) n r h
  | _ => False
def jpop (K : JK) : JK := fun ls st n r h => match st with
  | .inl _ :: s => K ls s n r h
  | .inr (.inr (.inl _)) :: s => K ls s n r h
  | _ => False
def jdp2 (K : JK) : JK := fun ls st n r h => match st with
  | .inl x :: .inr (.inr (.inl i)) :: s => K ls (.inl x :: .inr (.inr (.inl i)) :: .inl x :: .inr (.inr (.inl i)) :: s) n r h
  | _ => False
def ji2l (K : JK) : JK := fun ls st n r h => match st with
  | .inl x :: s => K ls (.inr (.inl x) :: s) n r h
  | _ => False
def jl2i (K : JK) : JK := fun ls st n r h => match st with
  | .inr (.inl x) :: s => K ls (.inl (jw32 x) :: s) n r h
  | _ => False
def jneg (K : JK) : JK := fun ls st n r h => match st with
  | .inl x :: s => K ls (.inl (jw32 (-x)) :: s) n r h
  | _ => False
def jlcp (K : JK) : JK := fun ls st n r h => match st with
  | .inr (.inl y) :: .inr (.inl x) :: s => K ls (.inl (jlc x y) :: s) n r h
  | _ => False
def jtsw (pc : Nat) (d lo hi : Int) (os : List Int) : JK := fun ls st n r h => match st with
  | .inl x :: s => (x < lo ∨ hi < x → NX ((pc : Int) + d).toNat ls s n r h) ∧ jswt NX pc x lo os ls s n r h
  | _ => False
def jlsw (pc : Nat) (d : Int) (qs : List (Int × Int)) : JK := fun ls st n r h => match st with
  | .inl x :: s => jswl NX pc x d qs ls s n r h
  | _ => False
def jobj (K : JK) : JK := fun ls st n r h => match st with
  | .inr (.inr (.inl i)) :: s => 0 ≤ i ∧ s.length ≤ 4 ∧ K ls s n r h
  | _ => False
/-- one instruction -/
def ji (pc : Nat) (q : JI) (K : JK) : JK := match q.1 with
  | .iconst _ => fun ls st n r h => K ls (.inl q.2.2.2.1 :: st) n r h
  | .bipush _ => fun ls st n r h => K ls (.inl q.2.2.2.1 :: st) n r h
  | .sipush _ => fun ls st n r h => K ls (.inl q.2.2.2.1 :: st) n r h
  | .ldc _ => fun ls st n r h => K ls (.inl q.2.2.2.1 :: st) n r h
  | .ldc_w _ => fun ls st n r h => K ls (.inl q.2.2.2.1 :: st) n r h
  | .lconst _ => fun ls st n r h => K ls (.inr (.inl q.2.2.2.1) :: st) n r h
  | .ldc2_w _ => fun ls st n r h => K ls (.inr (.inl q.2.2.2.1) :: st) n r h
  | .iload_n _ => jldi q.2.2.1 K
  | .iload _ => jldi q.2.2.1 K
  | .lload_n _ => jldl q.2.2.1 K
  | .lload _ => jldl q.2.2.1 K
  | .aload_n _ => jldr q.2.2.1 K
  | .aload _ => jldr q.2.2.1 K
  | .istore_n _ => jsti q.2.2.1 K
  | .istore _ => jsti q.2.2.1 K
  | .lstore_n _ => jstl q.2.2.1 K
  | .lstore _ => jstl q.2.2.1 K
  | .astore_n _ => jstr q.2.2.1 K
  | .astore _ => jstr q.2.2.1 K
  | .iinc _ _ => jinc q.2.2.1 q.2.2.2.1 K
  | .iadd => jbin (fun x y => jw32 (x + y)) K
  | .isub => jbin (fun x y => jw32 (x - y)) K
  | .imul => jbin (fun x y => jw32 (x * y)) K
  | .iand => jbin jand K
  | .ior => jbin jor K
  | .ixor => jbin jxor K
  | .ishl => jbin jshl K
  | .ishr => jbin jshr K
  | .idiv => jdvi (fun x y => jw32 (x.tdiv y)) K
  | .irem => jdvi (fun x y => x.tmod y) K
  | .ladd => jbil (fun x y => jw64 (x + y)) K
  | .lsub => jbil (fun x y => jw64 (x - y)) K
  | .lmul => jbil (fun x y => jw64 (x * y)) K
  | .ldiv => jdvl (fun x y => jw64 (x.tdiv y)) K
  | .lrem => jdvl (fun x y => x.tmod y) K
  | .ineg => jneg K
  | .i2l => ji2l K
  | .l2i => jl2i K
  | .lcmp => jlcp K
  | .dup => jdup K
  | .pop => jpop K
  | .dup2 => jdp2 K
  | .ifCond .eq _ => jif1 NX (fun x => x = 0) q.2.2.1 K
  | .ifCond .ne _ => jif1 NX (fun x => ¬ x = 0) q.2.2.1 K
  | .ifCond .lt _ => jif1 NX (fun x => x < 0) q.2.2.1 K
  | .ifCond .ge _ => jif1 NX (fun x => 0 ≤ x) q.2.2.1 K
  | .ifCond .gt _ => jif1 NX (fun x => 0 < x) q.2.2.1 K
  | .ifCond .le _ => jif1 NX (fun x => x ≤ 0) q.2.2.1 K
  | .if_icmp .eq _ => jif2 NX (fun x y => x = y) q.2.2.1 K
  | .if_icmp .ne _ => jif2 NX (fun x y => ¬ x = y) q.2.2.1 K
  | .if_icmp .lt _ => jif2 NX (fun x y => x < y) q.2.2.1 K
  | .if_icmp .ge _ => jif2 NX (fun x y => y ≤ x) q.2.2.1 K
  | .if_icmp .gt _ => jif2 NX (fun x y => y < x) q.2.2.1 K
  | .if_icmp .le _ => jif2 NX (fun x y => x ≤ y) q.2.2.1 K
  | .goto _ => fun ls st n r h => NX q.2.2.1 ls st n r h
  | .tableswitch d lo hi os => jtsw NX pc d lo hi os.toList
  | .lookupswitch d qs => jlsw NX pc d qs.toList
  | .getfield _ => if q.2.2.2.2.1 = 4 then jgfr q.2.2.1 q.2.2.2.1 K else jgfi q.2.2.1 q.2.2.2.1 K
  | .putfield _ => if q.2.2.2.2.1 = 4 then jpfr q.2.2.1 q.2.2.2.1 K else jpfi q.2.2.1 q.2.2.2.1 K
  | .getstatic _ => fun ls st n r h => K ls (.inr (.inr (.inl q.2.2.2.1)) :: st) n r h
  | .iaload => jald E 1 K
  | .laload => jald E 2 K
  | .baload => jald E 3 K
  | .aaload => jalr K
  | .iastore => jast 1 K
  | .bastore => jast 3 K
  | .lastore => jasl K
  | .aastore => jasr K
  | .arraylength => jaln E K
  | .new _ => jnew n1 q.2.2.1 K
  | .newarray .int => jnwa n1 1 K
  | .newarray .long => jnwa n1 2 K
  | .newarray .boolean => jnwa n1 3 K
  | .anewarray _ => jnwa n1 4 K
  | .multianewarray _ _ => jnwm n1 K
  | .invokevirtual _ => jcav CL n1 q.2.2.1 q.2.2.2.2.1 q.2.2.2.1.toNat q.2.2.2.2.2.1 K
  | .invokestatic _ => if q.2.2.1 = 999 then jacp K else if q.2.2.1 = 997 then jmth q.2.2.2.1 K else jcas CL n1 q.2.2.1 q.2.2.2.2.1 q.2.2.2.1.toNat K
  | .invokespecial _ => if q.2.2.1 = 998 then jobj K else jcav CL n1 q.2.2.1 q.2.2.2.2.1 q.2.2.2.1.toNat q.2.2.2.2.2.1 K
  | .ireturn => jret RT q.2.2.2.2.1
  | .lreturn => jrel RT
  | .return_ => jrev RT
  | _ => fun _ _ _ _ _ => False
/-- a stretch of code, from pc on -/
def jw : Nat → List JI → JK
  | pc, [] => fun ls st n r h => NX pc ls st n r h
  | pc, q :: qs => ji CL E n1 RT NX pc q (jw (pc + q.2.1) qs)
end wp
