def jzbe : List UInt8 → List UInt8 → Bool
  | [], [] => true
  | a :: as, b :: bs => Nat.beq a.toNat b.toNat && jzbe as bs
  | _, _ => false
theorem jzbe_ok : ∀ {l l' : List UInt8}, jzbe l l' = true → l = l'
  | [], [], _ => rfl
  | [], _ :: _, h => absurd (show false = true from h) (by decide)
  | _ :: _, [], h => absurd (show false = true from h) (by decide)
  | a :: as, b :: bs, h => by
    have h : (Nat.beq a.toNat b.toNat && jzbe as bs) = true := h
    simp only [Bool.and_eq_true] at h
    rw [UInt8.toNat_inj.mp (Nat.eq_of_beq_eq_true h.1), jzbe_ok h.2]
/-- the word of a method's code, its bytes compared as lists -/
def jcb (p : Nat) (y : MethodName) (b : ByteArray) (n : Nat) (r : Option FieldType) : Bool :=
  match lw_tbl[p]? with
  | some (.code y' b' n' r') => decide (y' = y) && jzbe b'.data.toList b.data.toList && decide (n' = n) && decide (r' = r) && goodWord (.code y b n r)
  | _ => false
theorem jcb_ok {p : Nat} {y : MethodName} {b : ByteArray} {n : Nat} {r : Option FieldType} (h : jcb p y b n r = true) : jcw p (.code y b n r) = true := by
  unfold jcb at h
  split at h
  · rename_i y' b' n' r' e
    simp only [Bool.and_eq_true, decide_eq_true_eq] at h
    obtain ⟨⟨⟨⟨h1, h2⟩, h3⟩, h4⟩, h5⟩ := h
    have hb : b' = b := by
      cases b' with
      | mk d' =>
        cases b with
        | mk d => exact congrArg ByteArray.mk (Array.ext' (jzbe_ok h2))
    subst h1
    subst hb
    subst h3
    subst h4
    unfold jcw
    rw [e, h5, decide_eq_true rfl]
    rfl
  · cases h
/-- the methods' words, decided: code; static or instance; selects; initialized; names -/
def jmw (a : Nat) : Bool := jcb (jMP.getD a (0, 0, 0, 0)).1 (jM a).1 (jM a).2.1 (jM a).2.2.1 (jM a).2.2.2.1 && jcw (jMP.getD a (0, 0, 0, 0)).2.2.2 (.initialized (jM a).1.cls) && decide ((jM a).1.cls ≠ "java/lang/invoke/MethodHandle" ∧ (jM a).1.cls ≠ "java/lang/invoke/VarHandle") &&
  (!decide (jMS[a]? = some true) || jcw (jMP.getD a (0, 0, 0, 0)).2.1 (.static (jM a).1)) && (!decide (jMS[a]? = some false) || (jcw (jMP.getD a (0, 0, 0, 0)).2.1 (.instanceMethod (jM a).1) && (decide ((jMP.getD a (0, 0, 0, 0)).2.2.1 = 9999) || jcw (jMP.getD a (0, 0, 0, 0)).2.2.1 (.selects (jM a).1.cls (jM a).1 (jM a).1))))
theorem jmw_0 : ∀ a, a < 90 → jmw (0 + a) = true := by decide +kernel
theorem jmw_90 : ∀ a, a < 89 → jmw (90 + a) = true := by decide +kernel
theorem jmw_all {a : Nat} (h : a < 179) : jmw a = true := by
  rcases Nat.lt_or_ge a 90 with q | q
  · have := jmw_0 (a - 0) (by omega)
    rwa [show 0 + (a - 0) = a by omega] at this
  have := jmw_90 (a - 90) (by omega)
  rwa [show 90 + (a - 90) = a by omega] at this
