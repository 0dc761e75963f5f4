/-! ===== bits of small numbers; what the reference keeps ===== -/
theorem jand_le (a b : Int) (h0 : 0 ≤ a) (h1 : a ≤ 2147483647) : 0 ≤ jand a b ∧ jand a b ≤ a := by
  unfold jand
  have hx : (Int32.ofInt a).toInt = a := jto32 ⟨by omega, h1⟩
  generalize Int32.ofInt a = x at hx
  generalize Int32.ofInt b = y
  have e1 : x.toBitVec.toInt = a := hx
  have m1 : x.toBitVec.msb = false := by
    rw [BitVec.msb_eq_toInt, e1]
    exact decide_eq_false (by omega)
  have m2 : (x.toBitVec &&& y.toBitVec).msb = false := by rw [BitVec.msb_and, m1]; rfl
  have e2 := BitVec.toInt_eq_toNat_of_msb m2
  have e3 := BitVec.toInt_eq_toNat_of_msb m1
  have e4 : (x &&& y).toInt = (x.toBitVec &&& y.toBitVec).toInt := by rw [← Int32.toBitVec_and]; rfl
  rw [e4, e2, BitVec.toNat_and]
  have := Nat.and_le_left (n := x.toBitVec.toNat) (m := y.toBitVec.toNat)
  omega
theorem jand_cm (a b : Int) : jand a b = jand b a := by unfold jand; rw [Int32.and_comm]
theorem jand_le2 (a b : Int) (h0 : 0 ≤ b) (h1 : b ≤ 2147483647) : 0 ≤ jand a b ∧ jand a b ≤ b := by rw [jand_cm]; exact jand_le b a h0 h1
theorem jxor63n : ∀ a, a < 64 → ∀ b, b < 64 → 0 ≤ jxor ((a : Nat) : Int) ((b : Nat) : Int) ∧ jxor ((a : Nat) : Int) ((b : Nat) : Int) ≤ 63 := by decide +kernel
theorem jor63n : ∀ a, a < 64 → ∀ b, b < 64 → 0 ≤ jor ((a : Nat) : Int) ((b : Nat) : Int) ∧ jor ((a : Nat) : Int) ((b : Nat) : Int) ≤ 63 := by decide +kernel
theorem jxor63 (a b : Int) (h0 : 0 ≤ a) (h1 : a ≤ 63) (h2 : 0 ≤ b) (h3 : b ≤ 63) : 0 ≤ jxor a b ∧ jxor a b ≤ 63 := by
  have := jxor63n a.toNat (by omega) b.toNat (by omega)
  rwa [Int.toNat_of_nonneg h0, Int.toNat_of_nonneg h2] at this
theorem jor63 (a b : Int) (h0 : 0 ≤ a) (h1 : a ≤ 63) (h2 : 0 ≤ b) (h3 : b ≤ 63) : 0 ≤ jor a b ∧ jor a b ≤ 63 := by
  have := jor63n a.toNat (by omega) b.toNat (by omega)
  rwa [Int.toNat_of_nonneg h0, Int.toNat_of_nonneg h2] at this
theorem jshl1_e (i : Int) (h0 : 0 ≤ i) (h1 : i ≤ 6) : (i = 0 ∧ jshl 1 i = 1) ∨ (i = 1 ∧ jshl 1 i = 2) ∨ (i = 2 ∧ jshl 1 i = 4) ∨ (i = 3 ∧ jshl 1 i = 8) ∨ (i = 4 ∧ jshl 1 i = 16) ∨ (i = 5 ∧ jshl 1 i = 32) ∨ (i = 6 ∧ jshl 1 i = 64) := by
  have q : i = 0 ∨ i = 1 ∨ i = 2 ∨ i = 3 ∨ i = 4 ∨ i = 5 ∨ i = 6 := by omega
  rcases q with rfl | rfl | rfl | rfl | rfl | rfl | rfl <;> decide +kernel
theorem jshl1_5 (i : Int) (h0 : 0 ≤ i) (h1 : i ≤ 5) : 1 ≤ jshl 1 i ∧ jshl 1 i ≤ 32 := by have := jshl1_e i h0 (by omega); omega
theorem jshl1_6 (i : Int) (h0 : 0 ≤ i) (h1 : i ≤ 6) : 1 ≤ jshl 1 i ∧ jshl 1 i ≤ 64 := by have := jshl1_e i h0 h1; omega
theorem jkp (k v : Int) : jbd 224 k v ↔ (((jbK k).1 ≤ v ∧ v ≤ (jbK k).2.1) ∨ v = (jbK k).2.2) := by
  have e : jbp 224 k = jbK k := by
    unfold jbp
    rw [show jk 224 = (1, 400) by decide +kernel]
    exact if_pos rfl
  unfold jbd
  rw [e]
theorem jk_of {k lo hi c : Int} (h : jbK k = (lo, hi, c)) (hc : lo ≤ c ∧ c ≤ hi) (v : Int) : jbd 224 k v ↔ (lo ≤ v ∧ v ≤ hi) := by
  rw [jkp, h]
  exact ⟨fun q => by rcases q with q | q; exact q; rw [show v = c from q]; exact hc, fun q => Or.inl q⟩
theorem jk_day (v : Int) : jbd 224 0 v ↔ (0 ≤ v ∧ v ≤ 2300) := jk_of (if_pos rfl) (by decide) v
theorem jk_bas {k : Int} (h : 10 ≤ k ∧ k ≤ 15) (v : Int) : jbd 224 k v ↔ ((-1 ≤ v ∧ v ≤ 15) ∨ v = 100) := by
  rw [jkp, show jbK k = (-1, 15, 100) by unfold jbK; rw [if_neg (by omega), if_pos h]]
theorem jk_20 {k : Int} (h : 20 ≤ k) : jbK k = (if (k - 20) % 16 = 0 then (0, 3, 0) else if (k - 20) % 16 = 1 then (-9, 5, 0) else if (k - 20) % 16 = 2 then (0, 3, 0) else if (k - 20) % 16 = 7 then (0, 99, 0) else (-2147483648, 2147483647, 0)) := by
  unfold jbK
  rw [if_neg (by omega), if_neg (by omega), if_pos h]
theorem jk_st {k : Int} (h : 20 ≤ k) (h2 : (k - 20) % 16 = 0) (v : Int) : jbd 224 k v ↔ (0 ≤ v ∧ v ≤ 3) := jk_of (by rw [jk_20 h, if_pos h2]) (by decide) v
theorem jk_at {k : Int} (h : 20 ≤ k) (h2 : (k - 20) % 16 = 1) (v : Int) : jbd 224 k v ↔ (-9 ≤ v ∧ v ≤ 5) := jk_of (by rw [jk_20 h, if_neg (by omega), if_pos h2]) (by decide) v
theorem jk_cr {k : Int} (h : 20 ≤ k) (h2 : (k - 20) % 16 = 2) (v : Int) : jbd 224 k v ↔ (0 ≤ v ∧ v ≤ 3) := jk_of (by rw [jk_20 h, if_neg (by omega), if_neg (by omega), if_pos h2]) (by decide) v
theorem jk_pr {k : Int} (h : 20 ≤ k) (h2 : (k - 20) % 16 = 7) (v : Int) : jbd 224 k v ↔ (0 ≤ v ∧ v ≤ 99) := jk_of (by rw [jk_20 h, if_neg (by omega), if_neg (by omega), if_neg (by omega), if_pos h2]) (by decide) v
theorem jk_df {k : Int} (h0 : k ≠ 0) (h1 : ¬ (10 ≤ k ∧ k ≤ 15)) (h2 : k < 20 ∨ ((k - 20) % 16 ≠ 0 ∧ (k - 20) % 16 ≠ 1 ∧ (k - 20) % 16 ≠ 2 ∧ (k - 20) % 16 ≠ 7)) (v : Int) : jbd 224 k v ↔ (-2147483648 ≤ v ∧ v ≤ 2147483647) := by
  refine jk_of (c := 0) ?_ (by decide) v
  unfold jbK
  rw [if_neg h0, if_neg h1]
  by_cases h : 20 ≤ k
  · rw [if_pos h, if_neg (by omega), if_neg (by omega), if_neg (by omega), if_neg (by omega)]
  · rw [if_neg h]
/-- zero bits of t from a on, below m (five at most) -/
def jzb (t a m : Int) : Int := (((List.range 5).filter (fun j : Nat => decide (a ≤ (j : Int)) && decide ((j : Int) < m) && !(t.toNat.testBit j))).length : Nat)
theorem jzb_0 (m : Int) (h0 : 0 ≤ m := by omega) (h1 : m ≤ 5 := by omega) : jzb 0 0 m = m := by
  have q : m = 0 ∨ m = 1 ∨ m = 2 ∨ m = 3 ∨ m = 4 ∨ m = 5 := by omega
  rcases q with rfl | rfl | rfl | rfl | rfl | rfl <;> decide +kernel
def jzb_P (t a m : Nat) : Bool := decide ((jand (jshr (t : Int) (a : Int)) 1 = 1 ∧ jzb t a m = jzb t (a + 1) m ∧ (a < m ∨ jzb t a m = 0)) ∨ (jand (jshr (t : Int) (a : Int)) 1 = 0 ∧ ((a < m ∧ jzb t a m = jzb t (a + 1) m + 1) ∨ (m ≤ a ∧ jzb t a m = 0))))
theorem jzb_n0 : (List.range 32).all (fun t => (List.range 6).all (fun a => (List.range 6).all (fun m => jzb_P t a m))) = true := by decide +kernel
theorem jzb_n (t : Nat) (ht : t < 32) (a : Nat) (ha : a < 6) (m : Nat) (hm : m < 6) : (jand (jshr (t : Int) (a : Int)) 1 = 1 ∧ jzb t a m = jzb t (a + 1) m ∧ (a < m ∨ jzb t a m = 0)) ∨ (jand (jshr (t : Int) (a : Int)) 1 = 0 ∧ ((a < m ∧ jzb t a m = jzb t (a + 1) m + 1) ∨ (m ≤ a ∧ jzb t a m = 0))) :=
  of_decide_eq_true (List.all_eq_true.mp (List.all_eq_true.mp (List.all_eq_true.mp jzb_n0 t (List.mem_range.mpr ht)) a (List.mem_range.mpr ha)) m (List.mem_range.mpr hm))
theorem jzb_s (t a m : Int) (h0 : 0 ≤ t) (h1 : t ≤ 31) (h2 : 0 ≤ a) (h3 : a ≤ 5) (h4 : 0 ≤ m) (h5 : m ≤ 5) : (jand (jshr t a) 1 = 1 ∧ jzb t a m = jzb t (a + 1) m ∧ (a < m ∨ jzb t a m = 0)) ∨ (jand (jshr t a) 1 = 0 ∧ ((a < m ∧ jzb t a m = jzb t (a + 1) m + 1) ∨ (m ≤ a ∧ jzb t a m = 0))) := by
  have := jzb_n t.toNat (by omega) a.toNat (by omega) m.toNat (by omega)
  rw [Int.toNat_of_nonneg h0, Int.toNat_of_nonneg h2, Int.toNat_of_nonneg h4] at this
  omega
def jzb_Q (t a m : Nat) : Bool := decide ((m ≤ a ∨ jand (jshr (t : Int) (a : Int)) 1 ≠ 0) ∨ (jzb (jor (t : Int) (jshl 1 (a : Int))) 0 m = jzb t 0 m - 1 ∧ 0 ≤ jor (t : Int) (jshl 1 (a : Int)) ∧ jor (t : Int) (jshl 1 (a : Int)) ≤ 31))
theorem jzb_on0 : (List.range 32).all (fun t => (List.range 5).all (fun a => (List.range 6).all (fun m => jzb_Q t a m))) = true := by decide +kernel
theorem jzb_on (t : Nat) (ht : t < 32) (a : Nat) (ha : a < 5) (m : Nat) (hm : m < 6) : (m ≤ a ∨ jand (jshr (t : Int) (a : Int)) 1 ≠ 0) ∨ (jzb (jor (t : Int) (jshl 1 (a : Int))) 0 m = jzb t 0 m - 1 ∧ 0 ≤ jor (t : Int) (jshl 1 (a : Int)) ∧ jor (t : Int) (jshl 1 (a : Int)) ≤ 31) :=
  of_decide_eq_true (List.all_eq_true.mp (List.all_eq_true.mp (List.all_eq_true.mp jzb_on0 t (List.mem_range.mpr ht)) a (List.mem_range.mpr ha)) m (List.mem_range.mpr hm))
theorem jzb_o (t a m : Int) (h0 : 0 ≤ t) (h1 : t ≤ 31) (h2 : 0 ≤ a) (h3 : a < m) (h5 : m ≤ 5) (hb : jand (jshr t a) 1 = 0) : jzb (jor t (jshl 1 a)) 0 m = jzb t 0 m - 1 ∧ 0 ≤ jor t (jshl 1 a) ∧ jor t (jshl 1 a) ≤ 31 := by
  have := jzb_on t.toNat (by omega) a.toNat (by omega) m.toNat (by omega)
  rw [Int.toNat_of_nonneg h0, Int.toNat_of_nonneg h2, Int.toNat_of_nonneg (show 0 ≤ m by omega)] at this
  rcases this with (q | q) | q
  · omega
  · exact absurd hb q
  · exact q
