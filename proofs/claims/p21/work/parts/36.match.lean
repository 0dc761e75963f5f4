/-! ===== the class's matching: why its least numbers stay above 0 ===== -/
def jwt : List Int := [115856201, 2825761, 68921, 1681, 41, 1]
/-- what a part without a tree weighs -/
def jlk (i : Int) : Int := 19456426971136 + 40 * jwt.getD i.toNat 0
def jbt (s i : Int) : Bool := s.toNat.testBit i.toNat
/-- of the parts below the number of sets those that lie outside a set: what they weigh -/
def jLs (sets set : Int) : Int := (List.range 6).foldl (fun (acc : Int) (j : Nat) => if (2 : Int) ^ j < sets ∧ set.toNat.testBit j = false then acc + jlk j else acc) 0
def jLi (n : Int) : Int := (List.range 6).foldl (fun (acc : Int) (j : Nat) => if (j : Int) < n then acc + jlk j else acc) 0
def jsets : List Int := [1, 2, 4, 8, 16, 32, 64]
theorem jlk_b (i : Int) (h0 : 0 ≤ i) (h1 : i < 6) : 19456426971137 ≤ jlk i ∧ jlk i ≤ 19461061219176 := by
  have q : i = 0 ∨ i = 1 ∨ i = 2 ∨ i = 3 ∨ i = 4 ∨ i = 5 := by omega
  rcases q with rfl | rfl | rfl | rfl | rfl | rfl <;> decide +kernel
def jm_P1 (u i : Nat) : Bool := decide (jand (u : Int) (jshl 1 (i : Int)) ≠ 0) == u.testBit i
theorem jm_1 : (List.range 64).all (fun u => (List.range 6).all (fun i => jm_P1 u i)) = true := by decide +kernel
def jm_P2 (s f : Nat) : Bool := decide (jand (s : Int) (f : Int) = ((s &&& f : Nat) : Int))
theorem jm_2 : (List.range 64).all (fun s => (List.range 64).all (fun f => jm_P2 s f)) = true := by decide +kernel
def jm_P3 (sets : Int) (s i : Nat) : Bool := !(s.testBit i) || !(decide ((2 : Int) ^ i < sets)) || decide (jLs sets (jxor (s : Int) (jshl 1 (i : Int))) = jLs sets s + jlk i)
theorem jm_3 : jsets.all (fun sets => (List.range 64).all (fun s => (List.range 6).all (fun i => jm_P3 sets s i))) = true := by decide +kernel
def jm_P4 (f i j : Nat) : Bool := (jor (f : Int) (jshl 1 (i : Int))).toNat.testBit j == (f.testBit j || decide (i = j))
theorem jm_4 : (List.range 64).all (fun f => (List.range 6).all (fun i => (List.range 6).all (fun j => jm_P4 f i j))) = true := by decide +kernel
def jm_P5 (sets : Int) (s : Nat) : Bool := decide (0 ≤ jLs sets s ∧ jLs sets s ≤ 116766367315056)
theorem jm_5 : jsets.all (fun sets => (List.range 64).all (fun s => jm_P5 sets s)) = true := by decide +kernel
theorem jm_bit (s f i : Int) (h0 : 0 ≤ s) (h1 : s ≤ 63) (h2 : 0 ≤ f) (h3 : f ≤ 63) (h4 : 0 ≤ i) (h5 : i < 6) (hb : ¬ jand (jand s f) (jshl 1 i) = 0) : jbt s i = true ∧ jbt f i = true := by
  have e2 := List.all_eq_true.mp (List.all_eq_true.mp jm_2 s.toNat (List.mem_range.mpr (by omega))) f.toNat (List.mem_range.mpr (by omega))
  have e2 : jand ((s.toNat : Nat) : Int) ((f.toNat : Nat) : Int) = ((s.toNat &&& f.toNat : Nat) : Int) := of_decide_eq_true e2
  rw [Int.toNat_of_nonneg h0, Int.toNat_of_nonneg h2] at e2
  have hlt : s.toNat &&& f.toNat < 64 := Nat.lt_of_le_of_lt Nat.and_le_left (by omega)
  have e1 := List.all_eq_true.mp (List.all_eq_true.mp jm_1 (s.toNat &&& f.toNat) (List.mem_range.mpr hlt)) i.toNat (List.mem_range.mpr (by omega))
  have e1 : decide (jand (((s.toNat &&& f.toNat : Nat)) : Int) (jshl 1 ((i.toNat : Nat) : Int)) ≠ 0) = (s.toNat &&& f.toNat).testBit i.toNat := eq_of_beq e1
  rw [← e2, Int.toNat_of_nonneg h4, decide_eq_true hb, Nat.testBit_and] at e1
  have := e1.symm
  rw [Bool.and_eq_true] at this
  exact this
theorem jm_step (sets s i : Int) (hs : sets ∈ jsets) (h0 : 0 ≤ s) (h1 : s ≤ 63) (h4 : 0 ≤ i) (h5 : i < 6) (hb : jbt s i = true) (hp : (2 : Int) ^ i.toNat < sets) : jLs sets (jxor s (jshl 1 i)) = jLs sets s + jlk i := by
  have e := List.all_eq_true.mp (List.all_eq_true.mp (List.all_eq_true.mp jm_3 sets hs) s.toNat (List.mem_range.mpr (by omega))) i.toNat (List.mem_range.mpr (by omega))
  unfold jm_P3 at e
  unfold jbt at hb
  rw [hb, decide_eq_true hp] at e
  have e := of_decide_eq_true (by simpa using e : decide (jLs sets (jxor ((s.toNat : Nat) : Int) (jshl 1 ((i.toNat : Nat) : Int))) = jLs sets ((s.toNat : Nat) : Int) + jlk ((i.toNat : Nat) : Int)) = true)
  rwa [Int.toNat_of_nonneg h0, Int.toNat_of_nonneg h4] at e
theorem jm_or (f i j : Int) (h0 : 0 ≤ f) (h1 : f ≤ 63) (h4 : 0 ≤ i) (h5 : i < 6) (h6 : 0 ≤ j) (h7 : j < 6) (hb : jbt (jor f (jshl 1 i)) j = true) : jbt f j = true ∨ i = j := by
  have e := List.all_eq_true.mp (List.all_eq_true.mp (List.all_eq_true.mp jm_4 f.toNat (List.mem_range.mpr (by omega))) i.toNat (List.mem_range.mpr (by omega))) j.toNat (List.mem_range.mpr (by omega))
  have e : (jor ((f.toNat : Nat) : Int) (jshl 1 ((i.toNat : Nat) : Int))).toNat.testBit j.toNat = (f.toNat.testBit j.toNat || decide (i.toNat = j.toNat)) := eq_of_beq e
  rw [Int.toNat_of_nonneg h0, Int.toNat_of_nonneg h4] at e
  unfold jbt at hb ⊢
  rw [hb] at e
  have := e.symm
  rw [Bool.or_eq_true, decide_eq_true_eq] at this
  rcases this with q | q
  · exact Or.inl q
  · exact Or.inr (by omega)
theorem jLs_b (sets s : Int) (hs : sets ∈ jsets) (h0 : 0 ≤ s) (h1 : s ≤ 63) : 0 ≤ jLs sets s ∧ jLs sets s ≤ 116766367315056 := by
  have e := List.all_eq_true.mp (List.all_eq_true.mp jm_5 sets hs) s.toNat (List.mem_range.mpr (by omega))
  have e : 0 ≤ jLs sets ((s.toNat : Nat) : Int) ∧ jLs sets ((s.toNat : Nat) : Int) ≤ 116766367315056 := of_decide_eq_true e
  rwa [Int.toNat_of_nonneg h0] at e
theorem jm_sets (n : Int) (h0 : 0 ≤ n) (h1 : n ≤ 6) : jshl 1 n ∈ jsets ∧ jLs (jshl 1 n) 0 = jLi n ∧ jLi 0 = 0 ∧ ∀ i : Int, 0 ≤ i → i < n → (2 : Int) ^ i.toNat < jshl 1 n ∧ jLi (i + 1) = jLi i + jlk i := by
  have q : n = 0 ∨ n = 1 ∨ n = 2 ∨ n = 3 ∨ n = 4 ∨ n = 5 ∨ n = 6 := by omega
  have t : ∀ i : Int, 0 ≤ i → i < 6 → jLi (i + 1) = jLi i + jlk i := by
    intro i h0 h1
    have q : i = 0 ∨ i = 1 ∨ i = 2 ∨ i = 3 ∨ i = 4 ∨ i = 5 := by omega
    rcases q with rfl | rfl | rfl | rfl | rfl | rfl <;> decide +kernel
  have w : ∀ (n i : Int), 0 ≤ i → i < n → n ≤ 6 → (2 : Int) ^ i.toNat < jshl 1 n := by
    intro n i h0 h1 h2
    have q : i = 0 ∨ i = 1 ∨ i = 2 ∨ i = 3 ∨ i = 4 ∨ i = 5 := by omega
    have q2 : n = 1 ∨ n = 2 ∨ n = 3 ∨ n = 4 ∨ n = 5 ∨ n = 6 := by omega
    rcases q2 with rfl | rfl | rfl | rfl | rfl | rfl <;> rcases q with rfl | rfl | rfl | rfl | rfl | rfl <;> first | (exfalso; omega) | decide +kernel
  refine ⟨?_, ?_, by decide +kernel, fun i h2 h3 => ⟨w n i h2 h3 h1, t i h2 (by omega)⟩⟩
  · rcases q with rfl | rfl | rfl | rfl | rfl | rfl | rfl <;> decide +kernel
  · rcases q with rfl | rfl | rfl | rfl | rfl | rfl | rfl <;> decide +kernel
theorem jmul_b {a b A B : Int} (h0 : 0 ≤ a) (h1 : a ≤ A) (h2 : 0 ≤ b) (h3 : b ≤ B) : 0 ≤ a * b ∧ a * b ≤ A * B :=
  ⟨Int.mul_nonneg h0 h2, Int.mul_le_mul h1 h3 h2 (Int.le_trans h0 h1)⟩
/-- the least numbers are as they should be -/
def jLok (sets : Int) (g : JH) : Prop := ∀ s : Int, 0 ≤ s → s ≤ 63 → jLs sets s ≤ g 99 s ∧ g 99 s ≤ 4611686018427387904
/-- the changes of the parts of a set are as they should be -/
def jCok (f n : Int) (g : JH) : Prop := ∀ i : Int, 0 ≤ i → i < 6 → jbt f i = true → i < n ∧ -jlk i ≤ g 100 i ∧ g 100 i ≤ 1000000000000000
def jGok (g : JH) : Prop := ∀ t : Int, 0 ≤ t → t < 40 → 0 ≤ g 87 t ∧ g 87 t ≤ 20000
def jDok (f sets : Int) (g : JH) : Prop := ∀ i : Int, 0 ≤ i → i < 6 → jbt f i = true → (2 : Int) ^ i.toNat < sets ∧ -jlk i ≤ g 100 i ∧ g 100 i ≤ 1000000000000000
theorem jLok_up {sets : Int} {g g' : JH} {s v : Int} (h : jLok sets g) (e : g' = jup g 99 s v) (hv : jLs sets s ≤ v ∧ v ≤ 4611686018427387904) : jLok sets g' := fun a h0 h1 => by
  by_cases q : a = s
  · subst q; rw [jup_s e]; exact hv
  · rw [jup_o e (fun z => q z.2)]; exact h a h0 h1
theorem jLok_fr {sets : Int} {g g' : JH} (h : jLok sets g) (e : ∀ s : Int, g' 99 s = g 99 s) : jLok sets g' := fun a h0 h1 => by rw [e]; exact h a h0 h1
theorem jCok_fr {f n : Int} {g g' : JH} (h : jCok f n g) (e : ∀ s : Int, g' 100 s = g 100 s) : jCok f n g' := fun a h0 h1 h2 => by rw [e]; exact h a h0 h1 h2
theorem jGok_fr {g g' : JH} (h : jGok g) (e : ∀ s : Int, g' 87 s = g 87 s) : jGok g' := fun a h0 h1 => by rw [e]; exact h a h0 h1
theorem jLi_b (n : Int) (h0 : 0 ≤ n) (h1 : n ≤ 6) : 0 ≤ jLi n ∧ jLi n ≤ 116766367315056 := by
  have q : n = 0 ∨ n = 1 ∨ n = 2 ∨ n = 3 ∨ n = 4 ∨ n = 5 ∨ n = 6 := by omega
  rcases q with rfl | rfl | rfl | rfl | rfl | rfl | rfl <;> decide +kernel
theorem jCD {f n : Int} {g : JH} (h0 : 0 ≤ n) (h1 : n ≤ 6) (h : jCok f n g) : jDok f (jshl 1 n) g := fun i a b c => ⟨((jm_sets n h0 h1).2.2.2 i a (h i a b c).1).1, (h i a b c).2⟩
theorem jL0 {n : Int} {g : JH} (h0 : 0 ≤ n) (h1 : n ≤ 6) (e0 : g 99 0 = jLi n) (e1 : ∀ s : Int, 1 ≤ s → s ≤ 63 → g 99 s = 4611686018427387904) : jLok (jshl 1 n) g := fun s a b => by
  have hb := jLi_b n h0 h1
  by_cases q : s = 0
  · subst q
    rw [(jm_sets n h0 h1).2.1, e0]
    omega
  · rw [e1 s (by omega) b]
    have := jLs_b (jshl 1 n) s (jm_sets n h0 h1).1 a b
    omega
/-- girths of the trees, by the day (c: a day that has just come) -/
def jLG (c : Int) (g : JH) : Prop := 0 ≤ g 0 0 ∧ g 0 0 ≤ 2000 ∧ ∀ t : Int, 0 ≤ t → t < 40 → 0 ≤ g 87 t ∧ g 87 t ≤ 500 + 9 * (g 0 0 - c)
theorem jLG_fr {c : Int} {h g : JH} (e0 : g 0 0 = h 0 0) (e : ∀ t : Int, g 87 t = h 87 t) (q : jLG c h) : jLG c g := by
  unfold jLG at q ⊢
  rw [e0]
  exact ⟨q.1, q.2.1, fun t a b => by rw [e]; exact q.2.2 t a b⟩
theorem jLG_w {g : JH} (q : jLG 1 g) : jLG 0 g := ⟨q.1, q.2.1, fun t a b => ⟨(q.2.2 t a b).1, by have := (q.2.2 t a b).2; omega⟩⟩
theorem jLG_day {g g' : JH} {v : Int} (q : jLG 0 g) (e : g' = jup g 0 0 v) (hv : v = g 0 0 + 1) (h2 : v ≤ 2000) : jLG 1 g' := by
  have e0 : g' 0 0 = v := jup_s e
  refine ⟨by have := q.1; omega, by omega, fun t a b => ?_⟩
  rw [jup_o e (by omega), e0]
  have := q.2.2 t a b
  omega
theorem jLG_grow {h g : JH} (e0 : g 0 0 = h 0 0) (p : ∀ t : Int, 0 ≤ t → t < 40 → h 87 t ≤ g 87 t ∧ g 87 t ≤ h 87 t + 9) (q : jLG 1 h) : jLG 0 g := by
  refine ⟨by rw [e0]; exact q.1, by rw [e0]; exact q.2.1, fun t a b => ?_⟩
  have h1 := q.2.2 t a b
  have h2 := p t a b
  rw [e0]
  omega
theorem jLG_tree {h g : JH} (e0 : g 0 0 = h 0 0) (p : ∀ t : Int, g 87 t = h 87 t ∨ (1 ≤ g 87 t ∧ g 87 t ≤ 500)) (q : jLG 0 h) : jLG 0 g := by
  refine ⟨by rw [e0]; exact q.1, by rw [e0]; exact q.2.1, fun t a b => ?_⟩
  have h1 := q.2.2 t a b
  have h3 := q.1
  rcases p t with h2 | h2 <;> rw [e0] <;> omega
theorem jLG_ok {c : Int} {g : JH} (q : jLG c g) (hc : 0 ≤ c := by decide) : jGok g := fun t a b => by
  have h1 := q.2.2 t a b
  have h2 := q.2.1
  exact ⟨h1.1, by omega⟩
