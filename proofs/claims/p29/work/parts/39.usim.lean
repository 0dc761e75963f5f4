/-! ===== ORDERS (pure) ===== -/
theorem jull_c {S S' : Int → Int} : ∀ n : Nat, (∀ i : Int, 0 ≤ i → i < n → S' i = S i) → jull S' n = jull S n
  | 0, _ => rfl
  | n + 1, h => by
      show (if S' n = 0 ∨ S' n = 1 then jull S' n ++ [(n : Int)] else jull S' n) = if S n = 0 ∨ S n = 1 then jull S n ++ [(n : Int)] else jull S n
      rw [jull_c n (fun i a b => h i a (by omega)), h n (by omega) (by omega)]
theorem jull_up {S : Int → Int} (n : Nat) : ∀ m : Nat, n ≤ m → ∃ t : List Int, jull S m = jull S n ++ t
  | 0, h => ⟨[], by rw [show n = 0 by omega]; rfl⟩
  | m + 1, h => by
      by_cases z : n = m + 1
      · exact ⟨[], by rw [z, List.append_nil]⟩
      · obtain ⟨t, e⟩ := jull_up (S := S) n m (by omega)
        have st : jull S (m + 1) = if S m = 0 ∨ S m = 1 then jull S m ++ [(m : Int)] else jull S m := rfl
        by_cases y : S m = 0 ∨ S m = 1
        · exact ⟨t ++ [(m : Int)], by rw [st, if_pos y, e, List.append_assoc]⟩
        · exact ⟨t, by rw [st, if_neg y, e]⟩
theorem jull_mem {S : Int → Int} : ∀ n : Nat, ∀ k : Int, k ∈ jull S n ↔ (0 ≤ k ∧ k < n ∧ (S k = 0 ∨ S k = 1))
  | 0, k => ⟨fun q => (List.not_mem_nil q).elim, fun q => absurd q.2.1 (by omega)⟩
  | n + 1, k => by
      have ih := jull_mem (S := S) n k
      have st : jull S (n + 1) = if S n = 0 ∨ S n = 1 then jull S n ++ [(n : Int)] else jull S n := rfl
      rw [st]
      by_cases y : S n = 0 ∨ S n = 1
      · rw [if_pos y, List.mem_append, ih, List.mem_singleton]
        constructor
        · rintro (q | q)
          · exact ⟨q.1, by omega, q.2.2⟩
          · rw [q]; exact ⟨by omega, by omega, y⟩
        · rintro ⟨q1, q2, q3⟩
          by_cases z : k = n
          · exact Or.inr z
          · exact Or.inl ⟨q1, by omega, q3⟩
      · rw [if_neg y, ih]
        constructor
        · rintro ⟨q1, q2, q3⟩; exact ⟨q1, by omega, q3⟩
        · rintro ⟨q1, q2, q3⟩
          refine ⟨q1, ?_, q3⟩
          by_cases z : k = n
          · rw [z] at q3; exact absurd q3 y
          · omega
theorem jull_srt {S : Int → Int} : ∀ n : Nat, ∀ i j : Nat, i < j → j < (jull S n).length → (jull S n).getD i 0 < (jull S n).getD j 0
  | 0, i, j, _, h => absurd h (by show ¬ j < 0; omega)
  | n + 1, i, j, h1, h2 => by
      have ih := jull_srt (S := S) n i j h1
      have st : jull S (n + 1) = if S n = 0 ∨ S n = 1 then jull S n ++ [(n : Int)] else jull S n := rfl
      rw [st] at h2 ⊢
      by_cases y : S n = 0 ∨ S n = 1
      · rw [if_pos y] at h2 ⊢
        rw [List.length_append, List.length_singleton] at h2
        have ei : (jull S n ++ [(n : Int)]).getD i 0 = (jull S n).getD i 0 := by
          rw [List.getD_eq_getElem?_getD, List.getD_eq_getElem?_getD, List.getElem?_append_left (by omega)]
        rw [ei]
        by_cases z : j < (jull S n).length
        · rw [List.getD_eq_getElem?_getD (l := jull S n ++ _), List.getElem?_append_left z, ← List.getD_eq_getElem?_getD]
          exact ih z
        · have ej : (jull S n ++ [(n : Int)]).getD j 0 = n := by
            rw [List.getD_eq_getElem?_getD, List.getElem?_append_right (by omega), show j - (jull S n).length = 0 by omega]
            rfl
          rw [ej]
          have m : (jull S n).getD i 0 ∈ jull S n := by
            rw [List.getD_eq_getElem?_getD, List.getElem?_eq_getElem (by omega)]
            exact List.getElem_mem _
          exact ((jull_mem n _).1 m).2.1
      · rw [if_neg y] at h2 ⊢
        exact ih h2
theorem jgd_mem {l : List Int} {i : Nat} (h : i < l.length) : l.getD i 0 ∈ l := by
  rw [List.getD_eq_getElem?_getD, List.getElem?_eq_getElem h]
  exact List.getElem_mem _
theorem jgd_ex {l : List Int} {k : Int} (h : k ∈ l) : ∃ i : Nat, i < l.length ∧ l.getD i 0 = k := by
  obtain ⟨i, hi, e⟩ := List.mem_iff_getElem.1 h
  exact ⟨i, hi, by rw [List.getD_eq_getElem?_getD, List.getElem?_eq_getElem hi]; exact e⟩
/-! the orders by places: decided -/
def jpo_P (m k : Nat) : Bool := (List.range m).all (fun i => decide (jpos m k i < m)) && (List.range m).all (fun p => (List.range m).any (fun i => jpos m k i == p)) && (List.range m).all (fun i => (List.range m).all (fun j => i == j || !(jpos m k i == jpos m k j)))
theorem jpo_1 : (List.range 6).all (fun m => (List.range (jfa m)).all (fun k => jpo_P m k)) = true := by decide +kernel
theorem jpos_p {m k : Nat} (hm : m ≤ 5) (hk : k < jfa m) : (∀ i : Nat, i < m → jpos m k i < m) ∧ (∀ p : Nat, p < m → ∃ i : Nat, i < m ∧ jpos m k i = p) ∧ (∀ i j : Nat, i < m → j < m → jpos m k i = jpos m k j → i = j) := by
  have e := List.all_eq_true.mp (List.all_eq_true.mp jpo_1 m (List.mem_range.mpr (by omega))) k (List.mem_range.mpr hk)
  unfold jpo_P at e
  rw [Bool.and_eq_true, Bool.and_eq_true] at e
  refine ⟨fun i hi => of_decide_eq_true (List.all_eq_true.mp e.1.1 i (List.mem_range.mpr hi)), fun p hp => ?_, fun i j hi hj q => ?_⟩
  · obtain ⟨i, a, b⟩ := List.any_eq_true.mp (List.all_eq_true.mp e.1.2 p (List.mem_range.mpr hp))
    exact ⟨i, List.mem_range.mp a, eq_of_beq b⟩
  · have z := List.all_eq_true.mp (List.all_eq_true.mp e.2 i (List.mem_range.mpr hi)) j (List.mem_range.mpr hj)
    rw [Bool.or_eq_true] at z
    rcases z with z | z
    · exact eq_of_beq z
    · rw [q, beq_self_eq_true] at z; exact absurd z (by decide)
theorem jfa_p (m : Nat) : 0 < jfa m := by
  induction m with
  | zero => decide
  | succ m ih => exact Nat.mul_pos (by omega) ih
/-! the next order, as the class finds it -/
def jsw (a b : Int) (T : Int → Int) : Int → Int := fun i => if i = b then T a else if i = a then T b else T i
def jn1 (T : Int → Int) : Nat → Int → Int
  | 0, a => a
  | f + 1, a => if 0 ≤ a ∧ T (a + 1) < T a then jn1 T f (a - 1) else a
def jn2 (T : Int → Int) (a : Int) : Nat → Int → Int
  | 0, o => o
  | f + 1, o => if a + 1 < o ∧ T o < T a then jn2 T a f (o - 1) else o
def jn3 : Nat → Int → Int → (Int → Int) → (Int → Int)
  | 0, _, _, T => T
  | f + 1, lo, hi, T => if lo < hi then jn3 f (lo + 1) (hi - 1) (jsw lo hi T) else T
def jnx3 (m : Int) (T : Int → Int) : Int → Int := if jn1 T m.toNat (m - 2) < 0 then T else jn3 m.toNat (jn1 T m.toNat (m - 2) + 1) (m - 1) (jsw (jn1 T m.toNat (m - 2)) (jn2 T (jn1 T m.toNat (m - 2)) (m - 1 - jn1 T m.toNat (m - 2)).toNat (m - 1)) T)
def jpf (m k : Nat) : Int → Int := fun i => (jpos m k i.toNat : Int)
def jnx_P (m k : Nat) : Bool := (List.range m).all (fun i => decide (jnx3 m (jpf m k) (i : Int) = (jpos m (k + 1) i : Int)))
theorem jnx_1 : (List.range 6).all (fun m => (List.range (jfa m - 1)).all (fun k => jnx_P m k)) = true := by decide +kernel
theorem jnx_p {m k : Nat} (hm : m ≤ 5) (hk : k + 1 < jfa m) : ∀ i : Nat, i < m → jnx3 m (jpf m k) (i : Int) = (jpos m (k + 1) i : Int) := fun i hi => by
  have e := List.all_eq_true.mp (List.all_eq_true.mp jnx_1 m (List.mem_range.mpr (by omega))) k (List.mem_range.mpr (by omega))
  exact of_decide_eq_true (List.all_eq_true.mp e i (List.mem_range.mpr hi))
/-- alike but for names -/
def jRle (m : Int) (l : Int → Int) (T P : Int → Int) : Prop := ∀ i : Int, 0 ≤ i → i < m → T i = l (P i) ∧ 0 ≤ P i ∧ P i < m
def jMon (m : Int) (l : Int → Int) : Prop := ∀ x y : Int, 0 ≤ x → x < y → y < m → l x < l y
theorem jMon_lt {m : Int} {l : Int → Int} (M : jMon m l) {x y : Int} (hx : 0 ≤ x ∧ x < m) (hy : 0 ≤ y ∧ y < m) : l x < l y ↔ x < y := by
  constructor
  · intro q
    by_cases z : x < y
    · exact z
    · by_cases w : x = y
      · rw [w] at q; omega
      · have := M y x hy.1 (by omega) hx.2; omega
  · intro q; exact M x y hx.1 q hy.2
theorem jRle_sw {m a b : Int} {l T P : Int → Int} (R : jRle m l T P) (ha : 0 ≤ a ∧ a < m) (hb : 0 ≤ b ∧ b < m) : jRle m l (jsw a b T) (jsw a b P) := fun i h0 h1 => by
  unfold jsw
  by_cases z : i = b
  · rw [if_pos z, if_pos z]; exact R a ha.1 ha.2
  · rw [if_neg z, if_neg z]
    by_cases y : i = a
    · rw [if_pos y, if_pos y]; exact R b hb.1 hb.2
    · rw [if_neg y, if_neg y]; exact R i h0 h1
theorem jn1_c {m : Int} {l T P : Int → Int} (M : jMon m l) (R : jRle m l T P) : ∀ (f : Nat) (a : Int), a ≤ m - 2 → jn1 T f a = jn1 P f a ∧ jn1 P f a ≤ a
  | 0, a, _ => ⟨rfl, Int.le_refl _⟩
  | f + 1, a, ha => by
      have ih := jn1_c M R f (a - 1) (by omega)
      show (if 0 ≤ a ∧ T (a + 1) < T a then jn1 T f (a - 1) else a) = (if 0 ≤ a ∧ P (a + 1) < P a then jn1 P f (a - 1) else a) ∧ (if 0 ≤ a ∧ P (a + 1) < P a then jn1 P f (a - 1) else a) ≤ a
      by_cases z : 0 ≤ a
      · have r1 := R (a + 1) (by omega) (by omega)
        have r0 := R a z (by omega)
        have k := jMon_lt M r1.2 r0.2
        rw [r1.1, r0.1]
        by_cases y : P (a + 1) < P a
        · rw [if_pos ⟨z, k.2 y⟩, if_pos ⟨z, y⟩]; exact ⟨ih.1, by omega⟩
        · rw [if_neg (fun q => y (k.1 q.2)), if_neg (fun q => y q.2)]; exact ⟨rfl, Int.le_refl _⟩
      · rw [if_neg (fun q => z q.1), if_neg (fun q => z q.1)]; exact ⟨rfl, Int.le_refl _⟩
theorem jn2_c {m a : Int} {l T P : Int → Int} (M : jMon m l) (R : jRle m l T P) (ha : 0 ≤ a ∧ a < m) : ∀ (f : Nat) (o : Int), a < o → o < m → jn2 T a f o = jn2 P a f o ∧ a < jn2 P a f o ∧ jn2 P a f o < m
  | 0, o, h1, h2 => ⟨rfl, h1, h2⟩
  | f + 1, o, h1, h2 => by
      show (if a + 1 < o ∧ T o < T a then jn2 T a f (o - 1) else o) = (if a + 1 < o ∧ P o < P a then jn2 P a f (o - 1) else o) ∧ a < (if a + 1 < o ∧ P o < P a then jn2 P a f (o - 1) else o) ∧ (if a + 1 < o ∧ P o < P a then jn2 P a f (o - 1) else o) < m
      have r1 := R o (by omega) h2
      have r0 := R a ha.1 ha.2
      have k := jMon_lt M r1.2 r0.2
      rw [r1.1, r0.1]
      by_cases z : a + 1 < o
      · have ih := jn2_c M R ha f (o - 1) (by omega) (by omega)
        by_cases y : P o < P a
        · rw [if_pos ⟨z, k.2 y⟩, if_pos ⟨z, y⟩]; exact ih
        · rw [if_neg (fun q => y (k.1 q.2)), if_neg (fun q => y q.2)]; exact ⟨rfl, h1, h2⟩
      · rw [if_neg (fun q => z q.1), if_neg (fun q => z q.1)]; exact ⟨rfl, h1, h2⟩
theorem jn3_c {m : Int} {l : Int → Int} : ∀ (f : Nat) (lo hi : Int) (T P : Int → Int), 0 ≤ lo → hi < m → jRle m l T P → jRle m l (jn3 f lo hi T) (jn3 f lo hi P)
  | 0, _, _, _, _, _, _, R => R
  | f + 1, lo, hi, T, P, h0, h1, R => by
      show jRle m l (if lo < hi then jn3 f (lo + 1) (hi - 1) (jsw lo hi T) else T) (if lo < hi then jn3 f (lo + 1) (hi - 1) (jsw lo hi P) else P)
      by_cases z : lo < hi
      · rw [if_pos z, if_pos z]
        exact jn3_c f (lo + 1) (hi - 1) _ _ (by omega) (by omega) (jRle_sw R (by omega) (by omega))
      · rw [if_neg z, if_neg z]; exact R
theorem jnx3_c {m : Int} {l T P : Int → Int} (M : jMon m l) (R : jRle m l T P) : jRle m l (jnx3 m T) (jnx3 m P) := by
  obtain ⟨e1, b1⟩ := jn1_c M R m.toNat (m - 2) (Int.le_refl _)
  unfold jnx3
  rw [e1]
  generalize jn1 P m.toNat (m - 2) = a at b1
  by_cases z : a < 0
  · rw [if_pos z, if_pos z]; exact R
  · rw [if_neg z, if_neg z]
    obtain ⟨e2, b2, b3⟩ := jn2_c M R (a := a) (by omega) (m - 1 - a).toNat (m - 1) (by omega) (by omega)
    rw [e2]
    exact jn3_c _ _ _ _ _ (by omega) (by omega) (jRle_sw R (by omega) (by omega))
/-- from one order to the next -/
theorem jnx_l {L : List Int} {k : Nat} {T : Int → Int} (hm : L.length ≤ 5) (hk : k + 1 < jfa L.length) (srt : ∀ i j : Nat, i < j → j < L.length → L.getD i 0 < L.getD j 0) (e : ∀ i : Nat, i < L.length → T i = L.getD (jpos L.length k i) 0) : ∀ i : Nat, i < L.length → jnx3 L.length T i = L.getD (jpos L.length (k + 1) i) 0 := fun i hi => by
  have M : jMon L.length (fun x => L.getD x.toNat 0) := fun x y h0 h1 h2 => srt x.toNat y.toNat (by omega) (by omega)
  have R : jRle L.length (fun x => L.getD x.toNat 0) T (jpf L.length k) := fun j h0 h1 => by
    have p := (jpos_p hm (show k < jfa L.length by omega)).1 j.toNat (by omega)
    have q := e j.toNat (by omega)
    rw [Int.toNat_of_nonneg h0] at q
    unfold jpf
    exact ⟨by
      rw [q]
      show _ = L.getD ((jpos L.length k j.toNat : Int)).toNat 0
      rw [Int.toNat_natCast], by omega, by omega⟩
  have w := jnx3_c M R i (by omega) (by omega)
  rw [w.1, jnx_p hm hk i hi]
  show L.getD ((jpos L.length (k + 1) i : Int)).toNat 0 = _
  rw [Int.toNat_natCast]
/-! the reference's order: left, taken, ways -/
def jzr (t : Int) : Nat → Int → Int → Int
  | 0, _, a => a
  | f + 1, s, a => if jand (jshr t a) 1 = 1 ∨ 0 < s then jzr t f (if jand (jshr t a) 1 = 1 then s else s - 1) (a + 1) else a
def jfw (m : Int) : Int := if m ≤ 1 then 1 else if m = 2 then 2 else if m = 3 then 6 else if m = 4 then 24 else 120
def jfo (m k : Int) : Nat → Int × Int × Int
  | 0 => (k, 0, jfw m)
  | i + 1 => ((jfo m k i).1 % ((jfo m k i).2.2 / (m - i)), jor (jfo m k i).2.1 (jshl 1 (jzr (jfo m k i).2.1 6 ((jfo m k i).1 / ((jfo m k i).2.2 / (m - i))) 0)), (jfo m k i).2.2 / (m - i))
def jatt (m k : Int) (i : Nat) : Int := jzr (jfo m k i).2.1 6 ((jfo m k i).1 / ((jfo m k i).2.2 / (m - i))) 0
def jatt_P (m k : Nat) : Bool := (List.range m).all (fun i => decide (jatt m k i = (jpos m k i : Int)))
theorem jatt_1 : (List.range 6).all (fun m => (List.range (jfa m)).all (fun k => jatt_P m k)) = true := by decide +kernel
theorem jatt_p {m k : Nat} (hm : m ≤ 5) (hk : k < jfa m) : ∀ i : Nat, i < m → jatt m k i = (jpos m k i : Int) := fun i hi => by
  have e := List.all_eq_true.mp (List.all_eq_true.mp jatt_1 m (List.mem_range.mpr (by omega))) k (List.mem_range.mpr hk)
  exact of_decide_eq_true (List.all_eq_true.mp e i (List.mem_range.mpr hi))
/-! the least of all -/
theorem jbq_c {s s' : Nat → Int} : ∀ n : Nat, (∀ k : Nat, k < n → s' k = s k) → jbq s' n = jbq s n
  | 0, _ => rfl
  | n + 1, h => by
      show (if (jbq s' n).1 < 0 ∨ s' n < (jbq s' n).1 then (s' n, n) else jbq s' n) = if (jbq s n).1 < 0 ∨ s n < (jbq s n).1 then (s n, n) else jbq s n
      rw [jbq_c n (fun k a => h k (by omega)), h n (by omega)]
theorem jbq_b {s : Nat → Int} (p : ∀ k : Nat, 0 ≤ s k) : ∀ n : Nat, 0 < n → 0 ≤ (jbq s n).1 ∧ (jbq s n).2 < n ∧ (jbq s n).1 = s (jbq s n).2
  | 0, h => absurd h (by omega)
  | n + 1, _ => by
      have st : jbq s (n + 1) = if (jbq s n).1 < 0 ∨ s n < (jbq s n).1 then (s n, n) else jbq s n := rfl
      rw [st]
      by_cases z : (jbq s n).1 < 0 ∨ s n < (jbq s n).1
      · rw [if_pos z]; exact ⟨p n, by show n < n + 1; omega, rfl⟩
      · rw [if_neg z]
        by_cases y : n = 0
        · subst y; exact absurd (Or.inl (by show (-1 : Int) < 0; decide)) z
        · have ih := jbq_b p n (by omega)
          exact ⟨ih.1, by omega, ih.2.2⟩
/-- nothing is less than nought -/
theorem jbq_0 {s : Nat → Int} (p : ∀ k : Nat, 0 ≤ s k) {k : Nat} (z : (jbq s k).1 = 0) : ∀ n : Nat, k ≤ n → jbq s n = jbq s k
  | 0, h => by rw [show k = 0 by omega]
  | n + 1, h => by
      by_cases y : k = n + 1
      · rw [y]
      · have ih := jbq_0 p z n (by omega)
        have st : jbq s (n + 1) = if (jbq s n).1 < 0 ∨ s n < (jbq s n).1 then (s n, n) else jbq s n := rfl
        have := p n
        rw [st, ih, if_neg (by omega)]
