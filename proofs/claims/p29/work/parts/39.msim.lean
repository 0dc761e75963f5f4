/-! ===== MATCHING (pure): the least sum over sets of parts ===== -/
def jsg (f : Nat → Int) : Nat → Int
  | 0 => 0
  | n + 1 => jsg f n + f n
theorem jsg6 (f : Nat → Int) : jsg f 6 = f 0 + f 1 + f 2 + f 3 + f 4 + f 5 := by
  show 0 + f 0 + f 1 + f 2 + f 3 + f 4 + f 5 = _
  rw [Int.zero_add]
theorem jsg_c {f g : Nat → Int} : ∀ n : Nat, (∀ i : Nat, i < n → f i = g i) → jsg f n = jsg g n
  | 0, _ => rfl
  | n + 1, h => by
      show jsg f n + f n = jsg g n + g n
      rw [jsg_c n (fun i a => h i (by omega)), h n (by omega)]
theorem jsg_one {f g : Nat → Int} {j : Nat} : ∀ n : Nat, j < n → (∀ i : Nat, i < n → ¬ i = j → f i = g i) → jsg f n = jsg g n + (f j - g j)
  | 0, h, _ => absurd h (by omega)
  | n + 1, h, e => by
      show jsg f n + f n = jsg g n + g n + (f j - g j)
      by_cases z : j = n
      · rw [jsg_c (f := f) (g := g) n (fun i a => e i (by omega) (by omega)), z]; omega
      · rw [jsg_one (f := f) (g := g) n (by omega) (fun i a b => e i (by omega) b), e n (by omega) (fun q => z q.symm)]; omega
theorem jsg_z {f : Nat → Int} : ∀ n : Nat, (∀ i : Nat, i < n → f i = 0) → jsg f n = 0
  | 0, _ => rfl
  | n + 1, h => by
      show jsg f n + f n = 0
      rw [jsg_z n (fun i a => h i (by omega)), h n (by omega)]; rfl
/-- ahead of p, at p, behind p -/
theorem jsg_sp {f a g : Nat → Int} {p : Nat} (h1 : ∀ i : Nat, i < p → f i = a i) (h3 : ∀ i : Nat, i ≤ p → g i = 0) : ∀ n : Nat, p < n → (∀ i : Nat, p < i → i < n → f i = g i) → jsg f n = jsg a p + f p + jsg g n
  | 0, h, _ => absurd h (by omega)
  | n + 1, h, e => by
      show jsg f n + f n = jsg a p + f p + (jsg g n + g n)
      by_cases z : p = n
      · subst z
        rw [jsg_c (f := f) (g := a) p h1, jsg_z (f := g) p (fun i a => h3 i (by omega)), h3 p (by omega)]; omega
      · rw [jsg_sp h1 h3 n (by omega) (fun i a b => e i a (by omega)), e n (by omega) (by omega)]; omega
/-! sets as numbers below 64 -/
def jq_P (s i : Nat) : Bool := (List.range 6).all (fun j => (s ^^^ 2 ^ i).testBit j == (if j = i then !(s.testBit i) else s.testBit j)) && decide (s ^^^ 2 ^ i < 64) && (!(s.testBit i) || decide (s ^^^ 2 ^ i < s))
theorem jq_1 : (List.range 64).all (fun s => (List.range 6).all (fun i => jq_P s i)) = true := by decide +kernel
theorem jq_x {s i : Nat} (hs : s < 64) (hi : i < 6) : (∀ j : Nat, j < 6 → (s ^^^ 2 ^ i).testBit j = (if j = i then !(s.testBit i) else s.testBit j)) ∧ s ^^^ 2 ^ i < 64 ∧ (s.testBit i = true → s ^^^ 2 ^ i < s) := by
  have e := List.all_eq_true.mp (List.all_eq_true.mp jq_1 s (List.mem_range.mpr hs)) i (List.mem_range.mpr hi)
  unfold jq_P at e
  rw [Bool.and_eq_true, Bool.and_eq_true] at e
  refine ⟨fun j hj => eq_of_beq (List.all_eq_true.mp e.1.1 j (List.mem_range.mpr hj)), of_decide_eq_true e.1.2, fun b => ?_⟩
  have w := e.2
  rw [b] at w
  exact of_decide_eq_true w
def jq_Q (s : Nat) : Bool := decide (s = 0) || (List.range 6).any (fun i => s.testBit i)
theorem jq_2 : (List.range 64).all jq_Q = true := by decide +kernel
theorem jq_0 {s : Nat} (hs : s < 64) (h : ∀ i : Nat, i < 6 → s.testBit i = false) : s = 0 := by
  have e := List.all_eq_true.mp jq_2 s (List.mem_range.mpr hs)
  unfold jq_Q at e
  rw [Bool.or_eq_true] at e
  rcases e with e | e
  · exact of_decide_eq_true e
  · obtain ⟨i, hi, b⟩ := List.any_eq_true.mp e
    rw [h i (List.mem_range.mp hi)] at b
    exact absurd b (by decide)
def jq_f (a b c d e f : Bool) : Nat := cond a 1 0 + cond b 2 0 + cond c 4 0 + cond d 8 0 + cond e 16 0 + cond f 32 0
theorem jq_3 : ∀ a b c d e f : Bool, jq_f a b c d e f < 64 ∧ (jq_f a b c d e f).testBit 0 = a ∧ (jq_f a b c d e f).testBit 1 = b ∧ (jq_f a b c d e f).testBit 2 = c ∧ (jq_f a b c d e f).testBit 3 = d ∧ (jq_f a b c d e f).testBit 4 = e ∧ (jq_f a b c d e f).testBit 5 = f := by decide +kernel
theorem j6c {i : Nat} (h : i < 6) : i = 0 ∨ i = 1 ∨ i = 2 ∨ i = 3 ∨ i = 4 ∨ i = 5 := by omega
theorem jq_m (P : Nat → Bool) : ∃ s : Nat, s < 64 ∧ ∀ i : Nat, i < 6 → s.testBit i = P i := by
  obtain ⟨h, h0, h1, h2, h3, h4, h5⟩ := jq_3 (P 0) (P 1) (P 2) (P 3) (P 4) (P 5)
  refine ⟨_, h, fun i hi => ?_⟩
  rcases j6c hi with rfl | rfl | rfl | rfl | rfl | rfl
  · exact h0
  · exact h1
  · exact h2
  · exact h3
  · exact h4
  · exact h5
def jq_N (n s : Nat) : Bool := decide (s < 2 ^ n) == (List.range 6).all (fun i => !(s.testBit i) || decide (i < n))
theorem jq_4 : (List.range 7).all (fun n => (List.range 64).all (fun s => jq_N n s)) = true := by decide +kernel
theorem jq_n {n s : Nat} (hn : n ≤ 6) (hs : s < 64) : s < 2 ^ n ↔ ∀ i : Nat, i < 6 → s.testBit i = true → i < n := by
  have e := List.all_eq_true.mp (List.all_eq_true.mp jq_4 n (List.mem_range.mpr (by omega))) s (List.mem_range.mpr hs)
  have e : decide (s < 2 ^ n) = (List.range 6).all (fun i => !(s.testBit i) || decide (i < n)) := eq_of_beq e
  constructor
  · intro q i hi b
    rw [decide_eq_true q] at e
    have w := List.all_eq_true.mp e.symm i (List.mem_range.mpr hi)
    rw [b] at w
    exact of_decide_eq_true w
  · intro q
    have w : (List.range 6).all (fun i => !(s.testBit i) || decide (i < n)) = true := List.all_eq_true.mpr (fun i hi => by
      cases b : s.testBit i with
      | false => rfl
      | true => exact decide_eq_true (q i (List.mem_range.mp hi) b))
    rw [w] at e
    exact of_decide_eq_true e
theorem jq_64 {n : Nat} (hn : n ≤ 6) : 2 ^ n ≤ 64 := Nat.pow_le_pow_right (by decide) hn
/-- how many -/
def jpp (s : Nat) : Int := jsg (fun i => if s.testBit i = true then 1 else 0) 6
/-! the way over the trees -/
def jdf (A : Nat → Bool) (c : Nat → Int) (U : Int) (L : Nat → Int) (s : Nat) : Nat → Int
  | 0 => L s
  | i + 1 => if s.testBit i = true ∧ A i = true ∧ ¬ L (s ^^^ 2 ^ i) = U ∧ L (s ^^^ 2 ^ i) + c i < jdf A c U L s i then L (s ^^^ 2 ^ i) + c i else jdf A c U L s i
def jdp (A : Nat → Nat → Bool) (c : Nat → Nat → Int) (b U : Int) : Nat → Nat → Int
  | 0 => fun s => if s = 0 then b else U
  | t + 1 => fun s => jdf (A t) (c t) U (jdp A c b U t) s 6
theorem jdf_s {A : Nat → Bool} {c : Nat → Int} {U : Int} {L : Nat → Int} {s : Nat} (i : Nat) : jdf A c U L s (i + 1) = if s.testBit i = true ∧ A i = true ∧ ¬ L (s ^^^ 2 ^ i) = U ∧ L (s ^^^ 2 ^ i) + c i < jdf A c U L s i then L (s ^^^ 2 ^ i) + c i else jdf A c U L s i := rfl
theorem jdf_0 {A : Nat → Bool} {c : Nat → Int} {U : Int} {L : Nat → Int} {s : Nat} : ∀ n : Nat, jdf A c U L s n ≤ L s
  | 0 => Int.le_refl _
  | n + 1 => by
      have ih := jdf_0 (A := A) (c := c) (U := U) (L := L) (s := s) n
      rw [jdf_s]
      by_cases z : s.testBit n = true ∧ A n = true ∧ ¬ L (s ^^^ 2 ^ n) = U ∧ L (s ^^^ 2 ^ n) + c n < jdf A c U L s n
      · rw [if_pos z]; have := z.2.2.2; omega
      · rw [if_neg z]; exact ih
theorem jdf_le {A : Nat → Bool} {c : Nat → Int} {U : Int} {L : Nat → Int} {s i : Nat} (b : s.testBit i = true) (a : A i = true) (u : ¬ L (s ^^^ 2 ^ i) = U) : ∀ n : Nat, i < n → jdf A c U L s n ≤ L (s ^^^ 2 ^ i) + c i
  | 0, h => absurd h (by omega)
  | n + 1, h => by
      rw [jdf_s]
      by_cases z : s.testBit n = true ∧ A n = true ∧ ¬ L (s ^^^ 2 ^ n) = U ∧ L (s ^^^ 2 ^ n) + c n < jdf A c U L s n
      · rw [if_pos z]
        by_cases y : i = n
        · subst y; exact Int.le_refl _
        · have ih := jdf_le (c := c) b a u n (by omega)
          have := z.2.2.2; omega
      · rw [if_neg z]
        by_cases y : i = n
        · subst y
          by_cases w : L (s ^^^ 2 ^ i) + c i < jdf A c U L s i
          · exact absurd ⟨b, a, u, w⟩ z
          · omega
        · exact jdf_le (c := c) b a u n (by omega)
theorem jdf_at {A : Nat → Bool} {c : Nat → Int} {U : Int} {L : Nat → Int} {s : Nat} : ∀ n : Nat, jdf A c U L s n = L s ∨ ∃ i : Nat, i < n ∧ s.testBit i = true ∧ A i = true ∧ ¬ L (s ^^^ 2 ^ i) = U ∧ jdf A c U L s n = L (s ^^^ 2 ^ i) + c i
  | 0 => Or.inl rfl
  | n + 1 => by
      rw [jdf_s]
      by_cases z : s.testBit n = true ∧ A n = true ∧ ¬ L (s ^^^ 2 ^ n) = U ∧ L (s ^^^ 2 ^ n) + c n < jdf A c U L s n
      · rw [if_pos z]; exact Or.inr ⟨n, by omega, z.1, z.2.1, z.2.2.1, rfl⟩
      · rw [if_neg z]
        rcases jdf_at (A := A) (c := c) (U := U) (L := L) (s := s) n with q | ⟨i, h, q⟩
        · exact Or.inl q
        · exact Or.inr ⟨i, by omega, q⟩
/-- tree by part, 40: none -/
def jVd (A : Nat → Nat → Bool) (t : Nat) (d : Nat → Nat) : Prop := (∀ i : Nat, i < 6 → d i = 40 ∨ (d i < t ∧ A (d i) i = true)) ∧ ∀ i j : Nat, i < 6 → j < 6 → ¬ d i = 40 → d i = d j → i = j
def jcs (c : Nat → Nat → Int) (d : Nat → Nat) : Int := jsg (fun i => if d i = 40 then 0 else c (d i) i) 6
def jBt (s : Nat) (d : Nat → Nat) : Prop := ∀ i : Nat, i < 6 → (s.testBit i = true ↔ ¬ d i = 40)
theorem jcs_b {A : Nat → Nat → Bool} {c : Nat → Nat → Int} {t : Nat} {d : Nat → Nat} {K : Int} (hK : ∀ t i : Nat, A t i = true → c t i ≤ K) (h0 : 0 ≤ K) (v : jVd A t d) : jcs c d ≤ 6 * K := by
  have p : ∀ i : Nat, i < 6 → (if d i = 40 then 0 else c (d i) i) ≤ K := fun i hi => by
    by_cases z : d i = 40
    · rw [if_pos z]; exact h0
    · rw [if_neg z]
      rcases v.1 i hi with q | q
      · exact absurd q z
      · exact hK _ _ q.2
  unfold jcs
  rw [jsg6]
  have p0 := p 0 (by decide); have p1 := p 1 (by decide); have p2 := p 2 (by decide); have p3 := p 3 (by decide); have p4 := p 4 (by decide); have p5 := p 5 (by decide)
  omega
theorem jdp_le {A : Nat → Nat → Bool} {c : Nat → Nat → Int} {b U K : Int} (hK : ∀ t i : Nat, A t i = true → c t i ≤ K) (h0 : 0 ≤ K) (hU : b + 6 * K < U) : ∀ (t : Nat), t ≤ 40 → ∀ (s : Nat) (d : Nat → Nat), s < 64 → jBt s d → jVd A t d → jdp A c b U t s ≤ b + jcs c d
  | 0, _, s, d, hs, hb, v => by
      have e : ∀ i : Nat, i < 6 → d i = 40 := fun i hi => by
        rcases v.1 i hi with q | q
        · exact q
        · exact absurd q.1 (by omega)
      have z : s = 0 := jq_0 hs (fun i hi => by
        cases w : s.testBit i with
        | false => rfl
        | true => exact absurd (e i hi) ((hb i hi).1 w))
      have y : jcs c d = 0 := jsg_z 6 (fun i hi => if_pos (e i hi))
      subst z
      rw [y]
      show (if (0 : Nat) = 0 then b else U) ≤ b + 0
      rw [if_pos rfl]; omega
  | t + 1, ht, s, d, hs, hb, v => by
      show jdf (A t) (c t) U (jdp A c b U t) s 6 ≤ _
      by_cases ex : ∃ i : Nat, i < 6 ∧ d i = t
      · obtain ⟨i, hi, di⟩ := ex
        have n40 : ¬ d i = 40 := by omega
        have bi : s.testBit i = true := (hb i hi).2 n40
        have ai : A t i = true := by
          rcases v.1 i hi with q | q
          · exact absurd q n40
          · rw [← di]; exact q.2
        obtain ⟨x1, x2, _⟩ := jq_x hs hi
        have hb' : jBt (s ^^^ 2 ^ i) (fun j => if j = i then 40 else d j) := fun j hj => by
          rw [x1 j hj]
          by_cases z : j = i
          · rw [if_pos z, bi]
            show _ ↔ ¬ (if j = i then 40 else d j) = 40
            rw [if_pos z]
            exact ⟨fun q => absurd q (by decide), fun q => absurd rfl q⟩
          · rw [if_neg z]
            show _ ↔ ¬ (if j = i then 40 else d j) = 40
            rw [if_neg z]
            exact hb j hj
        have v' : jVd A t (fun j => if j = i then 40 else d j) := by
          refine ⟨fun j hj => ?_, fun j k hj hk => ?_⟩
          · show (if j = i then 40 else d j) = 40 ∨ ((if j = i then 40 else d j) < t ∧ A (if j = i then 40 else d j) j = true)
            by_cases z : j = i
            · rw [if_pos z]; exact Or.inl rfl
            · rw [if_neg z]
              rcases v.1 j hj with q | q
              · exact Or.inl q
              · refine Or.inr ⟨?_, q.2⟩
                by_cases y : d j = t
                · exact absurd (v.2 i j hi hj n40 (by omega)) (fun w => z w.symm)
                · have := q.1; omega
          · show ¬ (if j = i then 40 else d j) = 40 → (if j = i then 40 else d j) = (if k = i then 40 else d k) → j = k
            by_cases z : j = i
            · rw [if_pos z]; exact fun q => absurd rfl q
            · rw [if_neg z]
              intro q
              by_cases y : k = i
              · rw [if_pos y]; exact fun w => absurd w q
              · rw [if_neg y]; exact fun w => v.2 j k hj hk q w
        have ih := jdp_le hK h0 hU t (by omega) _ _ x2 hb' v'
        have kb := jcs_b hK h0 v'
        have sum : jcs c d = jcs c (fun j => if j = i then 40 else d j) + c t i := by
          unfold jcs
          rw [jsg_one (j := i) (f := fun i => if d i = 40 then 0 else c (d i) i) (g := fun k => if (if k = i then 40 else d k) = 40 then 0 else c (if k = i then 40 else d k) k) 6 hi (fun k hk nk => by
            show (if d k = 40 then 0 else c (d k) k) = (if (if k = i then 40 else d k) = 40 then 0 else c (if k = i then 40 else d k) k)
            rw [if_neg nk])]
          show jsg (fun k => if (if k = i then 40 else d k) = 40 then 0 else c (if k = i then 40 else d k) k) 6 + ((if d i = 40 then 0 else c (d i) i) - (if (if i = i then 40 else d i) = 40 then 0 else c (if i = i then 40 else d i) i)) = jsg (fun k => if (if k = i then 40 else d k) = 40 then 0 else c (if k = i then 40 else d k) k) 6 + c t i
          rw [if_neg n40, if_pos (show (if i = i then 40 else d i) = 40 from if_pos rfl), di]
          omega
        have le := jdf_le (A := A t) (c := c t) (U := U) (L := jdp A c b U t) bi ai (by omega) 6 hi
        omega
      · have v' : jVd A t d := ⟨fun i hi => by
          rcases v.1 i hi with q | q
          · exact Or.inl q
          · refine Or.inr ⟨?_, q.2⟩
            by_cases y : d i = t
            · exact absurd ⟨i, hi, y⟩ ex
            · have := q.1; omega, v.2⟩
        have ih := jdp_le hK h0 hU t (by omega) s d hs hb v'
        have le := jdf_0 (A := A t) (c := c t) (U := U) (L := jdp A c b U t) (s := s) 6
        omega
theorem jdp_at {A : Nat → Nat → Bool} {c : Nat → Nat → Int} {b U : Int} : ∀ (t : Nat), t ≤ 40 → ∀ (s : Nat), s < 64 → jdp A c b U t s = U ∨ ∃ d : Nat → Nat, jBt s d ∧ jVd A t d ∧ jdp A c b U t s = b + jcs c d
  | 0, _, s, hs => by
      show (if s = 0 then b else U) = U ∨ _
      by_cases z : s = 0
      · subst z
        refine Or.inr ⟨fun _ => 40, fun i hi => ?_, ⟨fun i hi => Or.inl rfl, fun i j _ _ q => absurd rfl q⟩, ?_⟩
        · rw [Nat.zero_testBit]; exact ⟨fun q => absurd q (by decide), fun q => absurd rfl q⟩
        · have y : jcs c (fun _ => 40) = 0 := jsg_z 6 (fun i hi => if_pos rfl)
          rw [y]
          show (if (0 : Nat) = 0 then b else U) = b + 0
          rw [if_pos rfl]; omega
      · rw [if_neg z]; exact Or.inl rfl
  | t + 1, ht, s, hs => by
      show jdf (A t) (c t) U (jdp A c b U t) s 6 = U ∨ ∃ d : Nat → Nat, jBt s d ∧ jVd A (t + 1) d ∧ jdf (A t) (c t) U (jdp A c b U t) s 6 = b + jcs c d
      have up : ∀ d : Nat → Nat, jVd A t d → jVd A (t + 1) d := fun d v => ⟨fun i hi => by
        rcases v.1 i hi with q | q
        · exact Or.inl q
        · exact Or.inr ⟨by have := q.1; omega, q.2⟩, v.2⟩
      rcases jdf_at (A := A t) (c := c t) (U := U) (L := jdp A c b U t) (s := s) 6 with e | ⟨i, hi, bi, ai, u, e⟩
      · rw [e]
        rcases jdp_at (A := A) (c := c) (b := b) (U := U) t (by omega) s hs with q | ⟨d, q1, q2, q3⟩
        · exact Or.inl q
        · exact Or.inr ⟨d, q1, up d q2, q3⟩
      · obtain ⟨x1, x2, _⟩ := jq_x hs hi
        rcases jdp_at (A := A) (c := c) (b := b) (U := U) t (by omega) _ x2 with q | ⟨d, q1, q2, q3⟩
        · exact absurd q u
        · refine Or.inr ⟨fun j => if j = i then t else d j, fun j hj => ?_, ⟨fun j hj => ?_, fun j k hj hk => ?_⟩, ?_⟩
          · show _ ↔ ¬ (if j = i then t else d j) = 40
            by_cases z : j = i
            · rw [if_pos z, z]; exact ⟨fun _ => by omega, fun _ => bi⟩
            · rw [if_neg z, ← q1 j hj, x1 j hj, if_neg z]
          · show (if j = i then t else d j) = 40 ∨ ((if j = i then t else d j) < t + 1 ∧ A (if j = i then t else d j) j = true)
            by_cases z : j = i
            · rw [if_pos z, z]; exact Or.inr ⟨by omega, ai⟩
            · rw [if_neg z]; exact (up d q2).1 j hj
          · show ¬ (if j = i then t else d j) = 40 → (if j = i then t else d j) = (if k = i then t else d k) → j = k
            have lt : ∀ m : Nat, m < 6 → ¬ d m = 40 → d m < t := fun m hm w => by
              rcases q2.1 m hm with q | q
              · exact absurd q w
              · exact q.1
            by_cases z : j = i
            · rw [if_pos z]
              by_cases y : k = i
              · intro _ _; omega
              · rw [if_neg y]
                intro _ w
                have := lt k hk (by omega); omega
            · rw [if_neg z]
              intro w
              by_cases y : k = i
              · rw [if_pos y]; intro w2
                have := lt j hj w; omega
              · rw [if_neg y]; exact fun w2 => q2.2 j k hj hk w w2
          · rw [e, q3]
            have d40 : d i = 40 := by
              by_cases w : d i = 40
              · exact w
              · have w2 := (q1 i hi).2 w
                rw [x1 i hi, if_pos rfl, bi] at w2
                exact absurd w2 (by decide)
            have sum : jcs c (fun j => if j = i then t else d j) = jcs c d + c t i := by
              unfold jcs
              rw [jsg_one (j := i) (f := fun k => if (if k = i then t else d k) = 40 then 0 else c (if k = i then t else d k) k) (g := fun i => if d i = 40 then 0 else c (d i) i) 6 hi (fun k hk nk => by
                show (if (if k = i then t else d k) = 40 then 0 else c (if k = i then t else d k) k) = (if d k = 40 then 0 else c (d k) k)
                rw [if_neg nk])]
              show _ + ((if (if i = i then t else d i) = 40 then 0 else c (if i = i then t else d i) i) - (if d i = 40 then 0 else c (d i) i)) = _
              rw [if_pos d40, if_pos (rfl : i = i), if_neg (show ¬ t = 40 by omega)]
              omega
            rw [sum]; omega
theorem jdp_U {A : Nat → Nat → Bool} {c : Nat → Nat → Int} {b U : Int} (h : b ≤ U) : ∀ t s : Nat, jdp A c b U t s ≤ U
  | 0, s => by
      show (if s = 0 then b else U) ≤ U
      by_cases z : s = 0
      · rw [if_pos z]; exact h
      · rw [if_neg z]; exact Int.le_refl _
  | t + 1, s => Int.le_trans (jdf_0 6) (jdp_U h t s)
/-- a set for digits -/
theorem jBt_ex (d : Nat → Nat) : ∃ s : Nat, s < 64 ∧ jBt s d := by
  obtain ⟨s, h, e⟩ := jq_m (fun i => decide (¬ d i = 40))
  exact ⟨s, h, fun i hi => by rw [e i hi]; exact decide_eq_true_iff⟩
def jcn (d : Nat → Nat) : Int := jcs (fun _ _ => 1) d
theorem jcn_pop {s : Nat} {d : Nat → Nat} (h : jBt s d) : jpp s = jcn d := jsg_c 6 (fun i hi => by
  show (if s.testBit i = true then (1 : Int) else 0) = (if d i = 40 then 0 else 1)
  by_cases z : d i = 40
  · rw [if_pos z, if_neg (fun w => (h i hi).1 w z)]
  · rw [if_neg z, if_pos ((h i hi).2 z)])
/-- the least of all -/
theorem jbest {A : Nat → Nat → Bool} {c : Nat → Nat → Int} {b U K v : Int} {T n : Nat} (hT : T ≤ 40) (hn : n ≤ 6) (hA : ∀ t i : Nat, A t i = true → i < n) (hK : ∀ t i : Nat, A t i = true → c t i ≤ K) (h0 : 0 ≤ K) (hU : b + 6 * K < U)
    (h1 : ∀ s : Nat, s < 2 ^ n → v ≤ jdp A c b U T s) (h2 : ∃ s : Nat, s < 2 ^ n ∧ v = jdp A c b U T s) : ∃ d : Nat → Nat, jVd A T d ∧ v = b + jcs c d ∧ ∀ d' : Nat → Nat, jVd A T d' → v ≤ b + jcs c d' := by
  have all : ∀ d' : Nat → Nat, jVd A T d' → v ≤ b + jcs c d' := fun d' v' => by
    obtain ⟨s, hs, hb⟩ := jBt_ex d'
    have sn : s < 2 ^ n := (jq_n hn hs).2 (fun i hi w => by
      rcases v'.1 i hi with q | q
      · exact absurd q ((hb i hi).1 w)
      · exact hA _ _ q.2)
    exact Int.le_trans (h1 s sn) (jdp_le hK h0 hU T hT s d' hs hb v')
  obtain ⟨s, hs, e⟩ := h2
  rcases jdp_at (A := A) (c := c) (b := b) (U := U) T hT s (Nat.lt_of_lt_of_le hs (jq_64 hn)) with q | ⟨d, _, q2, q3⟩
  · have w := all (fun _ => 40) ⟨fun i hi => Or.inl rfl, fun i j _ _ q => absurd rfl q⟩
    have y : jcs c (fun _ => 40) = 0 := jsg_z 6 (fun i hi => if_pos rfl)
    omega
  · exact ⟨d, q2, by omega, all⟩
/-- the most of all, and of those the least waste -/
theorem jmost {A : Nat → Nat → Bool} {c : Nat → Nat → Int} {U K bM bW : Int} {T : Nat} (hT : T ≤ 40) (hK : ∀ t i : Nat, A t i = true → c t i ≤ K) (h0 : 0 ≤ K) (hU : 6 * K < U)
    (h1 : ∀ s : Nat, s < 64 → ¬ jdp A c 0 U T s = U → jpp s < bM ∨ (jpp s = bM ∧ bW ≤ jdp A c 0 U T s)) (h2 : ∃ s : Nat, s < 64 ∧ ¬ jdp A c 0 U T s = U ∧ jpp s = bM ∧ bW = jdp A c 0 U T s) :
    (∃ d : Nat → Nat, jVd A T d ∧ jcn d = bM ∧ jcs c d = bW) ∧ ∀ d : Nat → Nat, jVd A T d → jcn d < bM ∨ (jcn d = bM ∧ bW ≤ jcs c d) := by
  constructor
  · obtain ⟨s, hs, u, e1, e2⟩ := h2
    rcases jdp_at (A := A) (c := c) (b := 0) (U := U) T hT s hs with q | ⟨d, q1, q2, q3⟩
    · exact absurd q u
    · exact ⟨d, q2, by rw [← jcn_pop q1]; exact e1, by omega⟩
  · intro d v
    obtain ⟨s, hs, hb⟩ := jBt_ex d
    have le := jdp_le (b := 0) (U := U) hK h0 (by omega) T hT s d hs hb v
    have kb := jcs_b hK h0 v
    have w := h1 s hs (by omega)
    rw [jcn_pop hb] at w
    omega
