/-! ===== THE LEAST LATE: the class ===== -/
def jcS (h : JH) : Int → Int := fun k => h (36 + 3 * k) 3
def jGa (x : Int) (h g : JH) : Prop := g 111 2 = (jull (jcS h) x.toNat).length ∧ (jull (jcS h) x.toNat).length ≤ 5 ∧ ∀ i : Nat, i < (jull (jcS h) x.toNat).length → g 175 i = (jull (jcS h) x.toNat).getD i 0
theorem jull_s {S : Int → Int} {x : Int} (h0 : 0 ≤ x) : jull S (x + 1).toNat = if S x = 0 ∨ S x = 1 then jull S x.toNat ++ [x] else jull S x.toNat := by
  obtain ⟨n, rfl⟩ := Int.eq_ofNat_of_zero_le h0
  rfl
theorem jGa_n {x : Int} {h g : JH} (h0 : 0 ≤ x) (n : ¬ (h (36 + 3 * x) 3 = 0 ∨ h (36 + 3 * x) 3 = 1)) (I : jGa x h g) : jGa (x + 1) h g := by
  unfold jGa
  rw [jull_s h0, if_neg (show ¬ (jcS h x = 0 ∨ jcS h x = 1) from n)]
  exact I
theorem jGa_y {x : Int} {h g g1 g2 : JH} (h0 : 0 ≤ x) (y : h (36 + 3 * x) 3 = 0 ∨ h (36 + 3 * x) 3 = 1) (c : g 111 2 < 5) (e1 : g1 = jup g 175 (g 111 2) x) (e2 : g2 = jup g1 111 2 (g 111 2 + 1)) (I : jGa x h g) : jGa (x + 1) h g2 := by
  obtain ⟨i1, i2, i3⟩ := I
  unfold jGa
  rw [jull_s h0, if_pos (show jcS h x = 0 ∨ jcS h x = 1 from y)]
  generalize jull (jcS h) x.toNat = l at i1 i2 i3
  rw [List.length_append, List.length_singleton]
  refine ⟨by rw [jup_s e2]; omega, by omega, fun i hi => ?_⟩
  rw [jup_o e2 (by omega)]
  by_cases z : i = l.length
  · rw [show ((i : Nat) : Int) = g 111 2 by omega, jup_s e1, List.getD_eq_getElem?_getD, List.getElem?_append_right (by omega), show i - l.length = 0 by omega]
    rfl
  · rw [jup_o e1 (by omega), i3 i (by omega), List.getD_eq_getElem?_getD, List.getD_eq_getElem?_getD, List.getElem?_append_left (by omega)]
def jGaP (h g : JH) : Prop := (jull (jcS h) (h 29 4).toNat).length ≤ 5 → g 111 2 = (jull (jcS h) (h 29 4).toNat).length ∧ ∀ i : Nat, i < (jull (jcS h) (h 29 4).toNat).length → g 175 i = (jull (jcS h) (h 29 4).toNat).getD i 0
theorem jGa_e {x : Int} {h g : JH} (h0 : 0 ≤ x) (hx : x ≤ h 29 4) (ex : h 29 4 ≤ x ∨ 5 ≤ g 111 2) (I : jGa x h g) : jGaP h g := fun L5 => by
  obtain ⟨i1, i2, i3⟩ := I
  obtain ⟨t, e⟩ := jull_up (S := jcS h) x.toNat (h 29 4).toNat (by omega)
  have t0 : t = [] := by
    rcases ex with z | z
    · have q : x = h 29 4 := by omega
      rw [q] at e
      exact (List.append_right_eq_self.1 e.symm)
    · rw [e, List.length_append] at L5
      exact List.eq_nil_of_length_eq_zero (by omega)
  rw [t0, List.append_nil] at e
  rw [e]
  exact ⟨i1, i3⟩
def jsc3 (h : JH) : Nat → Int
  | 0 => 0
  | n + 1 => jw32 (jsc3 h n + jlt (h (126 + 3 * h 175 n) 9) (h (126 + 3 * h 175 n) 2) (h 111 3))
theorem jsc3_s {h : JH} {x : Int} (h0 : 0 ≤ x) : jsc3 h (x + 1).toNat = jw32 (jsc3 h x.toNat + jlt (h (126 + 3 * h 175 x) 9) (h (126 + 3 * h 175 x) 2) (h 111 3)) := by
  obtain ⟨n, rfl⟩ := Int.eq_ofNat_of_zero_le h0
  rfl
theorem jsw_u {h : JH} {a b i : Int} : jup (jup h 175 a (h 175 b)) 175 b (h 175 a) 175 i = jsw a b (h 175) i := by
  unfold jsw
  by_cases z : i = b
  · rw [z, jup_eq, if_pos rfl]
  · rw [jup_ne (fun q => z q.2), if_neg z]
    by_cases y : i = a
    · rw [y, jup_eq, if_pos rfl]
    · rw [jup_ne (fun q => y q.2), if_neg y]
theorem jn1_s {T : Int → Int} {a : Int} (h : 0 ≤ a ∧ T (a + 1) < T a) : jn1 T (a + 2).toNat a = jn1 T (a - 1 + 2).toNat (a - 1) := by
  rw [show (a + 2).toNat = (a - 1 + 2).toNat + 1 by omega]
  exact if_pos h
theorem jn1_e {T : Int → Int} {a : Int} (h0 : -1 ≤ a) (h : ¬ (0 ≤ a ∧ T (a + 1) < T a)) : jn1 T (a + 2).toNat a = a := by
  rw [show (a + 2).toNat = (a + 1).toNat + 1 by omega]
  exact if_neg h
theorem jn2_s {T : Int → Int} {a o : Int} (h : a + 1 < o ∧ T o < T a) : jn2 T a (o - a).toNat o = jn2 T a (o - 1 - a).toNat (o - 1) := by
  rw [show (o - a).toNat = (o - 1 - a).toNat + 1 by omega]
  exact if_pos h
theorem jn2_e {T : Int → Int} {a o : Int} (h0 : a < o) (h : ¬ (a + 1 < o ∧ T o < T a)) : jn2 T a (o - a).toNat o = o := by
  rw [show (o - a).toNat = (o - 1 - a).toNat + 1 by omega]
  exact if_neg h
theorem jn3_s {lo hi : Int} {T : Int → Int} (h : lo < hi) (h0 : 0 ≤ hi) : jn3 (hi + 1).toNat lo hi T = jn3 (hi - 1 + 1).toNat (lo + 1) (hi - 1) (jsw lo hi T) := by
  rw [show (hi + 1).toNat = (hi - 1 + 1).toNat + 1 by omega]
  exact if_pos h
theorem jn3_e {lo hi : Int} {T : Int → Int} (h : ¬ lo < hi) : ∀ f : Nat, jn3 f lo hi T = T
  | 0 => rfl
  | _ + 1 => if_neg h
/-! a whole run of 300 days in a yard of thought -/
def jTy (A n : Int) (h : JH) : JH := fun i k => if i = 120 then h 30 k else if i = 121 then h 31 k else if i = 124 then h A k else if i = 119 ∧ k = 6 then n else if 126 ≤ i ∧ i ≤ 173 then h (i - 90) k else h i k
theorem jTy_e {A n i k : Int} {h : JH} : jTy A n h i k = if i = 120 then h 30 k else if i = 121 then h 31 k else if i = 124 then h A k else if i = 119 ∧ k = 6 then n else if 126 ≤ i ∧ i ≤ 173 then h (i - 90) k else h i k := rfl
theorem jTq_key {A n : Int} {D : Int → Prop} {h hm hm' : JH} (S : jTq A n D h hm) (S' : jTq A n D h hm') : ∀ m : Nat, m ≤ 300 → ∃ g : JH, (jTl D g (jit jmPi m hm) ∧ jit jmPi m hm 176 0 = h 111 3 + m ∧ jAlF (h 111 3) g (jit jmPi m hm)) ∧ (jTl D g (jit jmPi m hm') ∧ jit jmPi m hm' 176 0 = h 111 3 + m ∧ jAlF (h 111 3) g (jit jmPi m hm')) := by
  have hD := jTq_D S
  -- the yard at the start
  have B : jBc A n h (jTy A n h) := by
    refine ⟨fun x _ _ => ?_, fun b _ _ => ?_, fun i _ _ => ?_, ?_, fun i a b => ?_⟩
    · rw [jTy_e, if_pos rfl]
    · rw [jTy_e, if_neg (by decide), if_pos rfl]
    · rw [jTy_e, if_neg (by decide), if_neg (by decide), if_pos rfl]
    · rw [jTy_e, if_neg (by decide), if_neg (by decide), if_neg (by decide), if_pos ⟨rfl, rfl⟩]
    · have l := S.2.2.2.1.1 i a b
      refine ⟨fun f _ _ => ?_, fun f _ _ => ⟨?_, ?_⟩⟩
      · rw [jTy_e, if_neg (by omega), if_neg (by omega), if_neg (by omega), if_neg (by omega), if_pos (by omega), show 126 + 3 * h A i - 90 = 36 + 3 * h A i by omega]
      · rw [jTy_e, if_neg (by omega), if_neg (by omega), if_neg (by omega), if_neg (by omega), if_pos (by omega), show 126 + 3 * h A i + 1 - 90 = 36 + 3 * h A i + 1 by omega]
      · rw [jTy_e, if_neg (by omega), if_neg (by omega), if_neg (by omega), if_neg (by omega), if_pos (by omega), show 126 + 3 * h A i + 2 - 90 = 36 + 3 * h A i + 2 by omega]
  have e : ∀ i k : Int, (18 ≤ i ∧ i ≤ 28) ∨ (114 ≤ i ∧ i ≤ 118) → jTy A n h i k = h i k := fun i k q => by
    rw [jTy_e, if_neg (by omega), if_neg (by omega), if_neg (by omega), if_neg (by omega), if_neg (by omega)]
  have I := jTI_0 B e
  generalize jTy A n h = g0 at I
  obtain ⟨T, dd, al, _, _, ln, l6, _⟩ := I D hm S
  obtain ⟨T', dd', al', _, _, _, _, _⟩ := I D hm' S'
  intro m
  induction m with
  | zero => exact fun _ => ⟨g0, ⟨T, by have q : jit jmPi 0 hm 176 0 = h 111 3 + 0 := dd; exact q, al⟩, ⟨T', by have q : jit jmPi 0 hm' 176 0 = h 111 3 + 0 := dd'; exact q, al'⟩⟩
  | succ m ih =>
      intro hm1
      obtain ⟨g, ⟨a1, a2, a3⟩, ⟨b1, b2, b3⟩⟩ := ih (by omega)
      obtain ⟨c1, c2, c3, _⟩ := jTl_day hD a1 (r := m) (by omega) (by omega) a2 a3
      obtain ⟨d1, d2, d3, _⟩ := jTl_day hD b1 (r := m) (by omega) (by omega) b2 b3
      have js : ∀ q : JH, jit jmPi (m + 1) q = jmPs (jit jmPi m q) := fun q => rfl
      rw [js, js]
      exact ⟨_, ⟨c1, by rw [c2]; omega, c3⟩, ⟨d1, by rw [d2]; omega, d3⟩⟩
theorem jTq_at {D : Int → Prop} {m : Nat} {g hm : JH} {k : Int} (T : jTl D g (jit jmPi m hm)) (d : D k) : g (119 + 7 + 3 * k) 9 = jit jmPi m hm 198 k := (T.1.2.2 _ d).1.2.2.2.2.1
theorem jTq_m {A n : Int} {D : Int → Prop} {h hm hm' : JH} (S : jTq A n D h hm) (S' : jTq A n D h hm') {m : Nat} (hm9 : m ≤ 300) : ∀ i : Int, 0 ≤ i → i < n → jit jmPi m hm 198 (h A i) = jit jmPi m hm' 198 (h A i) := fun i p q => by
  obtain ⟨g, ⟨a1, _, _⟩, ⟨b1, _, _⟩⟩ := jTq_key S S' m hm9
  have dk : D (h A i) := (S.2.2.1 _).2 ⟨i, p, q, rfl⟩
  exact (jTq_at a1 dk).symm.trans (jTq_at b1 dk)
theorem jTq_run {A n : Int} {D : Int → Prop} {h hm hm' : JH} (S : jTq A n D h hm) (S' : jTq A n D h hm') : ∀ i : Int, 0 ≤ i → i < n → jSin hm (h A i) = jSin hm' (h A i) := fun i p q => by
  unfold jSin
  exact jTq_m S S' (Nat.le_refl 300) i p q
