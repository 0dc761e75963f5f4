/-! ===== DECREES IN FORCE: rows as functions ===== -/
def jsl (k c : Int) : Int := if k = 0 then c else if k = 1 then 4 + c else if k = 2 then 8 else 9
/-- what stands in slot t when the first n decrees of a row have been gone through -/
def jov (S N : Int → Int) : Nat → Int → Int
  | 0, t => if t = 9 then 60 else 0
  | n + 1, t => if S n = t then N n else jov S N n t
/-- the last decree of slot s that is not behind day d, of the first n: its number and day -/
def jcv (S N D : Int → Int) (s d : Int) : Nat → Int × Int
  | 0 => (if s = 9 then 60 else 0, -1)
  | n + 1 => if S n = s ∧ D n ≤ d then (N n, D n) else jcv S N D s d n
/-- the reference's search -/
def jmv (K C N D : Int → Int) (k c d : Int) : Nat → Int × Int
  | 0 => (if k = 3 then 60 else 0, -1)
  | n + 1 => if (K n = k ∧ (1 < k ∨ C n = c) ∧ D n ≤ d) ∧ (jmv K C N D k c d n).2 ≤ D n then (N n, D n) else jmv K C N D k c d n
theorem jmv_s {K C N D : Int → Int} {k c d i : Int} (h : 0 ≤ i) : jmv K C N D k c d (i + 1).toNat = if (K i = k ∧ (1 < k ∨ C i = c) ∧ D i ≤ d) ∧ (jmv K C N D k c d i.toNat).2 ≤ D i then (N i, D i) else jmv K C N D k c d i.toNat := by
  obtain ⟨n, rfl⟩ := Int.eq_ofNat_of_zero_le h
  rfl
theorem jov_s {S N : Int → Int} {t i : Int} (h : 0 ≤ i) : jov S N (i + 1).toNat t = if S i = t then N i else jov S N i.toNat t := by
  obtain ⟨n, rfl⟩ := Int.eq_ofNat_of_zero_le h
  rfl
def jCo (h : JH) : Prop := ∀ t : Int, 0 ≤ t → t ≤ 9 → h 15 t = jov (h 12) (h 13) (h 11 5).toNat t
theorem jfn {h g : JH} {A : Int} (e : ∀ k : Int, g A k = h A k) : g A = h A := funext e
theorem jCo_st {g G : JH} (q : jCo g) (h0 : 0 ≤ g 11 5) (e2 : ∀ k : Int, G 12 k = g 12 k) (e3 : ∀ k : Int, G 13 k = g 13 k) (e5 : G 11 5 = g 11 5 + 1) (e15 : ∀ t : Int, G 15 t = if t = g 12 (g 11 5) then g 13 (g 11 5) else g 15 t) : jCo G := fun t a b => by
  rw [jfn e2, jfn e3, e5, jov_s h0, e15 t]
  by_cases z : g 12 (g 11 5) = t
  · rw [if_pos z, if_pos z.symm]
  · rw [if_neg z, if_neg (fun y => z y.symm)]; exact q t a b
theorem jcv_all {S N D : Int → Int} {s d : Int} : ∀ n : Nat, (∀ j : Nat, j < n → D j ≤ d) → (jcv S N D s d n).1 = jov S N n s
  | 0, _ => rfl
  | n + 1, h => by
      have ih := jcv_all (S := S) (N := N) (s := s) n (fun j hj => h j (by omega))
      show (if S n = s ∧ D n ≤ d then (N n, D n) else jcv S N D s d n).1 = if S n = s then N n else jov S N n s
      by_cases z : S n = s
      · rw [if_pos z, if_pos ⟨z, h n (by omega)⟩]
      · rw [if_neg z, if_neg (fun y => z y.1)]; exact ih
theorem jov_cv {S N D : Int → Int} {s d : Int} {p : Nat} (h1 : ∀ j : Nat, j < p → D j ≤ d) : ∀ n : Nat, p ≤ n → (∀ j : Nat, p ≤ j → j < n → d < D j) → (jcv S N D s d n).1 = jov S N p s
  | 0, hp, _ => by
      have : p = 0 := by omega
      subst this; rfl
  | n + 1, hp, h2 => by
      by_cases z : p = n + 1
      · subst z; exact jcv_all _ h1
      · have ih := jov_cv (S := S) (N := N) (s := s) h1 n (by omega) (fun j a b => h2 j a (by omega))
        have h3 := h2 n (by omega) (by omega)
        show (if S n = s ∧ D n ≤ d then (N n, D n) else jcv S N D s d n).1 = _
        rw [if_neg (fun y => by have := y.2; omega)]
        exact ih
theorem jcv_eq {S N D S' N' D' : Int → Int} {s d : Int} : ∀ n : Nat, (∀ j : Nat, j < n → S' j = S j ∧ N' j = N j ∧ D' j = D j) → jcv S' N' D' s d n = jcv S N D s d n
  | 0, _ => rfl
  | n + 1, h => by
      obtain ⟨a, b, c⟩ := h n (by omega)
      show (if S' n = s ∧ D' n ≤ d then (N' n, D' n) else jcv S' N' D' s d n) = if S n = s ∧ D n ≤ d then (N n, D n) else jcv S N D s d n
      rw [a, b, c, jcv_eq n (fun j hj => h j (by omega))]
theorem jmv_eq {K C N D K' C' N' D' : Int → Int} {k c d : Int} : ∀ n : Nat, (∀ j : Nat, j < n → K' j = K j ∧ C' j = C j ∧ N' j = N j ∧ D' j = D j) → jmv K' C' N' D' k c d n = jmv K C N D k c d n
  | 0, _ => rfl
  | n + 1, h => by
      obtain ⟨a, b, e, f⟩ := h n (by omega)
      show (if (K' n = k ∧ (1 < k ∨ C' n = c) ∧ D' n ≤ d) ∧ (jmv K' C' N' D' k c d n).2 ≤ D' n then (N' n, D' n) else jmv K' C' N' D' k c d n) = if (K n = k ∧ (1 < k ∨ C n = c) ∧ D n ≤ d) ∧ (jmv K C N D k c d n).2 ≤ D n then (N n, D n) else jmv K C N D k c d n
      rw [a, b, e, f, jmv_eq n (fun j hj => h j (by omega))]
theorem jcv_le {S N D : Int → Int} {s d d0 : Int} (h0 : -1 ≤ d0) : ∀ n : Nat, (∀ j : Nat, j < n → D j ≤ d0) → (jcv S N D s d n).2 ≤ d0
  | 0, _ => h0
  | n + 1, h => by
      show (if S n = s ∧ D n ≤ d then (N n, D n) else jcv S N D s d n).2 ≤ d0
      by_cases z : S n = s ∧ D n ≤ d
      · rw [if_pos z]; exact h n (by omega)
      · rw [if_neg z]; exact jcv_le h0 n (fun j hj => h j (by omega))
/-- a decree put in behind those that are not behind its day -/
theorem jcv_ins {S N D S' N' D' : Int → Int} {s d s0 n0 d0 : Int} {p n : Nat} (h0 : -1 ≤ d0) (a1 : ∀ j : Nat, j < p → S' j = S j ∧ N' j = N j ∧ D' j = D j) (a2 : S' p = s0 ∧ N' p = n0 ∧ D' p = d0) (a3 : ∀ j : Nat, p ≤ j → j < n → S' (j + 1 : Nat) = S j ∧ N' (j + 1 : Nat) = N j ∧ D' (j + 1 : Nat) = D j) (a4 : ∀ j : Nat, j < p → D j ≤ d0) (a5 : ∀ j : Nat, p ≤ j → j < n → d0 < D j) :
    ∀ m : Nat, p ≤ m → m ≤ n → jcv S' N' D' s d (m + 1) = if (s0 = s ∧ d0 ≤ d) ∧ (jcv S N D s d m).2 ≤ d0 then (n0, d0) else jcv S N D s d m := by
  have base : jcv S' N' D' s d (p + 1) = if (s0 = s ∧ d0 ≤ d) ∧ (jcv S N D s d p).2 ≤ d0 then (n0, d0) else jcv S N D s d p := by
    show (if S' p = s ∧ D' p ≤ d then (N' p, D' p) else jcv S' N' D' s d p) = _
    rw [a2.1, a2.2.1, a2.2.2, jcv_eq p a1]
    have h1 : (jcv S N D s d p).2 ≤ d0 := jcv_le h0 p a4
    by_cases y : s0 = s ∧ d0 ≤ d
    · rw [if_pos y, if_pos ⟨y, h1⟩]
    · rw [if_neg y, if_neg (fun w => y w.1)]
  intro m
  induction m with
  | zero =>
      intro hp hm
      have z : p = 0 := by omega
      rw [z] at base
      exact base
  | succ m' ih =>
      intro hp hm
      by_cases z : p = m' + 1
      · rw [z] at base
        exact base
      · have ih := ih (by omega) (by omega)
        obtain ⟨b1, b2, b3⟩ := a3 m' (by omega) (by omega)
        have b4 := a5 m' (by omega) (by omega)
        show (if S' (m' + 1 : Nat) = s ∧ D' (m' + 1 : Nat) ≤ d then (N' (m' + 1 : Nat), D' (m' + 1 : Nat)) else jcv S' N' D' s d (m' + 1)) = if (s0 = s ∧ d0 ≤ d) ∧ (if S m' = s ∧ D m' ≤ d then (N m', D m') else jcv S N D s d m').2 ≤ d0 then (n0, d0) else (if S m' = s ∧ D m' ≤ d then (N m', D m') else jcv S N D s d m')
        rw [b1, b2, b3, ih]
        by_cases y : S m' = s ∧ D m' ≤ d
        · rw [if_pos y, if_pos y, if_neg (fun w => by have : D m' ≤ d0 := w.2; omega)]
        · rw [if_neg y, if_neg y]
/-- what insert does -/
def jIns (s n d : Int) (h g : JH) : Prop := g 11 0 = h 11 0 + 1 ∧ ∃ p : Int, 0 ≤ p ∧ p ≤ h 11 0 ∧ (p = 0 ∨ h 14 (p - 1) ≤ d) ∧ (∀ i j : Int, 12 ≤ i → i ≤ 14 → 0 ≤ j → j < p → g i j = h i j) ∧ (∀ i j : Int, 12 ≤ i → i ≤ 14 → p ≤ j → j < h 11 0 → g i (j + 1) = h i j) ∧ (∀ j : Int, p ≤ j → j < h 11 0 → d < h 14 j) ∧ g 12 p = s ∧ g 13 p = n ∧ g 14 p = d
theorem jIns_fr {s n d : Int} {h h' g : JH} (e : ∀ i k : Int, 11 ≤ i → i ≤ 14 → (i = 11 → k = 0) → h' i k = h i k) (q : jIns s n d h' g) : jIns s n d h g := by
  unfold jIns at q ⊢
  have e0 := e 11 0 (by decide) (by decide) (fun _ => rfl)
  rw [e0] at q
  obtain ⟨q1, p, q2, q3, q4, q5, q6, q7, q8⟩ := q
  refine ⟨q1, p, q2, q3, ?_, fun i j a b c f => (q5 i j a b c f).trans (e i j (by omega) b (by omega)), fun i j a b c f => (q6 i j a b c f).trans (e i j (by omega) b (by omega)), fun j a b => ?_, q8⟩
  · rw [← e 14 (p - 1) (by decide) (by decide) (fun z => absurd z (by decide))]; exact q4
  · rw [← e 14 j (by decide) (by decide) (fun z => absurd z (by decide))]; exact q7 j a b
