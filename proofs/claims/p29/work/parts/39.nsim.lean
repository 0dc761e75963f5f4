/-! ===== MATCHING (pure): which is the best ===== -/
def jW (i : Nat) : Int := jwt.getD i 0
def jN (O : Nat → Nat → Int) (d : Nat → Nat) : Int := jsg (fun i => if d i = 40 then jlk i else O (d i) i * 4750104241 + (d i : Int) * jW i) 6
def jDg (d : Nat → Nat) : Int := (d 0 : Int) * 115856201 + (d 1 : Int) * 2825761 + (d 2 : Int) * 68921 + (d 3 : Int) * 1681 + (d 4 : Int) * 41 + (d 5 : Int)
theorem jlk_n (i : Nat) : jlk i = 19456426971136 + 40 * jW i := by
  unfold jlk jW
  rw [Int.toNat_natCast]
theorem jN_e (O : Nat → Nat → Int) (d : Nat → Nat) : jN O d = (6 - jcn d) * 19456426971136 + jcs O d * 4750104241 + jDg d := by
  have p : ∀ i : Nat, (if d i = 40 then jlk i else O (d i) i * 4750104241 + (d i : Int) * jW i) = 19456426971136 - (if d i = 40 then (0 : Int) else 1) * 19456426971136 + (if d i = 40 then (0 : Int) else O (d i) i) * 4750104241 + (d i : Int) * jW i := fun i => by
    by_cases z : d i = 40
    · rw [if_pos z, if_pos z, if_pos z, jlk_n, z]
      have e40 : ((40 : Nat) : Int) = 40 := rfl
      rw [e40]; omega
    · rw [if_neg z, if_neg z, if_neg z]; omega
  have w0 : jW 0 = 115856201 := rfl
  have w1 : jW 1 = 2825761 := rfl
  have w2 : jW 2 = 68921 := rfl
  have w3 : jW 3 = 1681 := rfl
  have w4 : jW 4 = 41 := rfl
  have w5 : jW 5 = 1 := rfl
  have p0 := p 0; have p1 := p 1; have p2 := p 2; have p3 := p 3; have p4 := p 4; have p5 := p 5
  rw [w0] at p0; rw [w1] at p1; rw [w2] at p2; rw [w3] at p3; rw [w4] at p4; rw [w5] at p5
  have e1 : jN O d = (if d 0 = 40 then jlk (0 : Nat) else O (d 0) 0 * 4750104241 + (d 0 : Int) * jW 0) + (if d 1 = 40 then jlk (1 : Nat) else O (d 1) 1 * 4750104241 + (d 1 : Int) * jW 1) + (if d 2 = 40 then jlk (2 : Nat) else O (d 2) 2 * 4750104241 + (d 2 : Int) * jW 2) + (if d 3 = 40 then jlk (3 : Nat) else O (d 3) 3 * 4750104241 + (d 3 : Int) * jW 3) + (if d 4 = 40 then jlk (4 : Nat) else O (d 4) 4 * 4750104241 + (d 4 : Int) * jW 4) + (if d 5 = 40 then jlk (5 : Nat) else O (d 5) 5 * 4750104241 + (d 5 : Int) * jW 5) := jsg6 _
  have e2 : jcn d = (if d 0 = 40 then (0 : Int) else 1) + (if d 1 = 40 then (0 : Int) else 1) + (if d 2 = 40 then (0 : Int) else 1) + (if d 3 = 40 then (0 : Int) else 1) + (if d 4 = 40 then (0 : Int) else 1) + (if d 5 = 40 then (0 : Int) else 1) := jsg6 _
  have e3 : jcs O d = (if d 0 = 40 then (0 : Int) else O (d 0) 0) + (if d 1 = 40 then (0 : Int) else O (d 1) 1) + (if d 2 = 40 then (0 : Int) else O (d 2) 2) + (if d 3 = 40 then (0 : Int) else O (d 3) 3) + (if d 4 = 40 then (0 : Int) else O (d 4) 4) + (if d 5 = 40 then (0 : Int) else O (d 5) 5) := jsg6 _
  rw [w0, w1, w2, w3, w4, w5, p0, p1, p2, p3, p4, p5] at e1
  rw [e1, e2, e3]
  unfold jDg
  generalize (if d 0 = 40 then (0 : Int) else 1) = x0
  generalize (if d 1 = 40 then (0 : Int) else 1) = x1
  generalize (if d 2 = 40 then (0 : Int) else 1) = x2
  generalize (if d 3 = 40 then (0 : Int) else 1) = x3
  generalize (if d 4 = 40 then (0 : Int) else 1) = x4
  generalize (if d 5 = 40 then (0 : Int) else 1) = x5
  generalize (if d 0 = 40 then (0 : Int) else O (d 0) 0) = y0
  generalize (if d 1 = 40 then (0 : Int) else O (d 1) 1) = y1
  generalize (if d 2 = 40 then (0 : Int) else O (d 2) 2) = y2
  generalize (if d 3 = 40 then (0 : Int) else O (d 3) 3) = y3
  generalize (if d 4 = 40 then (0 : Int) else O (d 4) 4) = y4
  generalize (if d 5 = 40 then (0 : Int) else O (d 5) 5) = y5
  omega
theorem jcs_n {A : Nat → Nat → Bool} {c : Nat → Nat → Int} {t : Nat} {d : Nat → Nat} (hK : ∀ t i : Nat, A t i = true → 0 ≤ c t i) (v : jVd A t d) : 0 ≤ jcs c d := by
  have p : ∀ i : Nat, i < 6 → 0 ≤ (if d i = 40 then 0 else c (d i) i) := fun i hi => by
    by_cases z : d i = 40
    · rw [if_pos z]; exact Int.le_refl _
    · rw [if_neg z]
      rcases v.1 i hi with q | q
      · exact absurd q z
      · exact hK _ _ q.2
  unfold jcs
  rw [jsg6]
  have p0 := p 0 (by decide); have p1 := p 1 (by decide); have p2 := p 2 (by decide); have p3 := p 3 (by decide); have p4 := p 4 (by decide); have p5 := p 5 (by decide)
  omega
theorem jVd_40 {A : Nat → Nat → Bool} {t : Nat} {d : Nat → Nat} (ht : t ≤ 40) (v : jVd A t d) (i : Nat) (hi : i < 6) : d i ≤ 40 := by
  rcases v.1 i hi with q | q <;> omega
theorem jDg_b {d : Nat → Nat} (h : ∀ i : Nat, i < 6 → d i ≤ 40) : 0 ≤ jDg d ∧ jDg d < 4750104241 := by
  have p0 := h 0 (by decide); have p1 := h 1 (by decide); have p2 := h 2 (by decide); have p3 := h 3 (by decide); have p4 := h 4 (by decide); have p5 := h 5 (by decide)
  unfold jDg
  omega
theorem jcmp_a {c c' w w' D D' : Int} (h1 : 0 ≤ w ∧ w ≤ 3600) (h2 : 0 ≤ w' ∧ w' ≤ 3600) (h3 : 0 ≤ D ∧ D < 4750104241) (h4 : 0 ≤ D' ∧ D' < 4750104241) (le : (6 - c) * 19456426971136 + w * 4750104241 + D ≤ (6 - c') * 19456426971136 + w' * 4750104241 + D') :
    c' < c ∨ (c' = c ∧ (w < w' ∨ (w = w' ∧ D ≤ D'))) := by
  by_cases z : c' < c
  · exact Or.inl z
  · refine Or.inr ?_
    have e : c' = c := by omega
    refine ⟨e, ?_⟩
    subst e
    by_cases y : w < w'
    · exact Or.inl y
    · refine Or.inr ?_
      have e2 : w = w' := by omega
      exact ⟨e2, by omega⟩
def jOp (A : Nat → Nat → Bool) (O : Nat → Nat → Int) (T : Nat) (d : Nat → Nat) : Prop := jVd A T d ∧ ∀ d' : Nat → Nat, jVd A T d' → jN O d ≤ jN O d'
theorem jcmp {A : Nat → Nat → Bool} {O : Nat → Nat → Int} {T : Nat} {d e : Nat → Nat} (hT : T ≤ 40) (hO : ∀ t i : Nat, A t i = true → 0 ≤ O t i ∧ O t i ≤ 600) (op : jOp A O T d) (v : jVd A T e) : jcn e < jcn d ∨ (jcn e = jcn d ∧ (jcs O d < jcs O e ∨ (jcs O d = jcs O e ∧ jDg d ≤ jDg e))) := by
  have le := op.2 e v
  rw [jN_e, jN_e] at le
  have b1 := jcs_b (K := 600) (fun t i q => (hO t i q).2) (by decide) op.1
  have b2 := jcs_b (K := 600) (fun t i q => (hO t i q).2) (by decide) v
  exact jcmp_a ⟨jcs_n (fun t i q => (hO t i q).1) op.1, by omega⟩ ⟨jcs_n (fun t i q => (hO t i q).1) v, by omega⟩ (jDg_b (jVd_40 hT op.1)) (jDg_b (jVd_40 hT v)) le
theorem jDg_p {d e : Nat → Nat} {p : Nat} (hp : p < 6) (h : ∀ i : Nat, i < 6 → e i ≤ 40) (eq : ∀ q : Nat, q < p → d q = e q) (le : jDg d ≤ jDg e) : d p ≤ e p := by
  have h0 := h 0 (by decide); have h1 := h 1 (by decide); have h2 := h 2 (by decide); have h3 := h 3 (by decide); have h4 := h 4 (by decide); have h5 := h 5 (by decide)
  unfold jDg at le
  rcases j6c hp with rfl | rfl | rfl | rfl | rfl | rfl
  · omega
  · have := eq 0 (by decide); omega
  · have := eq 0 (by decide); have := eq 1 (by decide); omega
  · have := eq 0 (by decide); have := eq 1 (by decide); have := eq 2 (by decide); omega
  · have := eq 0 (by decide); have := eq 1 (by decide); have := eq 2 (by decide); have := eq 3 (by decide); omega
  · have := eq 0 (by decide); have := eq 1 (by decide); have := eq 2 (by decide); have := eq 3 (by decide); have := eq 4 (by decide); omega
/-- ahead of part p as in d, tree t at part p, behind as in e -/
def jcom (d e : Nat → Nat) (p t : Nat) (i : Nat) : Nat := if i < p then d i else if i = p then t else e i
theorem jcom_s {c : Nat → Nat → Int} {d e : Nat → Nat} {p t : Nat} (hp : p < 6) (ht : ¬ t = 40) (h0 : ∀ i : Nat, i ≤ p → e i = 40) : jcs c (jcom d e p t) = jsg (fun i => if d i = 40 then 0 else c (d i) i) p + c t p + jcs c e := by
  unfold jcs
  rw [jsg_sp (f := fun i => if jcom d e p t i = 40 then 0 else c (jcom d e p t i) i) (a := fun i => if d i = 40 then 0 else c (d i) i) (g := fun i => if e i = 40 then 0 else c (e i) i) (p := p) (fun i hi => ?_) (fun i hi => if_pos (h0 i hi)) 6 hp (fun i a b => ?_)]
  · have w : jcom d e p t p = t := by unfold jcom; rw [if_neg (by omega), if_pos rfl]
    show _ + (if jcom d e p t p = 40 then 0 else c (jcom d e p t p) p) + _ = _
    rw [w, if_neg ht]
  · have w : jcom d e p t i = d i := if_pos hi
    show (if jcom d e p t i = 40 then 0 else c (jcom d e p t i) i) = _
    rw [w]
  · have w : jcom d e p t i = e i := by unfold jcom; rw [if_neg (by omega), if_neg (by omega)]
    show (if jcom d e p t i = 40 then 0 else c (jcom d e p t i) i) = _
    rw [w]
theorem jcom_v {A A1 : Nat → Nat → Bool} {T p t : Nat} {d e : Nat → Nat} (hT : T ≤ 40) (ht : t < T) (at_ : A t p = true) (hu : ∀ q : Nat, q < p → ¬ d q = t)
    (hA : ∀ x i : Nat, x < T → A1 x i = true → A x i = true ∧ p < i ∧ ¬ x = t ∧ ∀ q : Nat, q < p → ¬ d q = x) (vd : jVd A T d) (ve : jVd A1 T e) : jVd A T (jcom d e p t) := by
  have c1 : ∀ i : Nat, i < p → jcom d e p t i = d i := fun i hi => if_pos hi
  have c2 : jcom d e p t p = t := by unfold jcom; rw [if_neg (by omega), if_pos rfl]
  have c3 : ∀ i : Nat, p < i → jcom d e p t i = e i := fun i hi => by unfold jcom; rw [if_neg (by omega), if_neg (by omega)]
  have ee : ∀ i : Nat, i < 6 → ¬ e i = 40 → e i < T ∧ A (e i) i = true ∧ p < i ∧ ¬ e i = t ∧ ∀ q : Nat, q < p → ¬ d q = e i := fun i hi n => by
    rcases ve.1 i hi with q | q
    · exact absurd q n
    · exact ⟨q.1, hA _ _ q.1 q.2⟩
  have tri : ∀ i : Nat, i < p ∨ i = p ∨ p < i := fun i => by omega
  refine ⟨fun i hi => ?_, fun i j hi hj n w => ?_⟩
  · rcases tri i with z | z | z
    · rw [c1 i z]; exact vd.1 i hi
    · rw [z, c2]; exact Or.inr ⟨ht, at_⟩
    · rw [c3 i z]
      by_cases y : e i = 40
      · exact Or.inl y
      · have k := ee i hi y; exact Or.inr ⟨k.1, k.2.1⟩
  · rcases tri i with z | z | z
    · rw [c1 i z] at n w
      rcases tri j with y | y | y
      · rw [c1 j y] at w; exact vd.2 i j hi hj n w
      · rw [y, c2] at w; exact absurd w (hu i z)
      · rw [c3 j y] at w
        exact absurd w ((ee j hj (by omega)).2.2.2.2 i z)
    · rw [z, c2] at w
      rcases tri j with y | y | y
      · rw [c1 j y] at w; exact absurd w.symm (hu j y)
      · omega
      · rw [c3 j y] at w
        exact absurd w.symm (ee j hj (by omega)).2.2.2.1
    · rw [c3 i z] at n w
      rcases tri j with y | y | y
      · rw [c1 j y] at w; exact absurd w.symm ((ee i hi n).2.2.2.2 j y)
      · rw [y, c2] at w; exact absurd w (ee i hi n).2.2.2.1
      · rw [c3 j y] at w; exact ve.2 i j hi hj n w
/-- is tree t the one for part p? -/
theorem jgr {A A1 : Nat → Nat → Bool} {O : Nat → Nat → Int} {T p t : Nat} {d : Nat → Nat} {bM bW m w : Int} (hT : T ≤ 40) (hO : ∀ t i : Nat, A t i = true → 0 ≤ O t i ∧ O t i ≤ 600) (op : jOp A O T d) (hp : p < 6) (ht : t < T) (at_ : A t p = true) (hu : ∀ q : Nat, q < p → ¬ d q = t)
    (hA : ∀ x i : Nat, x < T → (A1 x i = true ↔ A x i = true ∧ p < i ∧ ¬ x = t ∧ ∀ q : Nat, q < p → ¬ d q = x))
    (ex : ∃ e : Nat → Nat, jVd A1 T e ∧ jcn e = bM ∧ jcs O e = bW) (al : ∀ e : Nat → Nat, jVd A1 T e → jcn e < bM ∨ (jcn e = bM ∧ bW ≤ jcs O e))
    (em : m = jsg (fun i => if d i = 40 then 0 else 1) p) (ew : w = jsg (fun i => if d i = 40 then 0 else O (d i) i) p) :
    ((m + 1 + bM = jcn d ∧ w + O t p + bW = jcs O d) → d p ≤ t) ∧ (d p = t → m + 1 + bM = jcn d ∧ w + O t p + bW = jcs O d) := by
  obtain ⟨e, ve, e1, e2⟩ := ex
  have t40 : ¬ t = 40 := by omega
  have low : ∀ e' : Nat → Nat, jVd A1 T e' → ∀ i : Nat, i ≤ p → e' i = 40 := fun e' v i hi => by
    rcases v.1 i (by omega) with q | q
    · exact q
    · have := ((hA _ _ q.1).1 q.2).2.1; omega
  have vc := jcom_v (e := e) hT ht at_ hu (fun x i a b => (hA x i a).1 b) op.1 ve
  have s1 : jcn (jcom d e p t) = m + 1 + bM := by rw [em, ← e1]; exact jcom_s (c := fun _ _ => 1) hp t40 (low e ve)
  have s2 : jcs O (jcom d e p t) = w + O t p + bW := by rw [ew, ← e2]; exact jcom_s hp t40 (low e ve)
  have cm := jcmp hT hO op vc
  rw [s1, s2] at cm
  have c1 : ∀ i : Nat, i < p → d i = jcom d e p t i := fun i hi => (if_pos hi).symm
  have c2 : jcom d e p t p = t := by unfold jcom; rw [if_neg (by omega), if_pos rfl]
  constructor
  · intro q
    have dg : jDg d ≤ jDg (jcom d e p t) := by omega
    have r := jDg_p hp (jVd_40 hT vc) c1 dg
    rw [c2] at r
    exact r
  · intro q
    have v' : jVd A1 T (fun i => if i ≤ p then 40 else d i) := by
      refine ⟨fun i hi => ?_, fun i j hi hj => ?_⟩
      · show (if i ≤ p then 40 else d i) = 40 ∨ ((if i ≤ p then 40 else d i) < T ∧ A1 (if i ≤ p then 40 else d i) i = true)
        by_cases z : i ≤ p
        · rw [if_pos z]; exact Or.inl rfl
        · rw [if_neg z]
          rcases op.1.1 i hi with y | y
          · exact Or.inl y
          · refine Or.inr ⟨y.1, (hA _ _ y.1).2 ⟨y.2, by omega, fun k => ?_, fun r hr k => ?_⟩⟩
            · have := op.1.2 i p hi hp (by omega) (by omega); omega
            · have := op.1.2 r i (by omega) hi (by omega) k; omega
      · show ¬ (if i ≤ p then 40 else d i) = 40 → (if i ≤ p then 40 else d i) = (if j ≤ p then 40 else d j) → i = j
        by_cases z : i ≤ p
        · rw [if_pos z]; exact fun k => absurd rfl k
        · rw [if_neg z]
          intro n
          by_cases y : j ≤ p
          · rw [if_pos y]; exact fun k => absurd k n
          · rw [if_neg y]; exact fun k => op.1.2 i j hi hj n k
    have h0 : ∀ i : Nat, i ≤ p → (fun i => if i ≤ p then 40 else d i) i = 40 := fun i hi => if_pos hi
    have same : ∀ i : Nat, i < 6 → jcom d (fun i => if i ≤ p then 40 else d i) p t i = d i := fun i hi => by
      unfold jcom
      by_cases z : i < p
      · rw [if_pos z]
      · rw [if_neg z]
        by_cases y : i = p
        · rw [if_pos y, y]; exact q.symm
        · rw [if_neg y]; exact if_neg (by omega)
    have k1 : jcn d = m + 1 + jcn (fun i => if i ≤ p then 40 else d i) := by
      rw [em, show jcn d = jcn (jcom d (fun i => if i ≤ p then 40 else d i) p t) from jsg_c 6 (fun i hi => by
        show (if d i = 40 then (0 : Int) else 1) = (if jcom d (fun i => if i ≤ p then 40 else d i) p t i = 40 then 0 else 1)
        rw [same i hi])]
      exact jcom_s (c := fun _ _ => 1) hp t40 h0
    have k2 : jcs O d = w + O t p + jcs O (fun i => if i ≤ p then 40 else d i) := by
      rw [ew, show jcs O d = jcs O (jcom d (fun i => if i ≤ p then 40 else d i) p t) from jsg_c 6 (fun i hi => by
        show (if d i = 40 then (0 : Int) else O (d i) i) = (if jcom d (fun i => if i ≤ p then 40 else d i) p t i = 40 then 0 else O (jcom d (fun i => if i ≤ p then 40 else d i) p t i) i)
        rw [same i hi])]
      exact jcom_s hp t40 h0
    have k3 := al _ v'
    omega
/-- the first search: count and waste of the best -/
theorem jgr0 {A : Nat → Nat → Bool} {O : Nat → Nat → Int} {T : Nat} {d : Nat → Nat} {bM bW : Int} (hT : T ≤ 40) (hO : ∀ t i : Nat, A t i = true → 0 ≤ O t i ∧ O t i ≤ 600) (op : jOp A O T d)
    (ex : ∃ e : Nat → Nat, jVd A T e ∧ jcn e = bM ∧ jcs O e = bW) (al : ∀ e : Nat → Nat, jVd A T e → jcn e < bM ∨ (jcn e = bM ∧ bW ≤ jcs O e)) : bM = jcn d ∧ bW = jcs O d := by
  obtain ⟨e, ve, e1, e2⟩ := ex
  have c := jcmp hT hO op ve
  have k := al d op.1
  omega
theorem jOp_c {A A' : Nat → Nat → Bool} {O O' : Nat → Nat → Int} {T : Nat} {d : Nat → Nat} (eA : ∀ t i : Nat, t < T → i < 6 → A' t i = A t i) (eO : ∀ t i : Nat, t < T → i < 6 → A t i = true → O' t i = O t i) (op : jOp A O T d) : jOp A' O' T d := by
  have tr : ∀ e : Nat → Nat, jVd A' T e → jVd A T e := fun e v => ⟨fun i hi => by
    rcases v.1 i hi with q | q
    · exact Or.inl q
    · exact Or.inr ⟨q.1, by rw [← eA _ _ q.1 hi]; exact q.2⟩, v.2⟩
  have eN : ∀ e : Nat → Nat, jVd A T e → jN O' e = jN O e := fun e v => jsg_c 6 (fun i hi => by
    show (if e i = 40 then jlk i else O' (e i) i * 4750104241 + (e i : Int) * jW i) = (if e i = 40 then jlk i else O (e i) i * 4750104241 + (e i : Int) * jW i)
    rcases v.1 i hi with q | q
    · rw [if_pos q, if_pos q]
    · by_cases z : e i = 40
      · rw [if_pos z, if_pos z]
      · rw [if_neg z, if_neg z, eO _ _ q.1 hi q.2])
  refine ⟨⟨fun i hi => ?_, op.1.2⟩, fun e v => ?_⟩
  · rcases op.1.1 i hi with q | q
    · exact Or.inl q
    · exact Or.inr ⟨q.1, by rw [eA _ _ q.1 hi]; exact q.2⟩
  · rw [eN d op.1, eN e (tr e v)]; exact op.2 e (tr e v)
/-- the class's number -/
def jcc (O : Nat → Nat → Int) (t i : Nat) : Int := O t i * 4750104241 + (t : Int) * jW i - jlk i
theorem jN_c (O : Nat → Nat → Int) (d : Nat → Nat) : jN O d = jLi 6 + jcs (jcc O) d := by
  have p : ∀ i : Nat, (if d i = 40 then jlk i else O (d i) i * 4750104241 + (d i : Int) * jW i) = jlk i + (if d i = 40 then 0 else jcc O (d i) i) := fun i => by
    by_cases z : d i = 40
    · rw [if_pos z, if_pos z]; omega
    · rw [if_neg z, if_neg z]; unfold jcc; omega
  have e : jLi 6 = jlk (0 : Nat) + jlk (1 : Nat) + jlk (2 : Nat) + jlk (3 : Nat) + jlk (4 : Nat) + jlk (5 : Nat) := by decide +kernel
  have p0 := p 0; have p1 := p 1; have p2 := p 2; have p3 := p 3; have p4 := p 4; have p5 := p 5
  unfold jN jcs
  rw [jsg6, jsg6, p0, p1, p2, p3, p4, p5, e]
  omega
theorem jW_b (i : Nat) : 0 ≤ jW i := by
  by_cases z : i < 6
  · rcases j6c z with rfl | rfl | rfl | rfl | rfl | rfl <;> decide
  · unfold jW
    rw [show jwt.getD i 0 = 0 from by
      unfold jwt
      match i, z with
      | k + 6, _ => rfl
      | 0, z => exact absurd (by decide) z
      | 1, z => exact absurd (by decide) z
      | 2, z => exact absurd (by decide) z
      | 3, z => exact absurd (by decide) z
      | 4, z => exact absurd (by decide) z
      | 5, z => exact absurd (by decide) z]
    exact Int.le_refl _
theorem jdv {v k q r : Int} (hk : 0 < k) (e : v = k * q + r) (h0 : 0 ≤ r) (h1 : r < k) : v / k = q := by
  rw [e, Int.add_comm, Int.add_mul_ediv_left _ _ (by omega), Int.ediv_eq_zero_of_lt h0 h1, Int.zero_add]
/-- what is read off the best number -/
theorem jdig {n : Nat} {C w v : Int} {d : Nat → Nat} (hn : n ≤ 6) (h : ∀ i : Nat, i < 6 → d i ≤ 40) (hz : ∀ i : Nat, n ≤ i → i < 6 → d i = 40) (hw : 0 ≤ w ∧ w < 4096) (e : v = C * 19456426971136 + w * 4750104241 + jDg d - (jLi 6 - jLi n)) :
    v / 4750104241 % 4096 = w ∧ ∀ i : Nat, i < n → v / jW i % 41 = d i := by
  have h0 := h 0 (by decide); have h1 := h 1 (by decide); have h2 := h 2 (by decide); have h3 := h 3 (by decide); have h4 := h 4 (by decide); have h5 := h 5 (by decide)
  -- digits that count
  have key : ∃ x0 x1 x2 x3 x4 x5 B : Int, (0 ≤ x0 ∧ x0 ≤ 40) ∧ (0 ≤ x1 ∧ x1 ≤ 40) ∧ (0 ≤ x2 ∧ x2 ≤ 40) ∧ (0 ≤ x3 ∧ x3 ≤ 40) ∧ (0 ≤ x4 ∧ x4 ≤ 40) ∧ (0 ≤ x5 ∧ x5 ≤ 40) ∧ v = (B * 4096 + w) * 4750104241 + x0 * 115856201 + x1 * 2825761 + x2 * 68921 + x3 * 1681 + x4 * 41 + x5 ∧ (0 < n → x0 = d 0) ∧ (1 < n → x1 = d 1) ∧ (2 < n → x2 = d 2) ∧ (3 < n → x3 = d 3) ∧ (4 < n → x4 = d 4) ∧ (5 < n → x5 = d 5) := by
    unfold jDg at e
    have cs : n = 0 ∨ n = 1 ∨ n = 2 ∨ n = 3 ∨ n = 4 ∨ n = 5 ∨ n = 6 := by omega
    have l6 : jLi 6 = 116743311931056 := by decide +kernel
    rcases cs with rfl | rfl | rfl | rfl | rfl | rfl | rfl
    · have l : jLi ((0 : Nat) : Int) = 0 := by decide +kernel
      rw [l6, l] at e
      have z0 := hz 0 (by decide) (by decide)
      have z1 := hz 1 (by decide) (by decide)
      have z2 := hz 2 (by decide) (by decide)
      have z3 := hz 3 (by decide) (by decide)
      have z4 := hz 4 (by decide) (by decide)
      have z5 := hz 5 (by decide) (by decide)
      exact ⟨0, 0, 0, 0, 0, 0, C - 6, by omega, by omega, by omega, by omega, by omega, by omega, by omega, fun q => absurd q (by decide), fun q => absurd q (by decide), fun q => absurd q (by decide), fun q => absurd q (by decide), fun q => absurd q (by decide), fun q => absurd q (by decide)⟩
    · have l : jLi ((1 : Nat) : Int) = 19461061219176 := by decide +kernel
      rw [l6, l] at e
      have z1 := hz 1 (by decide) (by decide)
      have z2 := hz 2 (by decide) (by decide)
      have z3 := hz 3 (by decide) (by decide)
      have z4 := hz 4 (by decide) (by decide)
      have z5 := hz 5 (by decide) (by decide)
      exact ⟨(d 0 : Int), 0, 0, 0, 0, 0, C - 5, by omega, by omega, by omega, by omega, by omega, by omega, by omega, fun q => rfl, fun q => absurd q (by decide), fun q => absurd q (by decide), fun q => absurd q (by decide), fun q => absurd q (by decide), fun q => absurd q (by decide)⟩
    · have l : jLi ((2 : Nat) : Int) = 38917601220752 := by decide +kernel
      rw [l6, l] at e
      have z2 := hz 2 (by decide) (by decide)
      have z3 := hz 3 (by decide) (by decide)
      have z4 := hz 4 (by decide) (by decide)
      have z5 := hz 5 (by decide) (by decide)
      exact ⟨(d 0 : Int), (d 1 : Int), 0, 0, 0, 0, C - 4, by omega, by omega, by omega, by omega, by omega, by omega, by omega, fun q => rfl, fun q => rfl, fun q => absurd q (by decide), fun q => absurd q (by decide), fun q => absurd q (by decide), fun q => absurd q (by decide)⟩
    · have l : jLi ((3 : Nat) : Int) = 58374030948728 := by decide +kernel
      rw [l6, l] at e
      have z3 := hz 3 (by decide) (by decide)
      have z4 := hz 4 (by decide) (by decide)
      have z5 := hz 5 (by decide) (by decide)
      exact ⟨(d 0 : Int), (d 1 : Int), (d 2 : Int), 0, 0, 0, C - 3, by omega, by omega, by omega, by omega, by omega, by omega, by omega, fun q => rfl, fun q => rfl, fun q => rfl, fun q => absurd q (by decide), fun q => absurd q (by decide), fun q => absurd q (by decide)⟩
    · have l : jLi ((4 : Nat) : Int) = 77830457987104 := by decide +kernel
      rw [l6, l] at e
      have z4 := hz 4 (by decide) (by decide)
      have z5 := hz 5 (by decide) (by decide)
      exact ⟨(d 0 : Int), (d 1 : Int), (d 2 : Int), (d 3 : Int), 0, 0, C - 2, by omega, by omega, by omega, by omega, by omega, by omega, by omega, fun q => rfl, fun q => rfl, fun q => rfl, fun q => rfl, fun q => absurd q (by decide), fun q => absurd q (by decide)⟩
    · have l : jLi ((5 : Nat) : Int) = 97286884959880 := by decide +kernel
      rw [l6, l] at e
      have z5 := hz 5 (by decide) (by decide)
      exact ⟨(d 0 : Int), (d 1 : Int), (d 2 : Int), (d 3 : Int), (d 4 : Int), 0, C - 1, by omega, by omega, by omega, by omega, by omega, by omega, by omega, fun q => rfl, fun q => rfl, fun q => rfl, fun q => rfl, fun q => rfl, fun q => absurd q (by decide)⟩
    · have l : jLi ((6 : Nat) : Int) = 116743311931056 := by decide +kernel
      rw [l6, l] at e
      exact ⟨(d 0 : Int), (d 1 : Int), (d 2 : Int), (d 3 : Int), (d 4 : Int), (d 5 : Int), C - 0, by omega, by omega, by omega, by omega, by omega, by omega, by omega, fun q => rfl, fun q => rfl, fun q => rfl, fun q => rfl, fun q => rfl, fun q => rfl⟩
  obtain ⟨x0, x1, x2, x3, x4, x5, B, b0, b1, b2, b3, b4, b5, ev, y0, y1, y2, y3, y4, y5⟩ := key
  generalize hQ : B * 4096 + w = Q at ev
  constructor
  · rw [jdv (v := v) (k := 4750104241) (q := Q) (r := x0 * 115856201 + x1 * 2825761 + x2 * 68921 + x3 * 1681 + x4 * 41 + x5) (by decide) (by omega) (by omega) (by omega)]; omega
  · intro i hi
    rcases j6c (show i < 6 by omega) with rfl | rfl | rfl | rfl | rfl | rfl
    · have w0 : jW 0 = 115856201 := rfl
      rw [w0, jdv (v := v) (k := 115856201) (q := Q * 41 + x0 * 1) (r := x1 * 2825761 + x2 * 68921 + x3 * 1681 + x4 * 41 + x5 * 1) (by decide) (by omega) (by omega) (by omega)]; have := y0 hi; omega
    · have w0 : jW 1 = 2825761 := rfl
      rw [w0, jdv (v := v) (k := 2825761) (q := Q * 1681 + x0 * 41 + x1 * 1) (r := x2 * 68921 + x3 * 1681 + x4 * 41 + x5 * 1) (by decide) (by omega) (by omega) (by omega)]; have := y1 hi; omega
    · have w0 : jW 2 = 68921 := rfl
      rw [w0, jdv (v := v) (k := 68921) (q := Q * 68921 + x0 * 1681 + x1 * 41 + x2 * 1) (r := x3 * 1681 + x4 * 41 + x5 * 1) (by decide) (by omega) (by omega) (by omega)]; have := y2 hi; omega
    · have w0 : jW 3 = 1681 := rfl
      rw [w0, jdv (v := v) (k := 1681) (q := Q * 2825761 + x0 * 68921 + x1 * 1681 + x2 * 41 + x3 * 1) (r := x4 * 41 + x5 * 1) (by decide) (by omega) (by omega) (by omega)]; have := y3 hi; omega
    · have w0 : jW 4 = 41 := rfl
      rw [w0, jdv (v := v) (k := 41) (q := Q * 115856201 + x0 * 2825761 + x1 * 68921 + x2 * 1681 + x3 * 41 + x4 * 1) (r := x5 * 1) (by decide) (by omega) (by omega) (by omega)]; have := y4 hi; omega
    · have w0 : jW 5 = 1 := rfl
      rw [w0, jdv (v := v) (k := 1) (q := Q * 4750104241 + x0 * 115856201 + x1 * 2825761 + x2 * 68921 + x3 * 1681 + x4 * 41 + x5 * 1) (r := 0) (by decide) (by omega) (by omega) (by omega)]; have := y5 hi; omega
