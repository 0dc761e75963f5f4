/-! ===== AHEAD (pure): a yard in which nothing stirs ===== -/
def jTD (d r : Int) (h : JH) : JH := jPD 119 120 121 126 124 125 114 115 116 117 d r h
/-- no hands for a craft from row r on -/
def jNw (r c : Int) (t : JH) : Prop := ∀ x : Int, r ≤ x → x < 300 → t 115 x ≤ 0 ∨ t 114 (x * 4 + c) ≤ 0
abbrev jSa (t : JH) : Prop := ∀ b : Int, 0 ≤ b → b < 6 → t 121 b < 0 ∨ t (126 + 3 * t 121 b) 7 = 0 ∨ ¬ t (126 + 3 * t 121 b) 6 = 0 ∨ (¬ b = 5 ∧ ¬ t 121 (b + 1) = -1)
abbrev jSb (t : JH) : Prop := ¬ t 121 0 = -1 ∨ ∀ i : Int, 0 ≤ i → i < t 119 6 → ¬ t (126 + 3 * t 124 i) 3 = 0
abbrev jSc (t : JH) : Prop := ∀ i : Int, 0 ≤ i → i < t 119 6 → t (126 + 3 * t 124 i) 3 = 1 → t (126 + 3 * t 124 i) 7 = 0 → ¬ jAl 120 (126 + 3 * t 124 i + 1) t
abbrev jSd (r : Int) (t : JH) : Prop := ∀ i : Int, 0 ≤ i → i < t 119 6 → t (126 + 3 * t 124 i) 3 = 1 → ¬ t (126 + 3 * t 124 i) 7 = 0 → 0 < t (126 + 3 * t 124 i) 6 → jNw r (t (126 + 3 * t 124 i) 5) t
def jStk (r : Int) (t : JH) : Prop := jSa t ∧ jSb t ∧ jSc t ∧ jSd r t
def jOk (t : JH) : Prop := (∀ i : Int, 0 ≤ i → i < t 119 6 → 0 ≤ t 124 i ∧ t 124 i < 16) ∧ (∀ b : Int, 0 ≤ b → b < 6 → t 121 b < 16) ∧ (0 ≤ t 120 5 ∧ t 120 5 ≤ 1000000) ∧
  (∀ i : Int, 0 ≤ i → i < t 119 6 → t (126 + 3 * t 124 i) 3 = 1 → (0 ≤ t (126 + 3 * t 124 i) 5 ∧ t (126 + 3 * t 124 i) 5 ≤ 3) ∧ 0 ≤ t (126 + 3 * t 124 i) 6 ∧ t (126 + 3 * t 124 i) 6 ≤ 2000) ∧ 0 ≤ t 119 6 ∧ t 119 6 ≤ 16
def jAo (r : Int) (t : JH) : Prop := (∀ c : Int, 0 ≤ c → c < 4 → 0 ≤ t 114 (r * 4 + c) ∧ t 114 (r * 4 + c) ≤ 400) ∧ 0 ≤ t 115 r ∧ 0 ≤ t 117 r
/-- alike but for lacks, what is left of hands, stock, what is paid -/
def jAg (t t' : JH) : Prop := ∀ i k : Int, ¬ (i = 119 ∧ 7 ≤ k ∧ k ≤ 10) → ¬ i = 120 → ¬ i = 125 → ¬ (126 ≤ i ∧ i ≤ 173 ∧ k = 8) → t' i k = t i k
theorem jOk_fr {t t' : JH} (O : jOk t) (g : jAg t t') (s5 : 0 ≤ t' 120 5) (st : ∀ x : Int, 0 ≤ x → x < 6 → t' 120 x ≤ t 120 x) : jOk t' := by
  obtain ⟨o1, o2, o3, o4, o5⟩ := O
  have e6 : t' 119 6 = t 119 6 := g _ _ (by omega) (by omega) (by omega) (by omega)
  have e4 : ∀ i : Int, t' 124 i = t 124 i := fun i => g _ _ (by omega) (by omega) (by omega) (by omega)
  refine ⟨fun i a b => ?_, fun b a c => ?_, ?_, fun i a b c => ?_, by omega⟩
  · rw [e4]; exact o1 i a (by omega)
  · rw [g 121 b (by omega) (by omega) (by omega) (by omega)]; exact o2 b a c
  · have := st 5 (by decide) (by decide); omega
  · rw [e6] at b
    have l := o1 i a b
    rw [e4] at c ⊢
    rw [g _ 3 (by omega) (by omega) (by omega) (by omega)] at c
    rw [g _ 5 (by omega) (by omega) (by omega) (by omega), g _ 6 (by omega) (by omega) (by omega) (by omega)]
    exact o4 i a b c
theorem jS3_fr {t t' : JH} (O : jOk t) (g : jAg t t') (st : ∀ x : Int, 0 ≤ x → x < 6 → t' 120 x ≤ t 120 x) (S : jSa t ∧ jSb t ∧ jSc t) : jSa t' ∧ jSb t' ∧ jSc t' := by
  obtain ⟨o1, o2, o3, o4, o5⟩ := O
  obtain ⟨sa, sb, sc⟩ := S
  have e6 : t' 119 6 = t 119 6 := g _ _ (by omega) (by omega) (by omega) (by omega)
  have e4 : ∀ i : Int, t' 124 i = t 124 i := fun i => g _ _ (by omega) (by omega) (by omega) (by omega)
  have e1 : ∀ b : Int, t' 121 b = t 121 b := fun b => g _ _ (by omega) (by omega) (by omega) (by omega)
  refine ⟨fun b a c => ?_, ?_, fun i a b c d => ?_⟩
  · have l := o2 b a c
    have s := sa b a c
    rw [e1, e1]
    by_cases z : t 121 b < 0
    · exact Or.inl z
    · rw [g _ 7 (by omega) (by omega) (by omega) (by omega), g _ 6 (by omega) (by omega) (by omega) (by omega)]; exact s
  · unfold jSb
    rw [e1]
    rcases sb with z | z
    · exact Or.inl z
    · refine Or.inr (fun i a b => ?_)
      rw [e6] at b
      have l := o1 i a b
      rw [e4, g _ 3 (by omega) (by omega) (by omega) (by omega)]; exact z i a b
  · rw [e6] at b
    have l := o1 i a b
    rw [e4] at c d ⊢
    rw [g _ 3 (by omega) (by omega) (by omega) (by omega)] at c
    rw [g _ 7 (by omega) (by omega) (by omega) (by omega)] at d
    have n := sc i a b c d
    intro q
    unfold jAl at q
    rw [g _ 0 (by omega) (by omega) (by omega) (by omega), g _ 1 (by omega) (by omega) (by omega) (by omega), g _ 2 (by omega) (by omega) (by omega) (by omega), g _ 3 (by omega) (by omega) (by omega) (by omega), g _ 4 (by omega) (by omega) (by omega) (by omega), g _ 5 (by omega) (by omega) (by omega) (by omega)] at q
    have s0 := st 0 (by decide) (by decide); have s1 := st 1 (by decide) (by decide); have s2 := st 2 (by decide) (by decide); have s3 := st 3 (by decide) (by decide); have s4 := st 4 (by decide) (by decide); have s5 := st 5 (by decide) (by decide)
    exact n ⟨by omega, by omega, by omega, by omega, by omega, by omega⟩
theorem jStk_fr {r r' : Int} {t t' : JH} (hr : r ≤ r') (O : jOk t) (g : jAg t t') (st : ∀ x : Int, 0 ≤ x → x < 6 → t' 120 x ≤ t 120 x) (S : jStk r t) : jStk r' t' := by
  obtain ⟨o1, o2, o3, o4, o5⟩ := O
  obtain ⟨sa, sb, sc, sd⟩ := S
  have e6 : t' 119 6 = t 119 6 := g _ _ (by omega) (by omega) (by omega) (by omega)
  have e4 : ∀ i : Int, t' 124 i = t 124 i := fun i => g _ _ (by omega) (by omega) (by omega) (by omega)
  obtain ⟨k1, k2, k3⟩ := jS3_fr ⟨o1, o2, o3, o4, o5⟩ g st ⟨sa, sb, sc⟩
  refine ⟨k1, k2, k3, fun i a b c d e x y z => ?_⟩
  · rw [e6] at b
    have l := o1 i a b
    rw [e4] at c d e ⊢
    rw [g _ 3 (by omega) (by omega) (by omega) (by omega)] at c
    rw [g _ 7 (by omega) (by omega) (by omega) (by omega)] at d
    rw [g _ 6 (by omega) (by omega) (by omega) (by omega)] at e
    rw [g _ 5 (by omega) (by omega) (by omega) (by omega), g 115 x (by omega) (by omega) (by omega) (by omega), g 114 _ (by omega) (by omega) (by omega) (by omega)]
    exact sd i a b c d e x (by omega) z
/-! steps that change nothing -/
theorem jit_id {f : Int → JH → JH} {h : JH} : ∀ n : Nat, (∀ i : Nat, i < n → f i h = h) → jit f n h = h
  | 0, _ => rfl
  | n + 1, q => by
      show f n (jit f n h) = h
      rw [jit_id n (fun i a => q i (by omega))]
      exact q n (by omega)
/-- a place that tells that something was done -/
theorem jit_st {f : Int → JH → JH} {a b : Int} (q : ∀ (i : Int) (h : JH), f i h a b = 0 → f i h = h) {h : JH} : ∀ n : Nat, jit f n h a b = 0 → jit f n h = h ∧ ∀ i : Nat, i < n → f i h = h
  | 0, _ => ⟨rfl, fun i x => absurd x (by omega)⟩
  | n + 1, z => by
      have z' : f n (jit f n h) a b = 0 := z
      have e := q n _ z'
      have z2 : jit f n h a b = 0 := by rw [← e]; exact z'
      obtain ⟨i1, i2⟩ := jit_st q n z2
      rw [i1] at e
      refine ⟨?_, fun i x => ?_⟩
      · show f n (jit f n h) = h
        rw [i1]; exact e
      · by_cases y : i = n
        · rw [y]; exact e
        · exact i2 i (by omega)
theorem jit_mo {f : Int → JH → JH} {a b : Int} (q : ∀ (i : Int) (h : JH), f i h a b = 0 → h a b = 0) {h : JH} : ∀ n : Nat, jit f n h a b = 0 → h a b = 0
  | 0, z => z
  | n + 1, z => jit_mo q n (q n (jit f n h) z)
theorem jTg_mo {i : Int} {h : JH} (z : jTg 119 120 126 124 i h 119 10 = 0) : h 119 10 = 0 := by
  unfold jTg at z
  by_cases c : ¬ h (126 + 3 * h 124 i) 3 = 1 ∨ ¬ h (126 + 3 * h 124 i) 7 = 0
  · rw [if_pos c] at z; exact z
  · rw [if_neg c] at z
    by_cases w : jAl 120 (126 + 3 * h 124 i + 1) h
    · rw [if_pos w, jup_eq] at z; exact absurd z (by decide)
    · rw [if_neg w, jup_ne (by omega)] at z; exact z
theorem jDw_mo {cr i : Int} {h : JH} (z : jDw 119 125 126 124 cr i h 119 10 = 0) : h 119 10 = 0 := by
  unfold jDw at z
  by_cases c : h (126 + 3 * h 124 i) 3 = 1 ∧ ¬ h (126 + 3 * h 124 i) 7 = 0 ∧ 0 < h (126 + 3 * h 124 i) 6
  · rw [if_pos c] at z
    generalize jSt 125 (126 + 3 * h 124 i) cr h = s at z
    unfold jD3 at z
    rw [jup_eq] at z
    by_cases y : ¬ jD2 (126 + 3 * h 124 i) s (jD1 125 (126 + 3 * h 124 i) s h) 119 10 = 0 ∨ 0 < s
    · rw [if_pos y] at z; exact absurd z (by decide)
    · have y1 : jD2 (126 + 3 * h 124 i) s (jD1 125 (126 + 3 * h 124 i) s h) 119 10 = 0 := by omega
      unfold jD2 jD1 at y1
      rw [jup_ne (by omega), jup_ne (by omega)] at y1
      exact y1
  · rw [if_neg c] at z; exact z
theorem jMvr_st {d i : Int} {h : JH} (z : jMvr 119 121 126 d i h 119 10 = 0) : jMvr 119 121 126 d i h = h ∧ (h 121 (5 - i) < 0 ∨ h (126 + 3 * h 121 (5 - i)) 7 = 0 ∨ ¬ h (126 + 3 * h 121 (5 - i)) 6 = 0 ∨ (¬ 5 - i = 5 ∧ ¬ h 121 (5 - i + 1) = -1)) := by
  unfold jMvr jMv at z ⊢
  by_cases c : h 121 (5 - i) < 0 ∨ h (126 + 3 * h 121 (5 - i)) 7 = 0 ∨ ¬ h (126 + 3 * h 121 (5 - i)) 6 = 0
  · rw [if_pos c]
    refine ⟨rfl, ?_⟩
    rcases c with c | c | c
    · exact Or.inl c
    · exact Or.inr (Or.inl c)
    · exact Or.inr (Or.inr (Or.inl c))
  · rw [if_neg c] at z ⊢
    by_cases y : 5 - i = 5
    · rw [if_pos y, jup_eq] at z; exact absurd z (by decide)
    · rw [if_neg y] at z ⊢
      by_cases x : h 121 (5 - i + 1) = -1
      · rw [if_pos x] at z
        unfold jBrt at z
        rw [jup_eq] at z
        exact absurd z (by decide)
      · rw [if_neg x]
        exact ⟨rfl, Or.inr (Or.inr (Or.inr ⟨y, x⟩))⟩
theorem jMvr_id {d i : Int} {h : JH} (z : h 121 (5 - i) < 0 ∨ h (126 + 3 * h 121 (5 - i)) 7 = 0 ∨ ¬ h (126 + 3 * h 121 (5 - i)) 6 = 0 ∨ (¬ 5 - i = 5 ∧ ¬ h 121 (5 - i + 1) = -1)) : jMvr 119 121 126 d i h = h := by
  unfold jMvr jMv
  by_cases c : h 121 (5 - i) < 0 ∨ h (126 + 3 * h 121 (5 - i)) 7 = 0 ∨ ¬ h (126 + 3 * h 121 (5 - i)) 6 = 0
  · rw [if_pos c]
  · have y : ¬ 5 - i = 5 ∧ ¬ h 121 (5 - i + 1) = -1 := by
      rcases z with z | z | z | z
      · exact absurd (Or.inl z) c
      · exact absurd (Or.inr (Or.inl z)) c
      · exact absurd (Or.inr (Or.inr z)) c
      · exact z
    rw [if_neg c, if_neg y.1, if_neg y.2]
theorem jLin_st {i : Int} {h : JH} (z : jLin 119 121 126 124 i h 119 10 = 0) : jLin 119 121 126 124 i h = h ∧ (¬ h 121 0 = -1 ∨ ¬ h (126 + 3 * h 124 i) 3 = 0) := by
  unfold jLin at z ⊢
  by_cases c : ¬ h 121 0 = -1
  · rw [if_pos c]; exact ⟨rfl, Or.inl c⟩
  · rw [if_neg c] at z ⊢
    by_cases y : h (126 + 3 * h 124 i) 3 = 0
    · rw [if_pos y] at z
      unfold jBrt at z
      rw [jup_eq] at z
      exact absurd z (by decide)
    · rw [if_neg y]; exact ⟨rfl, Or.inr y⟩
theorem jLin_id {i : Int} {h : JH} (z : ¬ h 121 0 = -1 ∨ ¬ h (126 + 3 * h 124 i) 3 = 0) : jLin 119 121 126 124 i h = h := by
  unfold jLin
  by_cases c : ¬ h 121 0 = -1
  · rw [if_pos c]
  · rcases z with z | z
    · exact absurd z c
    · rw [if_neg c, if_neg z]
/-- alike but for lacks -/
def jA8 (t t' : JH) : Prop := ∀ i k : Int, ¬ (126 ≤ i ∧ i ≤ 173 ∧ k = 8) → t' i k = t i k
theorem jA8_al {t t' : JH} (g : jA8 t t') {u : Int} : jAl 120 u t' ↔ jAl 120 u t := by
  unfold jAl
  rw [g u 0 (by omega), g u 1 (by omega), g u 2 (by omega), g u 3 (by omega), g u 4 (by omega), g u 5 (by omega), g 120 0 (by omega), g 120 1 (by omega), g 120 2 (by omega), g 120 3 (by omega), g 120 4 (by omega), g 120 5 (by omega)]
theorem jTg_id {t : JH} (o1 : ∀ i : Int, 0 ≤ i → i < t 119 6 → 0 ≤ t 124 i ∧ t 124 i < 16) (sc : jSc t) : ∀ n : Nat, (n : Int) ≤ t 119 6 → jA8 t (jit (jTg 119 120 126 124) n t)
  | 0, _ => fun _ _ _ => rfl
  | n + 1, hn => by
      have ih := jTg_id o1 sc n (by omega)
      have l := o1 n (by omega) (by omega)
      have s := sc n (by omega) (by omega)
      intro i k q
      show jTg 119 120 126 124 n (jit (jTg 119 120 126 124) n t) i k = t i k
      generalize jit (jTg 119 120 126 124) n t = Z at ih
      unfold jTg
      have e4 : Z 124 n = t 124 n := ih _ _ (by omega)
      rw [e4, ih _ 3 (by omega), ih _ 7 (by omega)]
      by_cases c : ¬ t (126 + 3 * t 124 n) 3 = 1 ∨ ¬ t (126 + 3 * t 124 n) 7 = 0
      · rw [if_pos c]; exact ih i k q
      · rw [if_neg c, if_neg (fun w => s (by omega) (by omega) ((jA8_al ih).1 w)), jup_ne (by omega)]; exact ih i k q
theorem jTg_st {t : JH} (o1 : ∀ i : Int, 0 ≤ i → i < t 119 6 → 0 ≤ t 124 i ∧ t 124 i < 16) : ∀ n : Nat, (n : Int) ≤ t 119 6 → jit (jTg 119 120 126 124) n t 119 10 = 0 → jA8 t (jit (jTg 119 120 126 124) n t) ∧ ∀ i : Int, 0 ≤ i → i < n → t (126 + 3 * t 124 i) 3 = 1 → t (126 + 3 * t 124 i) 7 = 0 → ¬ jAl 120 (126 + 3 * t 124 i + 1) t
  | 0, _, _ => ⟨fun _ _ _ => rfl, fun i a b => absurd b (by omega)⟩
  | n + 1, hn, z => by
      have l := o1 n (by omega) (by omega)
      have z' : jTg 119 120 126 124 n (jit (jTg 119 120 126 124) n t) 119 10 = 0 := z
      have ih := jTg_st o1 n (by omega)
      have goal' : jA8 t (jTg 119 120 126 124 n (jit (jTg 119 120 126 124) n t)) ∧ ∀ i : Int, 0 ≤ i → i < ((n + 1 : Nat) : Int) → t (126 + 3 * t 124 i) 3 = 1 → t (126 + 3 * t 124 i) 7 = 0 → ¬ jAl 120 (126 + 3 * t 124 i + 1) t := by
        generalize jit (jTg 119 120 126 124) n t = Z at ih z'
        unfold jTg at z' ⊢
        by_cases c : ¬ Z (126 + 3 * Z 124 n) 3 = 1 ∨ ¬ Z (126 + 3 * Z 124 n) 7 = 0
        · rw [if_pos c] at z' ⊢
          obtain ⟨i1, i2⟩ := ih z'
          refine ⟨i1, fun i a b p q => ?_⟩
          by_cases y : i = (n : Int)
          · exfalso
            rw [y] at p q
            rw [i1 124 n (by omega), i1 _ 3 (by omega), i1 _ 7 (by omega)] at c
            omega
          · exact i2 i a (by omega) p q
        · rw [if_neg c] at z' ⊢
          by_cases w : jAl 120 (126 + 3 * Z 124 n + 1) Z
          · rw [if_pos w, jup_eq] at z'
            exact absurd z' (by decide)
          · rw [if_neg w] at z' ⊢
            rw [jup_ne (by omega)] at z'
            obtain ⟨i1, i2⟩ := ih z'
            have e4 : Z 124 n = t 124 n := i1 _ _ (by omega)
            refine ⟨fun i k q => ?_, fun i a b p q => ?_⟩
            · rw [e4]
              rw [jup_ne (by omega)]; exact i1 i k q
            · by_cases y : i = (n : Int)
              · rw [e4] at w
                rw [y]
                exact fun v => w ((jA8_al i1).2 v)
              · exact i2 i a (by omega) p q
      exact goal'
/-- alike but for whether anything stirred -/
def jA10 (t t' : JH) : Prop := ∀ i k : Int, ¬ (i = 119 ∧ k = 10) → t' i k = t i k
/-- what work leaves where nobody works -/
theorem jDw_id {C : JH} {cr : Int} (o1 : ∀ i : Int, 0 ≤ i → i < C 119 6 → 0 ≤ C 124 i ∧ C 124 i < 16) (o4 : ∀ i : Int, 0 ≤ i → i < C 119 6 → C (126 + 3 * C 124 i) 3 = 1 → (0 ≤ C (126 + 3 * C 124 i) 5 ∧ C (126 + 3 * C 124 i) 5 ≤ 3) ∧ 0 ≤ C (126 + 3 * C 124 i) 6 ∧ C (126 + 3 * C 124 i) 6 ≤ 2000) (hw : ∀ c : Int, 0 ≤ c → c < 4 → 0 ≤ C 125 c ∧ C 125 c ≤ 400) (hc : 0 ≤ cr)
    (no : ∀ i : Int, 0 ≤ i → i < C 119 6 → C (126 + 3 * C 124 i) 3 = 1 → ¬ C (126 + 3 * C 124 i) 7 = 0 → 0 < C (126 + 3 * C 124 i) 6 → cr ≤ 0 ∨ C 125 (C (126 + 3 * C 124 i) 5) ≤ 0) : ∀ n : Nat, (n : Int) ≤ C 119 6 → jA10 C (jit (jDw 119 125 126 124 cr) n C)
  | 0, _ => fun _ _ _ => rfl
  | n + 1, hn => by
      have ih := jDw_id o1 o4 hw hc no n (by omega)
      have l := o1 n (by omega) (by omega)
      intro i k q
      show jDw 119 125 126 124 cr n (jit (jDw 119 125 126 124 cr) n C) i k = C i k
      generalize jit (jDw 119 125 126 124 cr) n C = Z at ih
      unfold jDw
      have e4 : Z 124 n = C 124 n := ih _ _ (by omega)
      rw [e4, ih _ 3 (by omega), ih _ 7 (by omega), ih _ 6 (by omega)]
      by_cases c : C (126 + 3 * C 124 n) 3 = 1 ∧ ¬ C (126 + 3 * C 124 n) 7 = 0 ∧ 0 < C (126 + 3 * C 124 n) 6
      · rw [if_pos c]
        have p := o4 n (by omega) (by omega) c.1
        have w := hw _ p.1.1 (by omega)
        have nn := no n (by omega) (by omega) c.1 c.2.1 c.2.2
        have s0 : jSt 125 (126 + 3 * C 124 n) cr Z = 0 := by
          unfold jSt jmin
          rw [ih _ 5 (by omega), ih 125 _ (by omega), ih _ 6 (by omega)]
          repeat' split
          all_goals omega
        rw [s0]
        unfold jD3 jD2 jD1
        rw [jup_ne q]
        by_cases y : i = 126 + 3 * C 124 n ∧ k = 6
        · rw [y.1, y.2, jup_eq, jup_ne (by omega), ih _ 6 (by omega)]
          rw [j32e (by omega) (by omega)]; omega
        · rw [jup_ne y]
          by_cases x : i = 125 ∧ k = C (126 + 3 * C 124 n) 5
          · rw [ih _ 5 (by omega), x.1, x.2, jup_eq, ih 125 _ (by omega)]
            rw [j32e (by omega) (by omega)]; omega
          · rw [ih _ 5 (by omega), jup_ne x]; exact ih i k q
      · rw [if_neg c]; exact ih i k q
theorem jDw_st {C : JH} {cr : Int} (o1 : ∀ i : Int, 0 ≤ i → i < C 119 6 → 0 ≤ C 124 i ∧ C 124 i < 16) (o4 : ∀ i : Int, 0 ≤ i → i < C 119 6 → C (126 + 3 * C 124 i) 3 = 1 → (0 ≤ C (126 + 3 * C 124 i) 5 ∧ C (126 + 3 * C 124 i) 5 ≤ 3) ∧ 0 ≤ C (126 + 3 * C 124 i) 6 ∧ C (126 + 3 * C 124 i) 6 ≤ 2000) (hw : ∀ c : Int, 0 ≤ c → c < 4 → 0 ≤ C 125 c ∧ C 125 c ≤ 400) (hc : 0 ≤ cr) : ∀ n : Nat, (n : Int) ≤ C 119 6 → jit (jDw 119 125 126 124 cr) n C 119 10 = 0 → jA10 C (jit (jDw 119 125 126 124 cr) n C) ∧ C 119 10 = 0
  | 0, _, z => ⟨fun _ _ _ => rfl, z⟩
  | n + 1, hn, z => by
      have ih := jDw_st o1 o4 hw hc n (by omega)
      have l := o1 n (by omega) (by omega)
      have z' : jDw 119 125 126 124 cr n (jit (jDw 119 125 126 124 cr) n C) 119 10 = 0 := z
      have goal' : jA10 C (jDw 119 125 126 124 cr n (jit (jDw 119 125 126 124 cr) n C)) ∧ C 119 10 = 0 := by
        generalize jit (jDw 119 125 126 124 cr) n C = Z at ih z'
        unfold jDw at z' ⊢
        by_cases c : Z (126 + 3 * Z 124 n) 3 = 1 ∧ ¬ Z (126 + 3 * Z 124 n) 7 = 0 ∧ 0 < Z (126 + 3 * Z 124 n) 6
        · rw [if_pos c] at z' ⊢
          generalize hs : jSt 125 (126 + 3 * Z 124 n) cr Z = s at z' ⊢
          unfold jD3 at z'
          rw [jup_eq] at z'
          by_cases y : ¬ jD2 (126 + 3 * Z 124 n) s (jD1 125 (126 + 3 * Z 124 n) s Z) 119 10 = 0 ∨ 0 < s
          · rw [if_pos y] at z'; exact absurd z' (by decide)
          · have y1 : jD2 (126 + 3 * Z 124 n) s (jD1 125 (126 + 3 * Z 124 n) s Z) 119 10 = 0 := by omega
            have y2 : ¬ 0 < s := fun w => y (Or.inr w)
            unfold jD2 jD1 at y1
            rw [jup_ne (by omega), jup_ne (by omega)] at y1
            obtain ⟨i1, i2⟩ := ih y1
            refine ⟨?_, i2⟩
            have e4 : Z 124 n = C 124 n := i1 _ _ (by omega)
            rw [e4, i1 _ 3 (by omega), i1 _ 7 (by omega), i1 _ 6 (by omega)] at c
            have p := o4 n (by omega) (by omega) c.1
            have w := hw _ p.1.1 (by omega)
            have s0 : s = 0 := by
              rw [← hs] at y2 ⊢
              unfold jSt jmin at y2 ⊢
              rw [e4, i1 _ 5 (by omega), i1 125 _ (by omega), i1 _ 6 (by omega)] at y2 ⊢
              revert y2
              repeat' split
              all_goals (intro y2; omega)
            intro i k q
            rw [s0, e4]
            unfold jD3 jD2 jD1
            rw [jup_ne q]
            by_cases y : i = 126 + 3 * C 124 n ∧ k = 6
            · rw [y.1, y.2, jup_eq, jup_ne (by omega), i1 _ 6 (by omega)]
              rw [j32e (by omega) (by omega)]; omega
            · rw [jup_ne y]
              by_cases x : i = 125 ∧ k = C (126 + 3 * C 124 n) 5
              · rw [i1 _ 5 (by omega), x.1, x.2, jup_eq, i1 125 _ (by omega)]
                rw [j32e (by omega) (by omega)]; omega
              · rw [i1 _ 5 (by omega), jup_ne x]; exact i1 i k q
        · rw [if_neg c] at z' ⊢
          obtain ⟨i1, i2⟩ := ih z'
          exact ⟨i1, i2⟩
      exact goal'
/-- the end of such a day -/
theorem jTD_e {r : Int} {t P3 W : JH} (O : jOk t) (A : jAo r t) (g3 : ∀ i k : Int, ¬ (i = 119 ∧ k = 10) → ¬ (126 ≤ i ∧ i ≤ 173 ∧ k = 8) → P3 i k = t i k) (gw : jA10 (jcp P3 114 (r * 4) 125 0 4) W) :
    jAg t (jDk 119 120 (jP5 119 116 r (jit (jDi 119 125) 4 W) 117 r) (jP5 119 116 r (jit (jDi 119 125) 4 W))) ∧ (∀ x : Int, 0 ≤ x → x < 6 → jDk 119 120 (jP5 119 116 r (jit (jDi 119 125) 4 W) 117 r) (jP5 119 116 r (jit (jDi 119 125) 4 W)) 120 x ≤ t 120 x) ∧ 0 ≤ jDk 119 120 (jP5 119 116 r (jit (jDi 119 125) 4 W) 117 r) (jP5 119 116 r (jit (jDi 119 125) 4 W)) 120 5 := by
  have v : ∀ i k : Int, ¬ (i = 119 ∧ 7 ≤ k ∧ k ≤ 10) → ¬ i = 125 → ¬ (126 ≤ i ∧ i ≤ 173 ∧ k = 8) → jP5 119 116 r (jit (jDi 119 125) 4 W) i k = t i k := fun i k a b c => by
    unfold jP5
    rw [jup_ne (by omega)]
    have e : jit (jDi 119 (119 + 6)) 4 W i k = W i k := jDi_f 4 i k (by omega)
    have e' : jit (jDi 119 125) 4 W i k = W i k := e
    rw [e', gw i k (by omega)]
    have e2 : jcp P3 114 (r * 4) 125 0 4 i k = P3 i k := if_neg (by omega)
    rw [e2]
    exact g3 i k (by omega) c
  generalize jP5 119 116 r (jit (jDi 119 125) 4 W) = Q at v
  have q5 : Q 120 5 = t 120 5 := v _ _ (by omega) (by omega) (by omega)
  have qw : Q 117 r = t 117 r := v _ _ (by omega) (by omega) (by omega)
  have s5 := O.2.2.1
  have w0 := A.2.2
  have D := jDk_r (Y := 119) (S := 120) (w := Q 117 r) (h := Q) (by decide)
  have d5 : jDk 119 120 (Q 117 r) Q 120 5 = t 120 5 - jmin (t 117 r) (t 120 5) := by
    rw [D.1, qw, q5]
    have m : 0 ≤ jmin (t 117 r) (t 120 5) ∧ jmin (t 117 r) (t 120 5) ≤ t 120 5 := by unfold jmin; split <;> omega
    exact j32e (by omega) (by omega)
  have m : 0 ≤ jmin (t 117 r) (t 120 5) ∧ jmin (t 117 r) (t 120 5) ≤ t 120 5 := by unfold jmin; split <;> omega
  refine ⟨fun i k a b c e => ?_, fun x a b => ?_, by omega⟩
  · rw [D.2 i k (by omega) (by omega)]; exact v i k a c e
  · by_cases z : x = 5
    · rw [z, d5]; omega
    · rw [D.2 120 x (by omega) (by omega), v 120 x (by omega) (by omega) (by omega)]; exact Int.le_refl _
theorem jTD_u {d r : Int} {t : JH} : jTD d r t = jDk 119 120 (jP5 119 116 r (jit (jDi 119 125) 4 (jit (jDw 119 125 126 124 (jQ3 119 120 121 126 124 d t 115 r)) (jcp (jQ3 119 120 121 126 124 d t) 114 (r * 4) 125 0 4 119 6).toNat (jcp (jQ3 119 120 121 126 124 d t) 114 (r * 4) 125 0 4))) 117 r) (jP5 119 116 r (jit (jDi 119 125) 4 (jit (jDw 119 125 126 124 (jQ3 119 120 121 126 124 d t 115 r)) (jcp (jQ3 119 120 121 126 124 d t) 114 (r * 4) 125 0 4 119 6).toNat (jcp (jQ3 119 120 121 126 124 d t) 114 (r * 4) 125 0 4)))) := by
  have e : jcp (jQ3 119 120 121 126 124 d t) 114 (r * 4) 125 0 4 119 6 = jQ3 119 120 121 126 124 d t 119 6 := if_neg (by omega)
  rw [e]
  rfl
theorem jC_ok {t P3 : JH} {r : Int} (O : jOk t) (A : jAo r t) (g3 : ∀ i k : Int, ¬ (i = 119 ∧ k = 10) → ¬ (126 ≤ i ∧ i ≤ 173 ∧ k = 8) → P3 i k = t i k) :
    (∀ i k : Int, ¬ (i = 119 ∧ k = 10) → ¬ i = 125 → ¬ (126 ≤ i ∧ i ≤ 173 ∧ k = 8) → jcp P3 114 (r * 4) 125 0 4 i k = t i k) ∧ (∀ c : Int, 0 ≤ c → c < 4 → jcp P3 114 (r * 4) 125 0 4 125 c = t 114 (r * 4 + c) ∧ 0 ≤ t 114 (r * 4 + c) ∧ t 114 (r * 4 + c) ≤ 400) := by
  refine ⟨fun i k a b c => ?_, fun c a b => ?_⟩
  · have e2 : jcp P3 114 (r * 4) 125 0 4 i k = P3 i k := if_neg (by omega)
    rw [e2]; exact g3 i k a c
  · have e2 : jcp P3 114 (r * 4) 125 0 4 125 c = P3 114 (r * 4 + (c - 0)) := if_pos ⟨rfl, by omega, by omega⟩
    rw [e2, g3 114 _ (by omega) (by omega), show r * 4 + (c - 0) = r * 4 + c by omega]
    exact ⟨rfl, A.1 c a b⟩
set_option maxHeartbeats 1000000 in
/-- a day on which nothing can stir -/
theorem jStk_day {d r : Int} {t : JH} (O : jOk t) (A : jAo r t) (S : jStk r t) (hr : 0 ≤ r ∧ r < 300) : jAg t (jTD d r t) ∧ (∀ x : Int, 0 ≤ x → x < 6 → jTD d r t 120 x ≤ t 120 x) ∧ 0 ≤ jTD d r t 120 5 := by
  obtain ⟨sa, sb, sc, sd⟩ := S
  obtain ⟨o1, o2, o3, o4, o5⟩ := O
  have e0 : ∀ i k : Int, ¬ (i = 119 ∧ k = 10) → jup t 119 10 0 i k = t i k := fun i k q => jup_ne q
  have p1 : jP1 119 121 126 d t = jup t 119 10 0 := by
    unfold jP1
    refine jit_id 6 (fun i hi => jMvr_id ?_)
    have s := sa (5 - (i : Int)) (by omega) (by omega)
    rw [e0 121 (5 - (i : Int)) (by omega), e0 121 (5 - (i : Int) + 1) (by omega), e0 _ 7 (by omega), e0 _ 6 (by omega)]
    exact s
  have p2 : jP2 119 121 126 124 (jup t 119 10 0) = jup t 119 10 0 := by
    unfold jP2
    refine jit_id _ (fun i hi => jLin_id ?_)
    rw [e0 119 6 (by omega)] at hi
    rw [e0 121 0 (by omega), e0 124 i (by omega), e0 _ 3 (by omega)]
    rcases sb with z | z
    · exact Or.inl z
    · exact Or.inr (z i (by omega) (by omega))
  have q3e : jQ3 119 120 121 126 124 d t = jP3 119 120 126 124 (jup t 119 10 0) := by unfold jQ3; rw [p1, p2]
  have g3 : ∀ i k : Int, ¬ (i = 119 ∧ k = 10) → ¬ (126 ≤ i ∧ i ≤ 173 ∧ k = 8) → jQ3 119 120 121 126 124 d t i k = t i k := fun i k a b => by
    rw [q3e]
    unfold jP3
    have k8 := jTg_id (t := jup t 119 10 0) (fun i a b => by rw [e0 124 i (by omega)]; exact o1 i a (by rw [e0 119 6 (by omega)] at b; exact b)) (fun i a b c d => by
      rw [e0 119 6 (by omega)] at b
      rw [e0 124 i (by omega)] at c d ⊢
      rw [e0 _ 3 (by omega)] at c
      rw [e0 _ 7 (by omega)] at d
      intro w
      unfold jAl at w
      rw [e0 _ 0 (by omega), e0 _ 1 (by omega), e0 _ 2 (by omega), e0 _ 3 (by omega), e0 _ 4 (by omega), e0 _ 5 (by omega), e0 120 0 (by omega), e0 120 1 (by omega), e0 120 2 (by omega), e0 120 3 (by omega), e0 120 4 (by omega), e0 120 5 (by omega)] at w
      exact sc i a b c d w) (jup t 119 10 0 119 6).toNat (by rw [e0 119 6 (by omega)]; omega)
    rw [k8 i k b]; exact e0 i k a
  rw [jTD_u]
  obtain ⟨c1, c2⟩ := jC_ok ⟨o1, o2, o3, o4, o5⟩ A g3
  generalize jQ3 119 120 121 126 124 d t = P3 at g3 c1 c2
  have cr : P3 115 r = t 115 r := g3 _ _ (by omega) (by omega)
  refine jTD_e ⟨o1, o2, o3, o4, o5⟩ A g3 ?_
  rw [cr]
  generalize jcp P3 114 (r * 4) 125 0 4 = C at c1 c2
  have c6 : C 119 6 = t 119 6 := c1 _ _ (by omega) (by omega) (by omega)
  have c4 : ∀ i : Int, C 124 i = t 124 i := fun i => c1 _ _ (by omega) (by omega) (by omega)
  refine jDw_id (fun i a b => by rw [c4]; exact o1 i a (by omega)) (fun i a b c => ?_) (fun c a b => by rw [(c2 c a b).1]; exact (c2 c a b).2) A.2.1 (fun i a b c e f => ?_) _ (by omega)
  · rw [c6] at b
    have l := o1 i a b
    rw [c4] at c ⊢
    rw [c1 _ 3 (by omega) (by omega) (by omega)] at c
    rw [c1 _ 5 (by omega) (by omega) (by omega), c1 _ 6 (by omega) (by omega) (by omega)]
    exact o4 i a b c
  · rw [c6] at b
    have l := o1 i a b
    rw [c4] at c e f ⊢
    rw [c1 _ 3 (by omega) (by omega) (by omega)] at c
    rw [c1 _ 7 (by omega) (by omega) (by omega)] at e
    rw [c1 _ 6 (by omega) (by omega) (by omega)] at f
    have o := o4 i a b c
    rw [c1 _ 5 (by omega) (by omega) (by omega), (c2 _ o.1.1 (by omega)).1]
    exact sd i a b c e f r (Int.le_refl _) hr.2
set_option maxHeartbeats 1000000 in
/-- a day on which nothing has stirred -/
theorem jStk_st {d r : Int} {t : JH} (O : jOk t) (A : jAo r t) (z : jTD d r t 119 10 = 0) : (jAg t (jTD d r t) ∧ (∀ x : Int, 0 ≤ x → x < 6 → jTD d r t 120 x ≤ t 120 x) ∧ 0 ≤ jTD d r t 120 5) ∧ jSa t ∧ jSb t ∧ jSc t := by
  obtain ⟨o1, o2, o3, o4, o5⟩ := O
  have e0 : ∀ i k : Int, ¬ (i = 119 ∧ k = 10) → jup t 119 10 0 i k = t i k := fun i k q => jup_ne q
  -- back from the end
  rw [jTD_u] at z ⊢
  have z4 : jit (jDw 119 125 126 124 (jQ3 119 120 121 126 124 d t 115 r)) (jcp (jQ3 119 120 121 126 124 d t) 114 (r * 4) 125 0 4 119 6).toNat (jcp (jQ3 119 120 121 126 124 d t) 114 (r * 4) 125 0 4) 119 10 = 0 := by
    have D := fun w : Int => jDk_r (Y := 119) (S := 120) (w := w) (h := jP5 119 116 r (jit (jDi 119 125) 4 (jit (jDw 119 125 126 124 (jQ3 119 120 121 126 124 d t 115 r)) (jcp (jQ3 119 120 121 126 124 d t) 114 (r * 4) 125 0 4 119 6).toNat (jcp (jQ3 119 120 121 126 124 d t) 114 (r * 4) 125 0 4)))) (by decide)
    rw [(D _).2 119 10 (by decide) (by decide)] at z
    unfold jP5 at z
    rw [jup_ne (by decide)] at z
    have e : jit (jDi 119 (119 + 6)) 4 (jit (jDw 119 125 126 124 (jQ3 119 120 121 126 124 d t 115 r)) (jcp (jQ3 119 120 121 126 124 d t) 114 (r * 4) 125 0 4 119 6).toNat (jcp (jQ3 119 120 121 126 124 d t) 114 (r * 4) 125 0 4)) 119 10 = _ := jDi_f 4 119 10 (by decide)
    exact e.symm.trans z
  clear z
  have z3 : jQ3 119 120 121 126 124 d t 119 10 = 0 := by
    have q := jit_mo (fun i h w => jDw_mo w) _ z4
    have e : jcp (jQ3 119 120 121 126 124 d t) 114 (r * 4) 125 0 4 119 10 = jQ3 119 120 121 126 124 d t 119 10 := if_neg (by omega)
    exact e.symm.trans q
  have z2 : jP2 119 121 126 124 (jP1 119 121 126 d t) 119 10 = 0 := by
    unfold jQ3 jP3 at z3
    exact jit_mo (fun i h w => jTg_mo w) _ z3
  obtain ⟨p2, p2'⟩ := jit_st (f := jLin 119 121 126 124) (fun i h w => (jLin_st w).1) _ (show jit (jLin 119 121 126 124) (jP1 119 121 126 d t 119 6).toNat (jP1 119 121 126 d t) 119 10 = 0 from z2)
  have p2e : jP2 119 121 126 124 (jP1 119 121 126 d t) = jP1 119 121 126 d t := p2
  have z1 : jP1 119 121 126 d t 119 10 = 0 := by rw [← p2e]; exact z2
  obtain ⟨p1, p1'⟩ := jit_st (f := jMvr 119 121 126 d) (fun i h w => (jMvr_st w).1) 6 (show jit (jMvr 119 121 126 d) 6 (jup t 119 10 0) 119 10 = 0 from z1)
  have p1e : jP1 119 121 126 d t = jup t 119 10 0 := p1
  rw [p1e] at p2e p2' z1
  have u0 : jup t 119 10 0 119 10 = 0 := jup_eq
  have sa : jSa t := fun b a c => by
    have e := p1' (5 - b).toNat (by omega)
    have w := (jMvr_st (i := ((5 - b).toNat : Nat)) (h := jup t 119 10 0) (d := d) (by rw [e]; exact u0)).2
    rw [show 5 - (((5 - b).toNat : Nat) : Int) = b by omega, e0 121 b (by omega), e0 121 (b + 1) (by omega), e0 _ 7 (by omega), e0 _ 6 (by omega)] at w
    exact w
  have sb : jSb t := by
    by_cases y : t 121 0 = -1
    · refine Or.inr (fun i a b => ?_)
      have e := p2' i.toNat (by rw [e0 119 6 (by omega)]; omega)
      have w := (jLin_st (i := ((i.toNat : Nat) : Int)) (h := jup t 119 10 0) (by rw [e]; exact u0)).2
      rw [show ((i.toNat : Nat) : Int) = i by omega, e0 121 0 (by omega), e0 124 i (by omega), e0 _ 3 (by omega)] at w
      rcases w with w | w
      · exact absurd y w
      · exact w
    · exact Or.inl y
  have q3e : jQ3 119 120 121 126 124 d t = jP3 119 120 126 124 (jup t 119 10 0) := by unfold jQ3; rw [p1e, p2e]
  have k8 := jTg_st (t := jup t 119 10 0) (fun i a b => by rw [e0 124 i (by omega)]; exact o1 i a (by rw [e0 119 6 (by omega)] at b; exact b)) (jup t 119 10 0 119 6).toNat (by rw [e0 119 6 (by omega)]; omega) (by rw [q3e] at z3; exact z3)
  have sc : jSc t := fun i a b c e => by
    have w := k8.2 i a (by rw [e0 119 6 (by omega)]; omega)
    rw [e0 124 i (by omega), e0 _ 3 (by omega), e0 _ 7 (by omega)] at w
    have n := w c e
    intro v
    refine n ?_
    unfold jAl
    rw [e0 _ 0 (by omega), e0 _ 1 (by omega), e0 _ 2 (by omega), e0 _ 3 (by omega), e0 _ 4 (by omega), e0 _ 5 (by omega), e0 120 0 (by omega), e0 120 1 (by omega), e0 120 2 (by omega), e0 120 3 (by omega), e0 120 4 (by omega), e0 120 5 (by omega)]
    exact v
  refine ⟨?_, sa, sb, sc⟩
  have g3 : ∀ i k : Int, ¬ (i = 119 ∧ k = 10) → ¬ (126 ≤ i ∧ i ≤ 173 ∧ k = 8) → jQ3 119 120 121 126 124 d t i k = t i k := fun i k a b => by
    rw [q3e]
    have w := k8.1 i k b
    exact w.trans (e0 i k a)
  clear z3 z2 q3e
  obtain ⟨c1, c2⟩ := jC_ok ⟨o1, o2, o3, o4, o5⟩ A g3
  generalize jQ3 119 120 121 126 124 d t = P3 at g3 c1 c2 z4 ⊢
  have cr : P3 115 r = t 115 r := g3 _ _ (by omega) (by omega)
  refine jTD_e ⟨o1, o2, o3, o4, o5⟩ A g3 ?_
  rw [cr] at z4 ⊢
  generalize jcp P3 114 (r * 4) 125 0 4 = C at c1 c2 z4
  have c6 : C 119 6 = t 119 6 := c1 _ _ (by omega) (by omega) (by omega)
  have c4 : ∀ i : Int, C 124 i = t 124 i := fun i => c1 _ _ (by omega) (by omega) (by omega)
  refine (jDw_st (fun i a b => by rw [c4]; exact o1 i a (by omega)) (fun i a b c => ?_) (fun c a b => by rw [(c2 c a b).1]; exact (c2 c a b).2) A.2.1 _ (by omega) z4).1
  rw [c6] at b
  have l := o1 i a b
  rw [c4] at c ⊢
  rw [c1 _ 3 (by omega) (by omega) (by omega)] at c
  rw [c1 _ 5 (by omega) (by omega) (by omega), c1 _ 6 (by omega) (by omega) (by omega)]
  exact o4 i a b c
