/-! ===== A DAY: what its steps do to the picture ===== -/
def jmin (x y : Int) : Int := if x ≤ y then x else y
def jmii (x y : Int) : Int := if x < y then x else y
def jit (f : Int → JH → JH) : Nat → JH → JH
  | 0, h => h
  | n + 1, h => f n (jit f n h)
theorem jit_s {f : Int → JH → JH} {h : JH} {i : Int} (h0 : 0 ≤ i) : jit f (i + 1).toNat h = f i (jit f i.toNat h) := by
  obtain ⟨n, rfl⟩ := Int.eq_ofNat_of_zero_le h0
  rfl
/-! the class: a hull u comes into basin b; leaves on day d; berth; from basin b on; the first that waits -/
def jE1 (u b : Int) (h : JH) : JH := jup (jup h u 3 1) u 4 b
def jE2 (u b : Int) (h : JH) : JH := jup h u 5 (h (18 + h u 0) b)
def jE3 (u b : Int) (h : JH) : JH := jup h u 6 (h (22 + h u 0) b)
def jE4 (u : Int) (h : JH) : JH := jup h u 7 0
def jE6 (u g : Int) (h : JH) : JH := jup h (u + 2) g (jw32 (h (u + 2) g + h (u + 1) g))
def jE5 (u b g : Int) (h : JH) : JH := jE6 u g (jup h (u + 1) g (h (26 + h u 0) (b * 6 + g)))
def jEnt (u b : Int) (h : JH) : JH := jit (jE5 u b) 6 (jE4 u (jE3 u b (jE2 u b (jE1 u b h))))
def jLv (u d : Int) (h : JH) : JH := jup (jup (jup (jup h u 3 2) u 4 (-9)) u 7 0) u 9 d
def jBrt (Y B H k b : Int) (h : JH) : JH := jup (jEnt (H + 3 * k) b (jup h B b k)) Y 10 1
def jMv (Y B H d b : Int) (h : JH) : JH :=
  if h B b < 0 ∨ h (H + 3 * h B b) 7 = 0 ∨ ¬ h (H + 3 * h B b) 6 = 0 then h
  else if b = 5 then jup (jLv (H + 3 * h B b) d (jup h B b (-1))) Y 10 1
  else if h B (b + 1) = -1 then jBrt Y B H (h B b) (b + 1) (jup h B b (-1))
  else h
def jMvr (Y B H d j : Int) (h : JH) : JH := jMv Y B H d (5 - j) h
def jLin (Y B H L i : Int) (h : JH) : JH := if ¬ h B 0 = -1 then h else if h (H + 3 * h L i) 3 = 0 then jBrt Y B H (h L i) 0 h else h
/-! goods: all that is needed is there; taken; a day of lack -/
abbrev jAl (S u : Int) (h : JH) : Prop := h u 0 ≤ h S 0 ∧ h u 1 ≤ h S 1 ∧ h u 2 ≤ h S 2 ∧ h u 3 ≤ h S 3 ∧ h u 4 ≤ h S 4 ∧ h u 5 ≤ h S 5
def jTs (S u g : Int) (h : JH) : JH := jup h S g (jw32 (h S g - h u g))
def jTg (Y S H L i : Int) (h : JH) : JH :=
  if ¬ h (H + 3 * h L i) 3 = 1 ∨ ¬ h (H + 3 * h L i) 7 = 0 then h
  else if jAl S (H + 3 * h L i + 1) h then jup (jup (jit (jTs S (H + 3 * h L i + 1)) 6 h) (H + 3 * h L i) 7 1) Y 10 1
  else jup h (H + 3 * h L i) 8 (jw32 (h (H + 3 * h L i) 8 + 1))
/-! work -/
def jD1 (W u s : Int) (h : JH) : JH := jup h W (h u 5) (jw32 (h W (h u 5) - s))
def jD2 (u s : Int) (h : JH) : JH := jup h u 6 (jw32 (h u 6 - s))
def jD3 (Y s : Int) (h : JH) : JH := jup h Y 10 (if ¬ h Y 10 = 0 ∨ 0 < s then 1 else 0)
def jSt (W u c : Int) (h : JH) : Int := jmin (jmin (h W (h u 5)) c) (h u 6)
def jDw (Y W H L c i : Int) (h : JH) : JH :=
  if h (H + 3 * h L i) 3 = 1 ∧ ¬ h (H + 3 * h L i) 7 = 0 ∧ 0 < h (H + 3 * h L i) 6
  then jD3 Y (jSt W (H + 3 * h L i) c h) (jD2 (H + 3 * h L i) (jSt W (H + 3 * h L i) c h) (jD1 W (H + 3 * h L i) (jSt W (H + 3 * h L i) c h) h)) else h
def jDi (Y W c : Int) (h : JH) : JH := jup h Y 9 (jw32 (h Y 9 + h W c))
def jDk (Y S w : Int) (h : JH) : JH := jup (jup h S 5 (jw32 (h S 5 - jmin w (h S 5)))) Y 8 (jw32 (jup h S 5 (jw32 (h S 5 - jmin w (h S 5))) Y 8 + jw32 (w - jmin w (h S 5))))
theorem jLin_stop {Y B H L : Int} {h : JH} {i : Nat} (q : ¬ jit (jLin Y B H L) i h B 0 = -1) : ∀ n : Nat, i ≤ n → jit (jLin Y B H L) n h = jit (jLin Y B H L) i h := by
  intro n
  induction n with
  | zero => intro hi; rw [show i = 0 by omega]
  | succ n ih =>
      intro hi
      by_cases z : i = n + 1
      · rw [z]
      · have e := ih (by omega)
        show jLin Y B H L n (jit (jLin Y B H L) n h) = _
        rw [e]
        exact if_pos q
/-! a day of a yard: moves, the first that waits, goods, work, pay, wine -/
def jP1 (Y B H d : Int) (h : JH) : JH := jit (jMvr Y B H d) 6 (jup h Y 10 0)
def jP2 (Y B H L : Int) (h : JH) : JH := jit (jLin Y B H L) (h Y 6).toNat h
def jP3 (Y S H L : Int) (h : JH) : JH := jit (jTg Y S H L) (h Y 6).toNat h
def jP4 (Y W H L A f c : Int) (h : JH) : JH := jit (jDi Y W) 4 (jit (jDw Y W H L c) (h Y 6).toNat (jcp h A f W 0 4))
def jP5 (Y A r : Int) (h : JH) : JH := jup h Y 7 (jw32 (h Y 7 + h A r))
/-! ===== THE REFERENCE'S DAY ===== -/
def jKy (h : JH) (k : Int) : Int := (99 - h 190 k) * 16 + k
def jfb (h : JH) (a w : Int) : Nat → Int
  | 0 => -1
  | n + 1 => if h 192 n = w ∧ (a < 0 ∨ jKy h a < jKy h n) ∧ (jfb h a w n < 0 ∨ jKy h n < jKy h (jfb h a w n)) then (n : Int) else jfb h a w n
theorem jfb_s {h : JH} {a w i : Int} (h0 : 0 ≤ i) : jfb h a w (i + 1).toNat = if h 192 i = w ∧ (a < 0 ∨ jKy h a < jKy h i) ∧ (jfb h a w i.toNat < 0 ∨ jKy h i < jKy h (jfb h a w i.toNat)) then i else jfb h a w i.toNat := by
  obtain ⟨n, rfl⟩ := Int.eq_ofNat_of_zero_le h0
  rfl
def jmE0 (k b : Int) (h : JH) : JH := jup (jup (jup h 202 b k) 192 k 1) 193 k b
def jmE1 (k i : Int) (h : JH) : JH := jup h 194 k (h 186 i)
def jmE2 (k i : Int) (h : JH) : JH := jup h 195 k (h 187 i)
def jmE3 (k : Int) (h : JH) : JH := jup h 196 k 0
def jmE6 (k i g : Int) (h : JH) : JH := jup h 200 (6 * k + g) (jw32 (h 200 (6 * k + g) + h 188 (6 * i + g)))
def jmE5 (k i g : Int) (h : JH) : JH := jmE6 k i g (jup h 199 (6 * k + g) (h 188 (6 * i + g)))
def jmE7 (k i : Int) (h : JH) : JH := jit (jmE5 k i) 6 (jmE3 k (jmE2 k i (jmE1 k i h)))
def jmEnt (k b : Int) (h : JH) : JH := jmE7 k (6 * jmE0 k b h 189 k + b) (jmE0 k b h)
def jmLv (k : Int) (h : JH) : JH := jup (jup (jup h 192 k 2) 193 k (-9)) 198 k (jup (jup h 192 k 2) 193 k (-9) 176 0)
def jmMv (b : Int) (h : JH) : JH :=
  if h 202 b < 0 ∨ h 202 b = 100 ∨ h 196 (h 202 b) = 0 ∨ 0 < h 195 (h 202 b) then h
  else if b = 5 then jmLv (h 202 b) (jup h 202 b (-1))
  else if h 202 (b + 1) < 0 then jmEnt (h 202 b) (b + 1) (jup h 202 b (-1))
  else h
def jmMr (j : Int) (h : JH) : JH := jmMv (5 - j) h
def jmLi (h : JH) : JH := if h 202 0 < 0 ∧ 0 ≤ jfb h (-1) 0 (h 176 14).toNat then jmEnt (jfb h (-1) 0 (h 176 14).toNat) 0 h else h
def jmMA (h : JH) : JH := jmLi (jit jmMr 6 h)
abbrev jmAl (k : Int) (h : JH) : Prop := h 199 (6 * k + 0) ≤ h 181 0 ∧ h 199 (6 * k + 1) ≤ h 181 1 ∧ h 199 (6 * k + 2) ≤ h 181 2 ∧ h 199 (6 * k + 3) ≤ h 181 3 ∧ h 199 (6 * k + 4) ≤ h 181 4 ∧ h 199 (6 * k + 5) ≤ h 181 5
def jmTs (k g : Int) (h : JH) : JH := jup h 181 g (jw32 (h 181 g - h 199 (6 * k + g)))
def jmTf (k a : Int) (h : JH) : JH := jup (jup h 196 k a) 197 k (jw32 (jup h 196 k a 197 k + (if a = 0 then 1 else 0)))
def jmTk (k : Int) (h : JH) : JH := if jmAl k h then jmTf k 1 (jit (jmTs k) 6 h) else jmTf k 0 h
def jch {σ : Type} (op : Int → σ → σ) (nx : Int → σ → Int) : Nat → Int → σ → σ
  | 0, _, s => s
  | n + 1, x, s => if x < 0 then s else jch op nx n (nx x (op x s)) (op x s)
theorem jch_s {σ : Type} {op : Int → σ → σ} {nx : Int → σ → Int} {m x : Int} {s : σ} (h0 : 0 < m) (hx : 0 ≤ x) : jch op nx m.toNat x s = jch op nx (m - 1).toNat (nx x (op x s)) (op x s) := by
  obtain ⟨n, e⟩ := Int.eq_ofNat_of_zero_le (show 0 ≤ m - 1 by omega)
  rw [show m.toNat = n + 1 by omega, show (m - 1).toNat = n by omega]
  exact if_neg (by omega)
theorem jch_e {σ : Type} {op : Int → σ → σ} {nx : Int → σ → Int} {x : Int} {s : σ} (hx : x < 0) (n : Nat) : jch op nx n x s = s := by
  cases n with
  | zero => rfl
  | succ n => exact if_pos hx
def jnx (x : Int) (h : JH) : Int := jfb h x 1 (h 176 14).toNat
def jmGo (k : Int) (h : JH) : JH := if h 196 k = 0 then jmTk k h else h
def jmGA (h : JH) : JH := jch jmGo jnx 1700 (jnx (-1) h) h
def jmFv (h : JH) (k c d : Int) : Int := (jmv (h 182) (h 183) (h 184) (h 185) k c d (h 176 6).toNat).1
def jmSn (cr k l : Int) (h : JH) : Int := jmii (jmii l cr) (h 195 k)
def jmWo (cr c k : Int) (s : Int × JH) : Int × JH := if s.2 196 k = 0 ∨ ¬ s.2 194 k = c then s else (jw32 (s.1 - jmSn cr k s.1 s.2), jup s.2 195 k (jw32 (s.2 195 k - jmSn cr k s.1 s.2)))
def jnx2 (x : Int) (s : Int × JH) : Int := jnx x s.2
def jmWs (wk cr c : Int) (h : JH) : Int × JH := if wk = 0 then (jHm h c (h 176 0), h) else jch (jmWo cr c) jnx2 1700 (jnx (-1) h) (jHm h c (h 176 0), h)
def jmWe (s : Int × JH) : JH := jup s.2 176 32 (jw32 (s.2 176 32 + s.1))
def jmWc (wk cr c : Int) (h : JH) : JH := jmWe (jmWs wk cr c h)
def jmWk (h : JH) : Int := if jmFv h 2 0 (h 176 0) = 0 ∨ ¬ (h 176 0).tmod (jmFv h 2 0 (h 176 0)) = 0 then 1 else 0
def jmWA (h : JH) : JH := jit (jmWc (jmWk h) (jmFv h 3 0 (h 176 0))) 4 h
def jmP1 (c : Int) (h : JH) : JH := jup h 176 30 (jw32 (h 176 30 + jw32 (jHm h c (h 176 0) * jmFv h 0 c (h 176 0))))
def jmP2 (w : Int) (h : JH) : JH := jup h 181 5 (jw32 (h 181 5 - jmii w (h 181 5)))
def jmP3 (w s : Int) (h : JH) : JH := jup h 176 31 (jw32 (h 176 31 + jw32 (w - jmii w s)))
def jmWn (c n : Int) (h : JH) : Int := jw32 (n * jmFv h 1 c (h 176 0))
def jmPy (c : Int) (h : JH) : JH := jmP3 (jmWn c (jHm h c (h 176 0)) (jmP1 c h)) (jmP1 c h 181 5) (jmP2 (jmWn c (jHm h c (h 176 0)) (jmP1 c h)) (jmP1 c h))
def jmPA (h : JH) : JH := jit jmPy 4 h
def jmD0 (h : JH) : JH := jup h 176 0 (h 176 0 + 1)
def jmPs (h : JH) : JH := jmPA (jmWA (jmGA (jmMA (jmD0 h))))
def jmTr (t : Int) (h : JH) : JH := jup h 207 t (jw32 (h 207 t + (if h 208 t < 0 then h 204 (h 205 t) else 0)))
def jmGr (h : JH) : JH := if (h 176 0).tmod 360 = 0 then jit jmTr (h 176 34).toNat h else h
def jmDy (_ : Int) (h : JH) : JH := jmGr (jmPs h)
