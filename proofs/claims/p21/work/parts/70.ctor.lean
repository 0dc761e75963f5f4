/-! ===== CONSTRUCTORS: steps, what they leave ===== -/
/-- rows that constructors fill with -1 -/
def jWi (i : Int) : Prop := i = 4 ∨ i = 10 ∨ i = 31 ∨ i = 121 ∨ i = 178 ∨ i = 179 ∨ i = 202
def jZ (n : Nat) (h : JH) : Prop := ∀ i k : Int, 0 ≤ i → i < n → ¬ jWi i → h i k = 0
/-- from n0 objects and h0 to n objects and h: new ones hold 0 (but for the rows of -1), old ones are as they were -/
def jst (n0 : Nat) (h0 : JH) (n : Nat) (h : JH) : Prop := (jZ n0 h0 → jZ n h) ∧ (∀ i k : Int, i < n0 → h i k = h0 i k) ∧ n0 ≤ n
theorem jst_rf (n : Nat) (h : JH) : jst n h n h := ⟨fun q => q, fun _ _ _ => rfl, Nat.le_refl _⟩
theorem jst_new {n0 n c : Nat} {h0 h h' : JH} (q : jst n0 h0 n h) (e : h' = jnw h n c 0) : jst n0 h0 (n + c) h' := by
  subst e
  obtain ⟨q1, q2, q3⟩ := q
  refine ⟨fun z i k h0 h1 h2 => ?_, fun i k h1 => ?_, by omega⟩
  · unfold jnw
    by_cases g : (n : Int) ≤ i ∧ i < n + c
    · rw [if_pos g]
    · rw [if_neg g]; exact q1 z i k h0 (by omega) h2
  · unfold jnw
    rw [if_neg (by omega)]
    exact q2 i k h1
theorem jst_fr {n0 n : Nat} {h0 h h' : JH} {a : Int} (q : jst n0 h0 n h) (f : jfr (w_fill a) h h') (ha : n0 ≤ a) (hw : jWi a) : jst n0 h0 n h' := by
  obtain ⟨q1, q2, q3⟩ := q
  refine ⟨fun z i k h0 h1 h2 => ?_, fun i k h1 => ?_, q3⟩
  · rw [f i k (fun e => h2 (by rw [show i = a from e]; exact hw))]
    exact q1 z i k h0 h1 h2
  · rw [f i k (fun e => by unfold w_fill at e; omega)]
    exact q2 i k h1
theorem jst_up {n0 n : Nat} {h0 h h' : JH} {a k x : Int} (q : jst n0 h0 n h) (e : h' = jup h a k x) (ha : n0 ≤ a) (hw : jWi a) : jst n0 h0 n h' :=
  jst_fr q (jfr_up (jfr_rf _ _) e rfl) ha hw
theorem jst_tr {n0 n n' : Nat} {h0 h h' : JH} (q : jst n0 h0 n h) (p : jst n h n' h') : jst n0 h0 n' h' := by
  obtain ⟨q1, q2, q3⟩ := q
  obtain ⟨p1, p2, p3⟩ := p
  exact ⟨fun z => p1 (q1 z), fun i k h1 => (p2 i k (by omega)).trans (q2 i k h1), by omega⟩
def jRn (n : Nat) (K : Option JV → JH → JH → Prop) : JR := fun v n' r h => n' = n ∧ K v r h
theorem jMtn {E : JE} {l : Launch} {m0 nL n n1 : Nat} {av ls : List JV} {r h : JH} {K : Option JV → JH → JH → Prop} (hp : plainName (jM m0).1.cls = true) (hL : (jM m0).2.2.1 = nL) (hc : n + (jM m0).2.2.2.2.2.2 = n1) (hn : n1 ≤ 229) (hav : Nat.ble (jarg av).length nL = true) (hls : jloc av nL = ls) (body : jGo E l m0 n n1 (jRn n1 K) 0 ls [] n r h) : jMt E l m0 av n r h K := by
  subst hL
  subst hls
  subst hc
  exact jMt_of hp (Nat.le_of_ble_eq_true hav) hn body
section jcs
variable {E : JE} {l : Launch} {n n1 : Nat} {K : JK} {ls s st : List JV} {r h : JH} {i k b x y c : Int} {a t N : Nat}
theorem st_nw (h1 : Nat.ble (n + 1) n1 = true) (hk : jk n = (0, a)) (kk : ∀ h', h' = jnw h n 1 0 → K ls (.inr (.inr (.inl n)) :: st) (n + 1) (jnw r n 1 (-1)) h') : jnew n1 a K ls st n r h := ⟨Nat.le_of_ble_eq_true h1, hk, kk _ rfl⟩
theorem st_na (h0 : 0 ≤ c) (h2 : c ≤ 10000) (h1 : Nat.ble (n + 1) n1 = true) (hk : jk n = (t, c.toNat)) (kk : ∀ h', h' = jnw h n 1 0 → K ls (.inr (.inr (.inl n)) :: s) (n + 1) (jnw r n 1 (-1)) h') : jnwa n1 t K ls (.inl c :: s) n r h := ⟨h0, h2, Nat.le_of_ble_eq_true h1, hk, kk _ rfl⟩
theorem st_nm (h0 : 0 ≤ c) (h2 : c ≤ 10000) (h3 : 0 ≤ k) (h4 : k ≤ 10000) (h1 : Nat.ble (n + 1 + c.toNat) n1 = true) (hk : jk n = (5, c.toNat)) (hj : ∀ j : Nat, j < c.toNat → jk (n + 1 + j) = (1, k.toNat)) (kk : ∀ h', h' = jnw h n (1 + c.toNat) 0 → K ls (.inr (.inr (.inl n)) :: s) (n + 1 + c.toNat) (jmu (jnw r n (1 + c.toNat) (-1)) n c.toNat) h') : jnwm n1 K ls (.inl k :: .inl c :: s) n r h := ⟨h0, h2, h3, h4, Nat.le_of_ble_eq_true h1, hk, hj, kk _ rfl⟩
theorem st_pr {v : Int} (o : jF n i 0 a) (hv : 0 ≤ v) (kk : K ls s n (jup r i b v) h) : jpfr a b K ls (.inr (.inr (.inl v)) :: .inr (.inr (.inl i)) :: s) n r h := ⟨o.1, o.2.1, o.2.2, hv, kk⟩
theorem st_ob (h0 : 0 ≤ i) (h1 : Nat.ble s.length 4 = true) (kk : K ls s n r h) : jobj K ls (.inr (.inr (.inl i)) :: s) n r h := ⟨h0, Nat.le_of_ble_eq_true h1, kk⟩
theorem st_sr {v : Int} (o : jF n i 4 N) (h0 : 0 ≤ k) (h1 : k < N) (o2 : jF n v 0 4) (kk : K ls s n (jup r i k v) h) : jasr K ls (.inr (.inr (.inl v)) :: .inl k :: .inr (.inr (.inl i)) :: s) n r h := ⟨o.1, o.2.1, by rw [o.2.2], h0, by rw [o.2.2]; exact h1, o2.1, o2.2.1, o2.2.2, kk⟩
end jcs
def k_fillG (r : JH) (a a1 : Int) (N : Nat) (h : JH) (v : Option JV) (r' g : JH) : Prop := r' = r ∧ jfr (w_fill a) h g ∧ v = none ∧ ∀ k : Int, 0 ≤ k → k < N → g a k = a1
set_option maxHeartbeats 4000000 in
theorem c_fillG {E : JE} {l : Launch} {N n : Nat} {r : JH} (hn : n ≤ 229) (a a1 : Int) (h : JH) (ha : jF n a 1 N) (hN : N ≤ 5000) (hb : ∀ k : Int, jR32 a1 → jbd a k a1) : jMt E l 0 [.inr (.inr (.inl a)), .inl a1] n r h (k_fillG r a a1 N h) := by
  refine jMtn (nL := 4) (n1 := n) (ls := [.inr (.inr (.inl a)), .inl a1, .inr (.inr (.inr ())), .inr (.inr (.inr ()))]) (by decide +kernel) (by decide +kernel) (by rw [show (jM 0).2.2.2.2.2.2 = 0 by decide +kernel]; rfl) hn rfl rfl ?_
  have key : ∀ M : Nat, ∀ (x2 : Int) (g : JH), (0 ≤ x2 ∧ x2 ≤ N) → (∀ k : Int, 0 ≤ k → k < x2 → g a k = a1) → jfr (w_fill a) h g → N - x2 < (M : Int) → jGo E l 0 n n (jRn n (k_fillG r a a1 N h)) 5 [.inr (.inr (.inl a)), .inl a1, .inl x2, .inl N] [] n r g := by
    intro M
    induction M with
    | zero => exact fun _ _ hi _ _ hN => absurd hN (by omega)
    | succ M ih =>
      intro x2 g hi hv hf hM
      refine jGo_blk qJ7_fill_53178_5 ?_
      refine And.intro (fun c1 => ?_) (fun c1 => ?_)
      · have c1 : (N : Int) ≤ x2 := c1
        show jGo E l 0 n n _ 20 [.inr (.inr (.inl a)), .inl a1, .inl x2, .inl N] [] n r g
        refine jGo_blk qJ7_fill_53178_20 ?_
        exact ⟨rfl, rfl, hf, rfl, fun k h0 h1 => hv k h0 (by omega)⟩
      · have c1 : x2 < (N : Int) := Int.not_le.mp c1
        refine st_si ha (show 0 ≤ x2 by omega) (show x2 < (N : Int) by omega) (hb x2) (fun g1 eg1 => ?_)
        have eg1 : g1 = jup g a x2 a1 := eg1
        have e1 : jw32 (x2 + 1) = x2 + 1 := j32e (by omega) (by omega)
        show jGo E l 0 n n _ 5 [.inr (.inr (.inl a)), .inl a1, .inl (jw32 (x2 + 1)), .inl N] [] n r g1
        rw [e1]
        refine ih _ g1 (by omega) (fun k h0 h1 => ?_) (jfr_up hf eg1 rfl) (by omega)
        by_cases hk : k = x2
        · subst hk; exact jup_s eg1
        · rw [jup_o eg1 (by omega)]; exact hv k h0 (by omega)
  refine jGo_blk qJ7_fill_53178_0 ?_
  refine st_al ha ⟨by decide, by decide⟩ ?_
  show jGo E l 0 n n _ 5 [.inr (.inr (.inl a)), .inl a1, .inl 0, .inl N] [] n r h
  exact key (N + 1) 0 h (by omega) (fun k h0 h1 => absurd h1 (by omega)) (jfr_rf _ _) (by omega)
theorem jnw_o {h : JH} {n c : Nat} {v i k : Int} (q : i < n) : jnw h n c v i k = h i k := if_neg (by omega)
def RR_hull (i : Int) (n : Nat) (r : JH) : JH := jup (jnw (jup (jnw r n 1 (-1)) i 11 (n : Int)) (n + 1) 1 (-1)) i 12 (((n + 1 : Nat)) : Int)
set_option maxHeartbeats 4000000 in
theorem n_hull {E : JE} {l : Launch} (i : Int) (n : Nat) (r h : JH) (o : jF n i 0 4) (hn : n + 2 ≤ 229) (k1 : jk (n : Int) = (1, 6)) (k2 : jk ((n + 1 : Nat) : Int) = (1, 6)) : jMt E l 4 [.inr (.inr (.inl i))] n r h (fun v r' h' => v = none ∧ r' = RR_hull i n r ∧ jst n h (n + 2) h') := by
  refine jMtn (nL := 1) (n1 := n + 2) (ls := [.inr (.inr (.inl i))]) (by decide +kernel) (by decide +kernel) (by rw [show (jM 4).2.2.2.2.2.2 = 2 by decide +kernel]) hn rfl rfl ?_
  have q0 := jst_rf n h
  refine jGo_blk qX4_init_0 ?_
  refine st_ob o.1 rfl ?_
  refine st_na (t := 1) (c := 6) (by decide) (by decide) (Nat.ble_eq_true_of_le (by omega)) k1 (fun h1 e1 => ?_)
  have q1 := jst_new (c := 1) q0 e1
  have o1 := o.2.1
  refine st_pr (a := 4) ⟨o.1, by omega, o.2.2⟩ (show (0 : Int) ≤ (n : Int) by omega) ?_
  refine st_na (t := 1) (c := 6) (by decide) (by decide) (Nat.ble_eq_true_of_le (by omega)) k2 (fun h2 e2 => ?_)
  have q2 := jst_new (c := 1) q1 e2
  refine st_pr (a := 4) ⟨o.1, by omega, o.2.2⟩ (show (0 : Int) ≤ ((n + 1 : Nat) : Int) by omega) ?_
  exact ⟨rfl, rfl, rfl, q2⟩
