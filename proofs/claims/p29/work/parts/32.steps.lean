/-- references of the objects that both constructors made -/
def jRF : List (List Int) := [[-1, 1, 2, 11, 16, 29, 84, 91, 97, 101, 106, 111], [], [3, 4, 5, 10], [], [], [6, 7, 8, 9], [], [], [], [], [], [-1, 12, 13, 14, 15], [], [], [], [], [17, 21, 25], [18, 19, 20], [], [], [], [22, 23, 24], [], [], [], [26, 27, 28], [], [], [], [30, 31, 32, 33, -1, 34, -1, -1, -1, -1, -1, 35], [], [], [], [36, 39, 42, 45, 48, 51, 54, 57, 60, 63, 66, 69, 72, 75, 78, 81], [], [], [-1, -1, -1, -1, -1, -1, -1, -1, -1, -1, -1, 37, 38], [], [], [-1, -1, -1, -1, -1, -1, -1, -1, -1, -1, -1, 40, 41], [], [], [-1, -1, -1, -1, -1, -1, -1, -1, -1, -1, -1, 43, 44], [], [], [-1, -1, -1, -1, -1, -1, -1, -1, -1, -1, -1, 46, 47], [], [], [-1, -1, -1, -1, -1, -1, -1, -1, -1, -1, -1, 49, 50], [], [], [-1, -1, -1, -1, -1, -1, -1, -1, -1, -1, -1, 52, 53], [], [], [-1, -1, -1, -1, -1, -1, -1, -1, -1, -1, -1, 55, 56], [], [], [-1, -1, -1, -1, -1, -1, -1, -1, -1, -1, -1, 58, 59], [], [], [-1, -1, -1, -1, -1, -1, -1, -1, -1, -1, -1, 61, 62], [], [], [-1, -1, -1, -1, -1, -1, -1, -1, -1, -1, -1, 64, 65], [], [], [-1, -1, -1, -1, -1, -1, -1, -1, -1, -1, -1, 67, 68], [], [], [-1, -1, -1, -1, -1, -1, -1, -1, -1, -1, -1, 70, 71], [], [], [-1, -1, -1, -1, -1, -1, -1, -1, -1, -1, -1, 73, 74], [], [], [-1, -1, -1, -1, -1, -1, -1, -1, -1, -1, -1, 76, 77], [], [], [-1, -1, -1, -1, -1, -1, -1, -1, -1, -1, -1, 79, 80], [], [], [-1, -1, -1, -1, -1, -1, -1, -1, -1, -1, -1, 82, 83], [], [], [-1, 85, 86, 87, 88, 89, 90], [], [], [], [], [], [], [92, 93, 94, 95, 96], [], [], [], [], [], [-1, -1, 98, 99, 100], [], [], [], [-1, 102, 103, 104, 105], [], [], [], [], [107, 108, 109, 110], [], [], [], [], [-1, 112, -1, -1, 113, 118, 119, 174, 175], [], [114, 115, 116, 117], [], [], [], [], [], [120, 121, 122, 123, -1, 124, -1, -1, -1, -1, -1, 125], [], [], [], [126, 129, 132, 135, 138, 141, 144, 147, 150, 153, 156, 159, 162, 165, 168, 171], [], [], [-1, -1, -1, -1, -1, -1, -1, -1, -1, -1, -1, 127, 128], [], [], [-1, -1, -1, -1, -1, -1, -1, -1, -1, -1, -1, 130, 131], [], [], [-1, -1, -1, -1, -1, -1, -1, -1, -1, -1, -1, 133, 134], [], [], [-1, -1, -1, -1, -1, -1, -1, -1, -1, -1, -1, 136, 137], [], [], [-1, -1, -1, -1, -1, -1, -1, -1, -1, -1, -1, 139, 140], [], [], [-1, -1, -1, -1, -1, -1, -1, -1, -1, -1, -1, 142, 143], [], [], [-1, -1, -1, -1, -1, -1, -1, -1, -1, -1, -1, 145, 146], [], [], [-1, -1, -1, -1, -1, -1, -1, -1, -1, -1, -1, 148, 149], [], [], [-1, -1, -1, -1, -1, -1, -1, -1, -1, -1, -1, 151, 152], [], [], [-1, -1, -1, -1, -1, -1, -1, -1, -1, -1, -1, 154, 155], [], [], [-1, -1, -1, -1, -1, -1, -1, -1, -1, -1, -1, 157, 158], [], [], [-1, -1, -1, -1, -1, -1, -1, -1, -1, -1, -1, 160, 161], [], [], [-1, -1, -1, -1, -1, -1, -1, -1, -1, -1, -1, 163, 164], [], [], [-1, -1, -1, -1, -1, -1, -1, -1, -1, -1, -1, 166, 167], [], [], [-1, -1, -1, -1, -1, -1, -1, -1, -1, -1, -1, 169, 170], [], [], [-1, -1, -1, -1, -1, -1, -1, -1, -1, -1, -1, 172, 173], [], [], [], [], [-1, 177, 178, 179, 180, 181, -1, 182, 183, 184, 185, 186, 187, 188, -1, 189, 190, 191, 192, 193, 194, 195, 196, 197, 198, 199, 200, 201, 202, 203, -1, -1, -1, 204, -1, 205, 206, 207, 208, 209, 210, 211, 212, 213, 214, -1, 215, 216, 217, 218, 219, 220, 221, 222, 223, -1, -1, -1, -1, 224, 225, 226, -1, 227, 228], [], [], [], [], [], [], [], [], [], [], [], [], [], [], [], [], [], [], [], [], [], [], [], [], [], [], [], [], [], [], [], [], [], [], [], [], [], [], [], [], [], [], [], [], [], [], [], [], [], [], [], []]
/-! ===== STEPS OF A STRETCH AT THE STEADY PICTURE ===== -/
def jF (n : Nat) (i : Int) (t N : Nat) : Prop := 0 ≤ i ∧ i < n ∧ jk i = (t, N)
/-- places that may differ: w -/
def jfr (w : Int → Int → Prop) (h h' : JH) : Prop := ∀ i k : Int, ¬ w i k → h' i k = h i k
theorem jfr_rf (w : Int → Int → Prop) (h : JH) : jfr w h h := fun _ _ _ => rfl
theorem jup_o {g g' : JH} {i k x a b : Int} (e : g' = jup g i k x) (q : ¬ (a = i ∧ b = k)) : g' a b = g a b := by subst e; exact jup_ne q
theorem jup_s {g g' : JH} {i k x : Int} (e : g' = jup g i k x) : g' i k = x := by subst e; exact jup_eq
theorem jcp_o {g g' : JH} {s sp d dp c a b : Int} (e : g' = jcp g s sp d dp c) (q : ¬ (a = d ∧ dp ≤ b ∧ b < dp + c)) : g' a b = g a b := by subst e; exact if_neg q
theorem jfr_up {w : Int → Int → Prop} {h g g' : JH} {i k x : Int} (f : jfr w h g) (e : g' = jup g i k x) (hw : w i k) : jfr w h g' := fun a b q => (jup_o e (fun z => q (by rw [z.1, z.2]; exact hw))).trans (f a b q)
theorem jfr_cp {w : Int → Int → Prop} {h g g' : JH} {s sp d dp c : Int} (f : jfr w h g) (e : g' = jcp g s sp d dp c) (hw : ∀ k, w d k) : jfr w h g' := fun a b q => (jcp_o e (fun z => q (by rw [z.1]; exact hw b))).trans (f a b q)
theorem jfr_tr {w w' : Int → Int → Prop} {h g g' : JH} (f : jfr w h g) (f' : jfr w' g g') (hw : ∀ i k, w' i k → w i k) : jfr w h g' := fun a b q => (f' a b (fun z => q (hw a b z))).trans (f a b q)
def jr0 (i k : Int) : Int := (jRF.getD i.toNat []).getD k.toNat (-1)
def jRK (K : Option JV → JH → JH → Prop) : JR := fun v n r h => n = 229 ∧ K v r h
theorem jMt0 {E : JE} {l : Launch} {m0 nL : Nat} {av ls : List JV} {h : JH} {K : Option JV → JH → JH → Prop} (hp : plainName (jM m0).1.cls = true) (hL : (jM m0).2.2.1 = nL) (hc : (jM m0).2.2.2.2.2.2 = 0) (hav : Nat.ble (jarg av).length nL = true) (hls : jloc av nL = ls) (body : jGo E l m0 229 229 (jRK K) 0 ls [] 229 jr0 h) : jMt E l m0 av 229 jr0 h K := by
  subst hL
  subst hls
  refine jMt_of hp (Nat.le_of_ble_eq_true hav) (by rw [hc]; exact Nat.le_refl _) ?_
  rw [hc]
  exact body
theorem jMt1 {E : JE} {l : Launch} {m0 nL : Nat} {av ls : List JV} {h : JH} {K : Option JV → JH → JH → Prop} (hp : plainName (jM m0).1.cls = true) (hL : (jM m0).2.2.1 = nL) (hc : (jM m0).2.2.2.2.2.2 = 0) (hav : Nat.ble (jarg av).length nL = true) (hls : jloc av nL = ls) (body : (∀ v ∈ av, jok v) → jGo E l m0 229 229 (jRK K) 0 ls [] 229 jr0 h) : jMt E l m0 av 229 jr0 h K := fun hv => jMt0 hp hL hc hav hls (body hv) hv
theorem j32e {x : Int} (h1 : -2147483648 ≤ x) (h2 : x ≤ 2147483647) : jw32 x = x := j32_id ⟨h1, h2⟩
theorem jzj32 {x : Int} (h : -2147483648 ≤ x ∧ x ≤ 2147483647) : jw32 x = x := j32_id h
theorem j64e {x : Int} (h1 : -9223372036854775808 ≤ x) (h2 : x ≤ 9223372036854775807) : jw64 x = x := j64_id ⟨h1, h2⟩
theorem j32d {x y : Int} (h1 : 0 ≤ x) (h2 : x ≤ 2147483647) (hy : 0 < y) : jw32 (x.tdiv y) = x / y := by
  rw [Int.tdiv_eq_ediv_of_nonneg h1]
  have h3 : x / y ≤ x := Int.ediv_le_self y h1
  have h4 : 0 ≤ x / y := Int.ediv_nonneg h1 (by omega)
  exact j32e (by omega) (by omega)
theorem jmd {x y : Int} (h1 : 0 ≤ x) (hy : 0 < y) : x.tmod y = x % y ∧ 0 ≤ x.tmod y ∧ x.tmod y < y :=
  ⟨Int.tmod_eq_emod_of_nonneg h1, Int.tmod_nonneg _ h1, Int.tmod_lt_of_pos _ hy⟩
section jsteps
variable {E : JE} {l : Launch} {n n1 : Nat} {K : JK} {ls s st : List JV} {r h : JH} {i k b x y : Int} {a t N z : Nat} {RT : JR}
theorem st_gr {v : Int} (o : jF n i 0 a) (e : r i b = v) (kk : K ls (.inr (.inr (.inl v)) :: s) n r h) : jgfr a b K ls (.inr (.inr (.inl i)) :: s) n r h := by
  subst e
  exact ⟨o.1, o.2.1, o.2.2, kk⟩
theorem st_gi (o : jF n i 0 a) (kk : ∀ v, v = h i b → jbd i b v → K ls (.inl v :: s) n r h) : jgfi a b K ls (.inr (.inr (.inl i)) :: s) n r h := ⟨o.1, o.2.1, o.2.2, fun q => kk _ rfl q⟩
theorem st_pi (o : jF n i 0 a) (hb : jR32 x → jbd i b x) (kk : ∀ g, g = jup h i b x → K ls s n r g) : jpfi a b K ls (.inl x :: .inr (.inr (.inl i)) :: s) n r h := ⟨o.1, o.2.1, o.2.2, hb, kk _ rfl⟩
theorem st_ai (o : jF n i 1 N) (h0 : 0 ≤ k) (h1 : k < N) (kk : ∀ v, v = h i k → jbd i k v → K ls (.inl v :: s) n r h) : jald E 1 K ls (.inl k :: .inr (.inr (.inl i)) :: s) n r h :=
  ⟨fun _ => ⟨o.2.1, by rw [o.2.2], h0, by rw [o.2.2]; exact h1, fun q => kk _ rfl q⟩, fun q => absurd o.1 (by omega)⟩
theorem st_bi (o : jF n i 3 N) (h0 : 0 ≤ k) (h1 : k < N) (kk : ∀ v, v = h i k → jbd i k v → K ls (.inl v :: s) n r h) : jald E 3 K ls (.inl k :: .inr (.inr (.inl i)) :: s) n r h :=
  ⟨fun _ => ⟨o.2.1, by rw [o.2.2], h0, by rw [o.2.2]; exact h1, fun q => kk _ rfl q⟩, fun q => absurd o.1 (by omega)⟩
theorem st_li (o : jF n i 2 N) (h0 : 0 ≤ k) (h1 : k < N) (kk : ∀ v, v = h i k → jbd i k v → K ls (.inr (.inl v) :: s) n r h) : jald E 2 K ls (.inl k :: .inr (.inr (.inl i)) :: s) n r h :=
  ⟨fun _ => ⟨o.2.1, by rw [o.2.2], h0, by rw [o.2.2]; exact h1, fun q => kk _ rfl q⟩, fun q => absurd o.1 (by omega)⟩
theorem st_xi (h9 : i < -1) (hk : jxk i = 1) (hl : jxl E i = N) (h0 : 0 ≤ k) (h1 : k < N) (kk : ∀ v, v = jxv E i k → K ls (.inl v :: s) n r h) : jald E 1 K ls (.inl k :: .inr (.inr (.inl i)) :: s) n r h :=
  ⟨fun q => absurd q (by omega), fun _ => ⟨by omega, hk, h0, by rw [hl]; exact h1, kk _ rfl⟩⟩
theorem st_xl (h9 : i < -1) (hk : jxk i = 2) (hl : jxl E i = N) (h0 : 0 ≤ k) (h1 : k < N) (kk : ∀ v, v = jxv E i k → K ls (.inr (.inl v) :: s) n r h) : jald E 2 K ls (.inl k :: .inr (.inr (.inl i)) :: s) n r h :=
  ⟨fun q => absurd q (by omega), fun _ => ⟨by omega, hk, h0, by rw [hl]; exact h1, kk _ rfl⟩⟩
theorem st_ar (o : jF n i t N) (ht : t = 4 ∨ t = 5) (h0 : 0 ≤ k) (h1 : k < N) (kk : ∀ v, v = r i k → K ls (.inr (.inr (.inl v)) :: s) n r h) : jalr K ls (.inl k :: .inr (.inr (.inl i)) :: s) n r h :=
  ⟨o.1, o.2.1, by rw [o.2.2]; exact ht, h0, by rw [o.2.2]; exact h1, kk _ rfl⟩
theorem st_si (o : jF n i 1 N) (h0 : 0 ≤ k) (h1 : k < N) (hb : jR32 x → jbd i k x) (kk : ∀ g, g = jup h i k x → K ls s n r g) : jast 1 K ls (.inl x :: .inl k :: .inr (.inr (.inl i)) :: s) n r h :=
  ⟨o.1, o.2.1, by rw [o.2.2], h0, by rw [o.2.2]; exact h1, hb, kk _ rfl⟩
theorem st_sb (o : jF n i 3 N) (h0 : 0 ≤ k) (h1 : k < N) (hb : jR32 x → jbd i k x) (kk : ∀ g, g = jup h i k x → K ls s n r g) : jast 3 K ls (.inl x :: .inl k :: .inr (.inr (.inl i)) :: s) n r h :=
  ⟨o.1, o.2.1, by rw [o.2.2], h0, by rw [o.2.2]; exact h1, hb, kk _ rfl⟩
theorem st_sl (o : jF n i 2 N) (h0 : 0 ≤ k) (h1 : k < N) (hb : jR64 x → jbd i k x) (kk : ∀ g, g = jup h i k x → K ls s n r g) : jasl K ls (.inr (.inl x) :: .inl k :: .inr (.inr (.inl i)) :: s) n r h :=
  ⟨o.1, o.2.1, by rw [o.2.2], h0, by rw [o.2.2]; exact h1, hb, kk _ rfl⟩
theorem st_al (o : jF n i t N) (ht : 1 ≤ t ∧ t ≤ 3) (kk : K ls (.inl N :: s) n r h) : jaln E K ls (.inr (.inr (.inl i)) :: s) n r h :=
  ⟨fun _ => ⟨o.2.1, by rw [o.2.2]; exact ht.1, by rw [o.2.2]; exact ht.2, by rw [o.2.2]; exact kk⟩, fun q => absurd o.1 (by omega)⟩
theorem st_cp {c dp d sp s0 : Int} {N0 : Nat} (o : jF n d 1 N) (o0 : jF n s0 1 N0) (h1 : 0 ≤ sp) (h2 : 0 ≤ dp) (h3 : 0 ≤ c) (h4 : sp + c ≤ N0) (h5 : dp + c ≤ N) (h6 : Nat.ble s.length 4 = true) (hb : (∀ i k : Int, jbd i k (h i k)) → ∀ j : Int, 0 ≤ j → j < c → jbd d (dp + j) (h s0 (sp + j))) (kk : ∀ g, g = jcp h s0 sp d dp c → K ls s n r g) :
    jacp K ls (.inl c :: .inl dp :: .inr (.inr (.inl d)) :: .inl sp :: .inr (.inr (.inl s0)) :: s) n r h :=
  ⟨o0.1, o0.2.1, o.1, o.2.1, by rw [o0.2.2], by rw [o.2.2], h1, h2, h3, by rw [o0.2.2]; exact h4, by rw [o.2.2]; exact h5, Nat.le_of_ble_eq_true h6, hb, kk _ rfl⟩
theorem st_m0 (h6 : Nat.ble s.length 4 = true) (kk : ∀ v, v ≤ x → v ≤ y → (v = x ∨ v = y) → K ls (.inl v :: s) n r h) : jmth 0 K ls (.inl y :: .inl x :: s) n r h :=
  ⟨Nat.le_of_ble_eq_true h6, kk _ (by split <;> omega) (by split <;> omega) (by split <;> omega)⟩
theorem st_m1 (h6 : Nat.ble s.length 4 = true) (kk : ∀ v, x ≤ v → y ≤ v → (v = x ∨ v = y) → K ls (.inl v :: s) n r h) : jmth 1 K ls (.inl y :: .inl x :: s) n r h :=
  ⟨Nat.le_of_ble_eq_true h6, kk _ (by split <;> omega) (by split <;> omega) (by split <;> omega)⟩
theorem st_m2 (h6 : Nat.ble s.length 4 = true) (kk : ∀ v, v = (if 0 ≤ x then x else jw32 (-x)) → K ls (.inl v :: s) n r h) : jmth 2 K ls (.inl x :: s) n r h :=
  ⟨Nat.le_of_ble_eq_true h6, kk _ rfl⟩
theorem st_m3 (h6 : Nat.ble s.length 4 = true) (kk : ∀ v, v ≤ x → v ≤ y → (v = x ∨ v = y) → K ls (.inr (.inl v) :: s) n r h) : jmth 3 K ls (.inr (.inl y) :: .inr (.inl x) :: s) n r h :=
  ⟨Nat.le_of_ble_eq_true h6, kk _ (by split <;> omega) (by split <;> omega) (by split <;> omega)⟩
theorem st_cs {m c na : Nat} {Kp : Option JV → JH → JH → Prop} (h1 : Nat.ble na st.length = true) (h2 : Nat.ble (st.drop na).length 4 = true) (h3 : Nat.ble (n + c) n1 = true) {av : List JV} (hM : jMt E l m av n r h Kp) (hav : (st.take na).reverse = av) (kk : ∀ v r' h', Kp v r' h' → jokO v → K ls (v.toList ++ st.drop na) (n + c) r' h') : jcas (jMt E l) n1 m c na K ls st n r h := by
  subst hav
  exact ⟨Nat.le_of_ble_eq_true h1, Nat.le_of_ble_eq_true h2, Nat.le_of_ble_eq_true h3, jMt_m kk hM⟩
theorem st_cv {m c na ci : Nat} {s9 : List JV} {Kp : Option JV → JH → JH → Prop} (o : jF n i 0 ci) (hd : st.drop na = .inr (.inr (.inl i)) :: s9) (h2 : Nat.ble s9.length 4 = true) (h3 : Nat.ble (n + c) n1 = true) {av : List JV} (hM : jMt E l m av n r h Kp) (hav : .inr (.inr (.inl i)) :: (st.take na).reverse = av) (kk : ∀ v r' h', Kp v r' h' → jokO v → K ls (v.toList ++ s9) (n + c) r' h') : jcav (jMt E l) n1 m c na ci K ls st n r h := by
  subst hav
  unfold jcav
  rw [hd]
  exact ⟨o.1, o.2.1, o.2.2, Nat.le_of_ble_eq_true h2, Nat.le_of_ble_eq_true h3, jMt_m kk hM⟩
theorem st_r0 (hk : RT (some (.inl x)) n r h) : jret RT 0 ls [.inl x] n r h := ⟨fun q => absurd q (by decide), hk⟩
theorem st_r1 (hx : x = 0 ∨ x = 1) (hk : RT (some (.inl x)) n r h) : jret RT 1 ls [.inl x] n r h := ⟨fun _ => hx, hk⟩
end jsteps
