/-! ===== PAY, WINE; THE WHOLE DAY ===== -/
theorem jR2_fr {Y : Int} {D : Int → Prop} {hc hm hc' hm' : JH} (hD : ∀ k, D k → 0 ≤ k ∧ k < 16) (ec : ∀ i k : Int, (i = Y + 1 ∨ i = Y + 2 ∨ (Y + 7 ≤ i ∧ i ≤ Y + 54)) → ¬ k = 10 → hc' i k = hc i k) (em : ∀ i k : Int, (((i = 181 ∨ i = 202) ∧ 0 ≤ k ∧ k < 6) ∨ (189 ≤ i ∧ i ≤ 198 ∧ 0 ≤ k ∧ k < 16) ∨ (199 ≤ i ∧ i ≤ 200 ∧ 0 ≤ k ∧ k < 96)) → hm' i k = hm i k) (R : jR2 Y D hc hm) : jR2 Y D hc' hm' := by
  obtain ⟨r1, r2, r3⟩ := R
  refine ⟨fun g a b => ?_, fun b a c => ?_, fun k hk => ?_⟩
  · rw [ec _ _ (by omega) (by omega), em _ _ (by omega)]; exact r1 g a b
  · exact jBR_fr (ec _ _ (by omega) (by omega)) (em _ _ (by omega)) (fun k _ _ _ => ⟨em _ _ (by omega), em _ _ (by omega)⟩) (r2 b a c)
  · have := hD k hk
    exact jHR_fr (fun f q => ec _ _ (by omega) q) (fun f _ _ => ec _ _ (by omega) (by omega)) (fun f _ _ => ec _ _ (by omega) (by omega)) (fun i a b => em _ _ (by omega)) (fun i g a b _ _ => em _ _ (by omega)) (r3 k hk)
theorem jmPy_r {c : Int} {h : JH} : (jmPy c h 181 5 = jw32 (h 181 5 - jmii (jw32 (jHm h c (h 176 0) * jmFv h 1 c (h 176 0))) (h 181 5))) ∧ ∀ i j : Int, ¬ (i = 181 ∧ j = 5) → ¬ (i = 176 ∧ (j = 30 ∨ j = 31)) → jmPy c h i j = h i j := by
  have e1 : ∀ i j : Int, ¬ (i = 176 ∧ j = 30) → jmP1 c h i j = h i j := fun i j q => jup_ne q
  unfold jmPy
  generalize jmP1 c h = P at e1
  have w : jmWn c (jHm h c (h 176 0)) P = jw32 (jHm h c (h 176 0) * jmFv h 1 c (h 176 0)) := by
    unfold jmWn
    rw [e1 176 0 (by omega), jmFv_c (h := h) (fun i k _ _ => e1 i k (by omega)) (e1 176 6 (by omega))]
  rw [w]
  generalize jw32 (jHm h c (h 176 0) * jmFv h 1 c (h 176 0)) = x
  constructor
  · show jup (jmP2 x P) 176 31 _ 181 5 = _
    rw [jup_ne (by omega)]
    unfold jmP2
    rw [jup_eq, e1 181 5 (by omega)]
  · intro i j q1 q2
    show jup (jmP2 x P) 176 31 _ i j = _
    rw [jup_ne (by omega)]
    unfold jmP2
    rw [jup_ne (by omega), e1 i j (by omega)]
def jsm (w : Int → Int) : Nat → Int
  | 0 => 0
  | n + 1 => jsm w n + w n
def jwD (i k : Int) : Prop := i = 181 ∨ (i = 176 ∧ (k = 30 ∨ k = 31))
theorem jmPA_r {h : JH} {w : Int → Int} (hs : 0 ≤ h 181 5 ∧ h 181 5 ≤ 1000000) (hw : ∀ c : Int, 0 ≤ c → c < 4 → w c = jHm h c (h 176 0) * jmFv h 1 c (h 176 0) ∧ 0 ≤ w c ∧ w c ≤ 80000) : ∀ n : Nat, n ≤ 4 → (0 ≤ jsm w n ∧ jsm w n ≤ 80000 * n) ∧ ((jsm w n ≤ h 181 5 ∧ jit jmPy n h 181 5 = h 181 5 - jsm w n) ∨ (h 181 5 < jsm w n ∧ jit jmPy n h 181 5 = 0)) ∧ ∀ i j : Int, ¬ (i = 181 ∧ j = 5) → ¬ (i = 176 ∧ (j = 30 ∨ j = 31)) → jit jmPy n h i j = h i j
  | 0, _ => ⟨⟨Int.le_refl _, by show (0 : Int) ≤ 80000 * ((0 : Nat) : Int); omega⟩, Or.inl ⟨hs.1, by show h 181 5 = h 181 5 - 0; omega⟩, fun i j _ _ => rfl⟩
  | n + 1, hn => by
      obtain ⟨i0, i1, i2⟩ := jmPA_r hs hw n (by omega)
      have st : jit jmPy (n + 1) h = jmPy n (jit jmPy n h) := rfl
      rw [st]
      obtain ⟨p1, p2⟩ := jmPy_r (c := n) (h := jit jmPy n h)
      generalize jit jmPy n h = g at i1 i2 p1 p2
      have w1 := hw n (by omega) (by omega)
      have e : jHm g n (g 176 0) * jmFv g 1 n (g 176 0) = w n := by
        rw [i2 176 0 (by omega) (by omega), jHm_c (h := h) (fun i k _ _ => i2 i k (by omega) (by omega)), jmFv_c (h := h) (fun i k _ _ => i2 i k (by omega) (by omega)) (i2 176 6 (by omega) (by omega))]
        exact w1.1.symm
      have j1 : jsm w (n + 1) = jsm w n + w n := rfl
      have q : jw32 (w n) = w n := j32e (by omega) (by omega)
      rw [e, q] at p1
      refine ⟨by omega, ?_, fun i j a b => (p2 i j a b).trans (i2 i j a b)⟩
      rw [p1, j1]
      unfold jmii
      by_cases z : w n < g 181 5
      · rw [if_pos z, j32e (x := g 181 5 - w n) (by omega) (by omega)]
        rcases i1 with i1 | i1 <;> omega
      · rw [if_neg z, show g 181 5 - g 181 5 = 0 by omega]
        have q0 : jw32 0 = 0 := by decide
        rw [q0]
        rcases i1 with i1 | i1 <;> omega
theorem jDk_r {Y S w : Int} {h : JH} (hYS : ¬ Y = S) : (jDk Y S w h S 5 = jw32 (h S 5 - jmin w (h S 5))) ∧ ∀ i j : Int, ¬ (i = S ∧ j = 5) → ¬ (i = Y ∧ j = 8) → jDk Y S w h i j = h i j := by
  unfold jDk
  constructor
  · rw [jup_ne (by omega), jup_eq]
  · intro i j a b
    rw [jup_ne b, jup_ne a]
set_option maxHeartbeats 1000000 in
theorem jR_pa {Y A r W : Int} {w : Int → Int} {D : Int → Prop} {hc hm : JH} (hY : Y = 29 ∨ Y = 119) (hD : ∀ k, D k → 0 ≤ k ∧ k < 16) (R : jR2 Y D hc hm) (hw : ∀ c : Int, 0 ≤ c → c < 4 → w c = jHm hm c (hm 176 0) * jmFv hm 1 c (hm 176 0) ∧ 0 ≤ w c ∧ w c ≤ 80000) (hW : W = w 0 + w 1 + w 2 + w 3) :
    jR2 Y D (jDk Y (Y + 1) W (jP5 Y A r hc)) (jmPA hm) ∧ jfr (jwC Y) hc (jDk Y (Y + 1) W (jP5 Y A r hc)) ∧ jfr jwD hm (jmPA hm) := by
  have p5 : ∀ i j : Int, ¬ (i = Y ∧ j = 7) → jP5 Y A r hc i j = hc i j := fun i j q => jup_ne q
  generalize jP5 Y A r hc = P at p5
  obtain ⟨c1, c2⟩ := jDk_r (Y := Y) (S := Y + 1) (w := W) (h := P) (by omega)
  have s5 := R.1 5 (by decide) (by decide)
  obtain ⟨m0, m1, m2⟩ := jmPA_r (h := hm) (w := w) s5.2 hw 4 (Nat.le_refl _)
  have js : jsm w 4 = W := by
    show 0 + w (0 : Nat) + w (1 : Nat) + w (2 : Nat) + w (3 : Nat) = W
    rw [hW]
    have e0 : w ((0 : Nat) : Int) = w 0 := rfl
    have e1 : w ((1 : Nat) : Int) = w 1 := rfl
    have e2 : w ((2 : Nat) : Int) = w 2 := rfl
    have e3 : w ((3 : Nat) : Int) = w 3 := rfl
    rw [e0, e1, e2, e3]; omega
  rw [js] at m0 m1
  unfold jmPA
  generalize jit jmPy 4 hm = V at m1 m2
  rw [p5 (Y + 1) 5 (by omega), s5.1] at c1
  generalize jDk Y (Y + 1) W P = X at c1 c2
  have cf : ∀ i j : Int, ¬ (i = Y + 1 ∧ j = 5) → ¬ (i = Y ∧ (j = 7 ∨ j = 8)) → X i j = hc i j := fun i j a b => (c2 i j a (by omega)).trans (p5 i j (by omega))
  have v5 : X (Y + 1) 5 = V 181 5 := by
    rw [c1]
    unfold jmin
    by_cases z : W ≤ hm 181 5
    · rw [if_pos z, j32e (by omega) (by omega)]; omega
    · rw [if_neg z, show hm 181 5 - hm 181 5 = 0 by omega]
      have q0 : jw32 0 = 0 := by decide
      rw [q0]; omega
  obtain ⟨r1, r2, r3⟩ := R
  refine ⟨⟨fun g a b => ?_, fun b a c => ?_, fun k hk => ?_⟩, fun i j q => ?_, fun i j q => ?_⟩
  · by_cases z : g = 5
    · subst z; exact ⟨v5, by omega, by omega⟩
    · rw [cf _ _ (by omega) (by omega), m2 _ _ (by omega) (by omega)]; exact r1 g a b
  · exact jBR_fr (cf _ _ (by omega) (by omega)) (m2 _ _ (by omega) (by omega)) (fun k _ _ _ => ⟨m2 _ _ (by omega) (by omega), m2 _ _ (by omega) (by omega)⟩) (r2 b a c)
  · have := hD k hk
    exact jHR_fr (fun f _ => cf _ _ (by omega) (by omega)) (fun f _ _ => cf _ _ (by omega) (by omega)) (fun f _ _ => cf _ _ (by omega) (by omega)) (fun i a b => m2 _ _ (by omega) (by omega)) (fun i g a b _ _ => m2 _ _ (by omega) (by omega)) (r3 k hk)
  · unfold jwC at q
    exact cf i j (by omega) (by omega)
  · unfold jwD at q
    exact m2 i j (by omega) (by omega)
def jQ3 (Y S B H L d : Int) (h : JH) : JH := jP3 Y S H L (jP2 Y B H L (jP1 Y B H d h))
def jQ4 (Y S B H L W A0 A1 d r : Int) (h : JH) : JH := jP4 Y W H L A0 (r * 4) (jQ3 Y S B H L d h A1 r) (jQ3 Y S B H L d h)
def jQ5 (Y S B H L W A0 A1 A2 d r : Int) (h : JH) : JH := jP5 Y A2 r (jQ4 Y S B H L W A0 A1 d r h)
def jPD (Y S B H L W A0 A1 A2 A3 d r : Int) (h : JH) : JH := jDk Y S (jQ5 Y S B H L W A0 A1 A2 d r h A3 r) (jQ5 Y S B H L W A0 A1 A2 d r h)
def jmWd (h : JH) (d : Int) : Int := if jmFv h 2 0 d = 0 ∨ ¬ d.tmod (jmFv h 2 0 d) = 0 then 1 else 0
def jwP (i k : Int) : Prop := jwM i k ∨ (i = 176 ∧ k = 0)
/-- what an almanac's row tells of a day, by the reference -/
def jAlm (A r d : Int) (hc hm : JH) : Prop :=
  (∀ x : Int, 0 ≤ x → x < 4 → hc A (r * 4 + x) = jHm hm x d ∧ 0 ≤ hc A (r * 4 + x) ∧ hc A (r * 4 + x) ≤ 400) ∧
  ((jmWd hm d = 0 ∧ hc (A + 1) r = 0) ∨ (¬ jmWd hm d = 0 ∧ hc (A + 1) r = jmFv hm 3 0 d ∧ 0 ≤ hc (A + 1) r)) ∧
  (∀ c : Int, 0 ≤ c → c < 4 → 0 ≤ jHm hm c d * jmFv hm 1 c d ∧ jHm hm c d * jmFv hm 1 c d ≤ 80000) ∧
  hc (A + 3) r = jHm hm 0 d * jmFv hm 1 0 d + jHm hm 1 d * jmFv hm 1 1 d + jHm hm 2 d * jmFv hm 1 2 d + jHm hm 3 d * jmFv hm 1 3 d
/-- who leaves does not come back -/
theorem jR_m5 {Y d : Int} {D : Int → Prop} {hc hm : JH} (hY : Y = 29 ∨ Y = 119) (hD : ∀ k, D k → 0 ≤ k ∧ k < 16) (R : jR2 Y D hc hm) (T : jTK hc hm) (hd : hm 176 0 = d) {k : Int} (k0 : hc (Y + 2) 5 = k) (kn : 0 ≤ k) (t : ¬ hc (Y + 7 + 3 * k) 7 = 0) (w : hc (Y + 7 + 3 * k) 6 = 0) : ¬ (jit jmMr 6 hm 192 k = 0 ∨ jit jmMr 6 hm 192 k = 1) := by
  have r2 := R.2.1 5 (by decide) (by decide)
  unfold jBR at r2
  rcases r2 with ⟨z1, z2⟩ | ⟨z1, z2⟩ | ⟨z1, z2, z3, z4, z5, z6⟩
  · omega
  · omega
  · rw [k0] at z1
    rw [← z1] at z4 z5 z6 z3
    have Hk := R.2.2 k z4
    unfold jHR at Hk
    obtain ⟨y5, y6, y7, y8, y9, yw, _⟩ := Hk.2.2.1 z5
    have key : ∀ n : Nat, n ≤ 5 → ¬ (jit jmMr (n + 1) hm 192 k = 0 ∨ jit jmMr (n + 1) hm 192 k = 1) := by
      intro n
      induction n with
      | zero =>
          intro _
          have e : jit jmMr (0 + 1) hm 192 k = 2 := by
            show jmMv (5 - 0) hm 192 k = 2
            rw [show (5 : Int) - 0 = 5 from rfl]
            unfold jmMv
            rw [← z1, if_neg (show ¬ (k < 0 ∨ k = 100 ∨ hm 196 k = 0 ∨ 0 < hm 195 k) by omega), if_pos rfl]
            unfold jmLv
            rw [jup_ne (by omega), jup_ne (by omega), jup_eq]
          rw [e]; decide
      | succ n ih =>
          intro hn
          obtain ⟨i1, i2, i3, i4⟩ := jR_ma hY hD R T hd (n + 1) (by omega)
          have s4 := (jR_mv (b := 5 - ((n + 1 : Nat) : Int)) hY hD i1 (jTK_f hY i2 i3 T) (by omega) ((i3 176 0 (by unfold jwM; omega)).trans hd)).2.2.2
          exact fun q => ih (by omega) (s4 k q)
    exact key 5 (Nat.le_refl _)
set_option maxHeartbeats 2000000 in
theorem jR_day {Y d r A : Int} {D : Int → Prop} {hc hm : JH} (hY : Y = 29 ∨ Y = 119) (hD : ∀ k, D k → 0 ≤ k ∧ k < 16) (hA : A = 107 ∨ A = 114) (R : jR2 Y D hc hm) (T : jTK hc hm) (L : jLn Y D hc hm) (h6 : 0 ≤ hc Y 6 ∧ hc Y 6 ≤ 16) (h14 : hm 176 14 ≤ 16) (hd : hm 176 0 + 1 = d) (hal : jAlm A r d hc hm) :
    jR2 Y D (jPD Y (Y + 1) (Y + 2) (Y + 7) (Y + 5) (Y + 6) A (A + 1) (A + 2) (A + 3) d r hc) (jmPs hm) ∧ jfr (jwC Y) hc (jPD Y (Y + 1) (Y + 2) (Y + 7) (Y + 5) (Y + 6) A (A + 1) (A + 2) (A + 3) d r hc) ∧ jfr jwP hm (jmPs hm) ∧ jmPs hm 176 0 = d ∧ jmo hm (jmPs hm) ∧ jRft hm (jmPs hm) ∧ (jNd hm → jNd (jmPs hm)) ∧ (∀ k : Int, hc (Y + 2) 5 = k → 0 ≤ k → ¬ hc (Y + 7 + 3 * k) 7 = 0 → hc (Y + 7 + 3 * k) 6 = 0 → ¬ (jmPs hm 192 k = 0 ∨ jmPs hm 192 k = 1)) := by
  obtain ⟨a1, a2, a3, a4⟩ := hal
  -- the day is 1 more; nothing has stirred
  have m0 : ∀ i j : Int, ¬ (i = 176 ∧ j = 0) → jmD0 hm i j = hm i j := fun i j q => jup_ne q
  have d0 : jmD0 hm 176 0 = d := by unfold jmD0; rw [jup_eq]; exact hd
  have c0 : ∀ i j : Int, ¬ (i = Y ∧ j = 10) → jup hc Y 10 0 i j = hc i j := fun i j q => jup_ne q
  have R0 : jR2 Y D (jup hc Y 10 0) (jmD0 hm) := jR2_fr hD (fun i k q _ => c0 i k (by omega)) (fun i k q => m0 i k (by omega)) R
  have T0 : jTK (jup hc Y 10 0) (jmD0 hm) := jTK_fr (fun i k _ _ => c0 i k (by omega)) (fun i k _ _ => m0 i k (by omega)) T
  have L0 : jLn Y D (jup hc Y 10 0) (jmD0 hm) := jLn_fr (c0 _ _ (by omega)) (fun i => c0 _ _ (by omega)) (m0 _ _ (by omega)) (fun k => m0 _ _ (by omega)) (fun k _ _ q => by rw [m0 192 k (by omega)] at q; exact q) L
  -- moves
  obtain ⟨R1, fc1, fm1, mo1⟩ := jR_ma hY hD R0 T0 d0 6 (Nat.le_refl _)
  have ra1 := jRft_ma (h := jmD0 hm) 6
  have nd1 : jNd hm → jNd (jit jmMr 6 (jmD0 hm)) := fun q => jNd_ma hY hD R0 T0 d0 (jNd_fr (fun i j z => m0 i j (by omega)) q) 6 (Nat.le_refl _)
  have lv1 : ∀ k : Int, hc (Y + 2) 5 = k → 0 ≤ k → ¬ hc (Y + 7 + 3 * k) 7 = 0 → hc (Y + 7 + 3 * k) 6 = 0 → ¬ (jit jmMr 6 (jmD0 hm) 192 k = 0 ∨ jit jmMr 6 (jmD0 hm) 192 k = 1) := fun k a b c e => jR_m5 hY hD R0 T0 d0 (by rw [c0 _ _ (by omega)]; exact a) b (by rw [c0 _ _ (by omega)]; exact c) (by rw [c0 _ _ (by omega)]; exact e)
  have P1e : jP1 Y (Y + 2) (Y + 7) d hc = jit (jMvr Y (Y + 2) (Y + 7) d) 6 (jup hc Y 10 0) := rfl
  rw [← P1e] at R1 fc1
  have psE : jmPs hm = jmPA (jmWA (jmGA (jmLi (jit jmMr 6 (jmD0 hm))))) := rfl
  unfold jPD jQ5 jQ4 jQ3
  rw [psE]
  generalize jP1 Y (Y + 2) (Y + 7) d hc = P1 at R1 fc1
  generalize jit jmMr 6 (jmD0 hm) = M1 at R1 fm1 mo1 ra1 nd1 lv1
  have fc1' : jfr (jwC Y) hc P1 := fun i k q => (fc1 i k q).trans (c0 i k (by unfold jwC at q; omega))
  have fm1' : ∀ i k : Int, ¬ jwP i k → M1 i k = hm i k := fun i k q => (fm1 i k (fun z => q (Or.inl z))).trans (m0 i k (fun z => q (Or.inr z)))
  have mo1' : jmo hm M1 := fun k q => by have z := mo1 k q; rw [m0 192 k (by omega)] at z; exact z
  have dd1 : M1 176 0 = d := (fm1 176 0 (by unfold jwM; omega)).trans d0
  have T1 : jTK P1 M1 := jTK_fr (fun i k a b => fc1' i k (by unfold jwC; omega)) (fun i k a b => fm1' i k (by unfold jwP jwM; omega)) T
  have L1 : jLn Y D P1 M1 := jLn_fr (fc1' _ _ (by unfold jwC; omega)) (fun i => fc1' _ _ (by unfold jwC; omega)) (fm1' _ _ (by unfold jwP jwM; omega)) (fun k => fm1' _ _ (by unfold jwP jwM; omega)) (fun k _ _ q => mo1' k q) L
  have n1 : P1 Y 6 = hc Y 6 := fc1' _ _ (by unfold jwC; omega)
  -- the first that waits
  obtain ⟨R2, fc2, fm2, mo2⟩ := jR_li hY hD R1 T1 L1 (by omega)
  have nd2 : jNd hm → jNd (jmLi M1) := fun q => jNd_li hD R1 T1 L1 (nd1 q)
  have ra2 := jRft_li (h := M1) (by rw [fm1' 176 14 (by unfold jwP jwM; omega)]; exact h14)
  generalize jP2 Y (Y + 2) (Y + 7) (Y + 5) P1 = P2 at R2 fc2
  generalize jmLi M1 = M2 at R2 fm2 mo2 ra2 nd2
  have fc2' : jfr (jwC Y) hc P2 := fun i k q => (fc2 i k q).trans (fc1' i k q)
  have fm2' : ∀ i k : Int, ¬ jwP i k → M2 i k = hm i k := fun i k q => (fm2 i k (fun z => q (Or.inl z))).trans (fm1' i k q)
  have mo2' : jmo hm M2 := fun k q => mo1' k (mo2 k q)
  have dd2 : M2 176 0 = d := (fm2 176 0 (by unfold jwM; omega)).trans dd1
  have L2 : jLn Y D P2 M2 := jLn_fr (fc2' _ _ (by unfold jwC; omega)) (fun i => fc2' _ _ (by unfold jwC; omega)) (fm2' _ _ (by unfold jwP jwM; omega)) (fun k => fm2' _ _ (by unfold jwP jwM; omega)) (fun k _ _ q => mo2' k q) L
  have n2 : P2 Y 6 = hc Y 6 := fc2' _ _ (by unfold jwC; omega)
  -- goods
  obtain ⟨R3, fc3, fm3⟩ := jR_ga hY hD R2 L2 (by omega)
  generalize jP3 Y (Y + 1) (Y + 7) (Y + 5) P2 = P3 at R3 fc3
  generalize jmGA M2 = M3 at R3 fm3
  have gp : ∀ i k : Int, ¬ jwP i k → ¬ jwG i k := fun i k q => by unfold jwP jwM at q; unfold jwG; omega
  have fc3' : jfr (jwC Y) hc P3 := fun i k q => (fc3 i k q).trans (fc2' i k q)
  have fm3' : ∀ i k : Int, ¬ jwP i k → M3 i k = hm i k := fun i k q => (fm3 i k (gp i k q)).trans (fm2' i k q)
  have mo3' : jmo hm M3 := fun k q => mo2' k (by rw [fm3 192 k (by unfold jwG; omega)] at q; exact q)
  have dd3 : M3 176 0 = d := (fm3 176 0 (by unfold jwG; omega)).trans dd2
  have L3 : jLn Y D P3 M3 := jLn_fr (fc3' _ _ (by unfold jwC; omega)) (fun i => fc3' _ _ (by unfold jwC; omega)) (fm3' _ _ (by unfold jwP jwM; omega)) (fun k => fm3' _ _ (by unfold jwP jwM; omega)) (fun k _ _ q => mo3' k q) L
  have n3 : P3 Y 6 = hc Y 6 := fc3' _ _ (by unfold jwC; omega)
  have eH : ∀ c : Int, jHm M3 c d = jHm hm c d := fun c => jHm_c (fun i k _ _ => fm3' i k (by unfold jwP jwM; omega))
  have eF : ∀ k c : Int, jmFv M3 k c d = jmFv hm k c d := fun k c => jmFv_c (fun i k _ _ => fm3' i k (by unfold jwP jwM; omega)) (fm3' 176 6 (by unfold jwP jwM; omega))
  have eW : jmWk M3 = jmWd hm d := by unfold jmWk jmWd; rw [dd3, eF]
  have fA : ∀ i k : Int, 107 ≤ i → i ≤ 117 → P3 i k = hc i k := fun i k a b => fc3' i k (by unfold jwC; omega)
  -- work
  obtain ⟨R4, fc4, fm4⟩ := jR_wa (A := A) (f := r * 4) (c := P3 (A + 1) r) hY hD R3 L3 (by omega) (fun x a b => by rw [fA _ _ (by omega) (by omega), dd3, eH]; exact a1 x a b) (by rw [fA _ _ (by omega) (by omega), eW, dd3, eF]; exact a2)
  generalize jP4 Y (Y + 6) (Y + 7) (Y + 5) A (r * 4) (P3 (A + 1) r) P3 = P4 at R4 fc4
  generalize jmWA M3 = M4 at R4 fm4
  have gq : ∀ i k : Int, ¬ jwP i k → ¬ jw5 i k := fun i k q => by unfold jwP jwM at q; unfold jw5; omega
  have fc4' : jfr (jwC Y) hc P4 := fun i k q => (fc4 i k q).trans (fc3' i k q)
  have fm4' : ∀ i k : Int, ¬ jwP i k → M4 i k = hm i k := fun i k q => (fm4 i k (gq i k q)).trans (fm3' i k q)
  have mo4' : jmo hm M4 := fun k q => mo3' k (by rw [fm4 192 k (by unfold jw5; omega)] at q; exact q)
  have dd4 : M4 176 0 = d := (fm4 176 0 (by unfold jw5; omega)).trans dd3
  have eH4 : ∀ c : Int, jHm M4 c d = jHm hm c d := fun c => jHm_c (fun i k _ _ => fm4' i k (by unfold jwP jwM; omega))
  have eF4 : ∀ k c : Int, jmFv M4 k c d = jmFv hm k c d := fun k c => jmFv_c (fun i k _ _ => fm4' i k (by unfold jwP jwM; omega)) (fm4' 176 6 (by unfold jwP jwM; omega))
  -- pay
  have wn : jP5 Y (A + 2) r P4 (A + 3) r = hc (A + 3) r := (jup_ne (by omega)).trans (fc4' _ _ (by unfold jwC; omega))
  rw [wn]
  obtain ⟨R5, fc5, fm5⟩ := jR_pa (A := A + 2) (r := r) (W := hc (A + 3) r) (w := fun c => jHm hm c d * jmFv hm 1 c d) hY hD R4 (fun c a b => ⟨by rw [dd4, eH4, eF4], a3 c a b⟩) a4
  refine ⟨R5, fun i k q => (fc5 i k q).trans (fc4' i k q), fun i k q => (fm5 i k (by unfold jwP jwM at q; unfold jwD; omega)).trans (fm4' i k q), (fm5 176 0 (by unfold jwD; omega)).trans dd4, fun k q => mo4' k (by rw [fm5 192 k (by unfold jwD; omega)] at q; exact q), fun b => ?_, fun q => jNd_fr (fun i j z => (fm5 i j (by unfold jwD; omega)).trans ((fm4 i j (by unfold jw5; omega)).trans (fm3 i j (by unfold jwG; omega)))) (nd2 q), fun k a b c e q => lv1 k a b c e (mo2 k (by rw [fm5 192 k (by unfold jwD; omega), fm4 192 k (by unfold jw5; omega), fm3 192 k (by unfold jwG; omega)] at q; exact q))⟩
  rw [fm5 202 b (by unfold jwD; omega), fm4 202 b (by unfold jw5; omega), fm3 202 b (by unfold jwG; omega), ra2 b, ra1 b, m0 202 b (by omega)]
