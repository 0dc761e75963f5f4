/-! ===== FROM THE LAW'S ENTRY TO ITS LOOP ===== -/
theorem jsv_c {E : JE} {t : Nat} {x y y' : Int} (h : t = 4 ∨ t = 5 → y = y') : jsv E t x y = jsv E t x y' := by
  by_cases q : t = 4 ∨ t = 5
  · rw [h q]
  · simp only [jsv, if_neg q]
theorem arrV_c {c : ClassId} {N : Nat} {f g : Nat → Value} (h : ∀ j, j < N → f j = g j) : arrV c N f = arrV c N g := by
  unfold arrV
  congr 2
  funext j
  exact h j.val j.isLt
def jrq (r r' : JH) (i : Nat) : Prop := ((jk i).1 = 0 → ∀ k, k < (jFT.getD (jk i).2 []).length → ((jFT.getD (jk i).2 []).getD k 0 = 4 ∨ (jFT.getD (jk i).2 []).getD k 0 = 5) → r i k = r' i k) ∧ ((jk i).1 = 4 ∨ (jk i).1 = 5 → ∀ k, k < (jk i).2 → r i k = r' i k)
theorem jHp_r {E : JE} {n : Nat} {r r' h : JH} {H : Heap} (hH : jHp E n r h H) (e : ∀ i : Nat, i < n → jrq r r' i) : jHp E n r' h H := by
  refine ⟨hH.1, hH.2.1, fun i hi => ⟨fun hk => ?_, fun hk => ?_⟩, hH.2.2.2⟩
  · obtain ⟨q, h2, h3⟩ := (hH.2.2.1 i hi).1 hk
    refine ⟨q, h2, h3.to (fun k _ => jsv_c (fun t => (e i hi).1 hk k ?_ t))⟩
    rcases Nat.lt_or_ge k (jFT.getD (jk i).2 []).length with z | z
    · exact z
    · rw [List.getD_eq_getElem?_getD, List.getElem?_eq_none z] at t
      exact absurd t (by decide)
  · rw [(hH.2.2.1 i hi).2 hk]
    exact congrArg some (arrV_c (fun j hj => jsv_c (fun t => (e i hi).2 t j hj)))
def jRn0 : JH := fun _ _ => -1
def jRfin : JH := RR_X12_init_176 (jnw (RR_X11_init_0 (jnw jRn0 0 1 (-1))) 176 1 (-1))
set_option maxRecDepth 20000 in
theorem jRfin_ok : ∀ i, i < 229 → jrq jRfin jr0 i := by unfold jrq; decide +kernel
theorem jGo_r {E : JE} {l : Launch} {mm n0 n1 : Nat} {RT : JR} {pc : Nat} {ls st : List JV} {h : JH} (k : jGo E l mm n0 n1 RT pc ls st 229 jr0 h) : jGo E l mm n0 n1 RT pc ls st 229 jRfin h :=
  fun p e R s m args below meth c Q C hR lsS H locs hS => k p e R s m args below meth c Q C hR lsS H locs ⟨hS.1, hS.2.1, hS.2.2.1, hS.2.2.2.1, jHp_r hS.2.2.2.2.1 jRfin_ok, hS.2.2.2.2.2.1, hS.2.2.2.2.2.2.1, hS.2.2.2.2.2.2.2⟩
set_option maxHeartbeats 4000000 in
theorem law_entry {E : JE} {l : Launch} (hE : E.2.2.2.2.1 ≤ 3072) : jGo E l 179 0 229 jlRT 0 [.inr (.inr (.inl (-2))), .inr (.inr (.inr ())), .inr (.inr (.inr ())), .inr (.inr (.inr ()))] [] 0 jRn0 (fun _ _ => 0) := by
  have q0 := jst_rf 0 (fun _ _ => 0)
  refine jGo_blk qL_law_0 ?_
  refine st_nw rfl (by decide +kernel) (fun h1 e1 => ?_)
  have q1 := jst_new (c := 1) q0 e1
  refine st_cv (na := 0) (st := [.inr (.inr (.inl 0)), .inr (.inr (.inl 0))]) (jo_sum (n := 1) (i := 0) (t := 0) (N := 11) (by decide +kernel)) rfl rfl rfl (n_X11_init_0 _ h1) rfl ?_
  rintro _ _ h2 ⟨rfl, rfl, p2, c2, b2⟩ _
  have q2 := jst_tr q1 p2
  refine And.intro (by decide) ?_
  refine st_nw rfl (by decide +kernel) (fun h3 e3 => ?_)
  have q3 := jst_new (c := 1) q2 e3
  refine st_cv (na := 0) (st := [.inr (.inr (.inl 176)), .inr (.inr (.inl 176))]) (jo_sum (n := 177) (i := 176) (t := 0) (N := 12) (by decide +kernel)) rfl rfl rfl (n_X12_init_176 _ h3) rfl ?_
  rintro _ _ h4 ⟨rfl, rfl, p4, c4, b4⟩ _
  have q4 := jst_tr q3 p4
  refine And.intro (by decide) ?_
  have z := q4.1 (fun _ _ _ _ _ => rfl)
  have z0 : h4 0 0 = 0 := z 0 0 (by decide) (by decide) (by unfold jWi; decide)
  have z1 : h4 176 0 = 0 := z 176 0 (by decide) (by decide) (by unfold jWi; decide)
  have z2 : ∀ t : Int, h4 87 t = 0 := fun t => z 87 t (by decide) (by decide) (by unfold jWi; decide)
  have z9 : ∀ i k : Int, 0 ≤ i → i < 229 → ¬ jWi i → h4 i k = 0 := fun i k a b c => z i k a (by omega) c
  have m2 : ∀ i k : Int, i < 176 → h4 i k = h2 i k := fun i k a => (p4.2.1 i k (by omega)).trans (by rw [e3]; exact jnw_o (by omega))
  have sI : jI h4 := by
    refine ⟨fun t _ _ => ?_, fun t a b => ?_, fun t a b => ?_, fun t _ _ => ?_, fun t _ _ => ?_, fun s b _ _ _ _ => ?_, fun s b _ _ _ _ => ?_, ?_, ?_, ?_, ?_, fun r k a b _ _ c => ?_, ⟨fun i j _ _ c => ?_, ?_, fun k c d _ _ _ _ => ?_⟩, fun s b _ _ _ _ => ?_, ?_, ⟨?_, fun i a c => ?_⟩, ⟨fun t _ b => ?_, fun t _ _ => ?_, fun s i _ _ _ d => ?_, fun k a b => ?_⟩, fun hm _ => ⟨fun n => absurd ?_ n, fun n => absurd ?_ n, fun n => absurd ?_ n⟩, fun k _ _ => Or.inr ?_⟩
    · rw [z9 3 t (by decide) (by decide) (by unfold jWi; decide), z9 177 t (by decide) (by decide) (by unfold jWi; decide)]
    · rw [m2 4 t (by decide), (c2 t a b).1, (c4 t a b).1]
    · rw [m2 10 t (by decide), (c2 t a b).2, (c4 t a b).2]
    · rw [z9 90 t (by decide) (by decide) (by unfold jWi; decide), z9 204 t (by decide) (by decide) (by unfold jWi; decide)]
    · rw [z9 92 t (by decide) (by decide) (by unfold jWi; decide), z9 210 t (by decide) (by decide) (by unfold jWi; decide)]
    · rw [z9 (22 + s) b (by omega) (by omega) (by unfold jWi; omega), z9 187 _ (by decide) (by decide) (by unfold jWi; decide)]
    · rw [z9 (26 + s) b (by omega) (by omega) (by unfold jWi; omega), z9 188 _ (by decide) (by decide) (by unfold jWi; decide)]
    · rw [z9 29 4 (by decide) (by decide) (by unfold jWi; decide), z9 176 14 (by decide) (by decide) (by unfold jWi; decide)]
    · rw [z9 84 0 (by decide) (by decide) (by unfold jWi; decide), z9 176 34 (by decide) (by decide) (by unfold jWi; decide)]
    · rw [z9 11 0 (by decide) (by decide) (by unfold jWi; decide), z9 176 6 (by decide) (by decide) (by unfold jWi; decide)]
    · rw [z0, z1]
    · rw [m2 10 r (by decide), (c2 r a b).2] at c; omega
    · rw [z9 11 0 (by decide) (by decide) (by unfold jWi; decide)] at c; omega
    · rw [z9 11 0 (by decide) (by decide) (by unfold jWi; decide)]; decide
    · rw [z9 11 0 (by decide) (by decide) (by unfold jWi; decide), z9 176 6 (by decide) (by decide) (by unfold jWi; decide)]
      show ((if jsl k c = 9 then (60 : Int) else 0), (-1 : Int)) = ((if k = 3 then (60 : Int) else 0), (-1 : Int))
      have q : jsl k c = 9 ↔ k = 3 := ⟨fun q => by unfold jsl at q; omega, fun q => by unfold jsl; omega⟩
      by_cases z : k = 3
      · rw [if_pos z, if_pos (q.2 z)]
      · rw [if_neg z, if_neg (fun y => z (q.1 y))]
    · rw [z9 (18 + s) b (by omega) (by omega) (by unfold jWi; omega), z9 186 _ (by decide) (by decide) (by unfold jWi; decide)]
    · have c0 : ∀ i k : Int, 30 ≤ i → i ≤ 83 → ¬ i = 31 → h4 i k = 0 := fun i k a b c => z9 i k (by omega) (by omega) (by unfold jWi; omega)
      have m0 : ∀ i k : Int, 180 ≤ i → i ≤ 228 → ¬ i = 202 → h4 i k = 0 := fun i k a b c => z9 i k (by omega) (by omega) (by unfold jWi; omega)
      have n0 : h4 176 14 = 0 := z9 176 14 (by decide) (by decide) (by unfold jWi; decide)
      refine ⟨⟨fun g a b => ?_, fun b a c => Or.inl ⟨(m2 31 b (by decide)).trans (b2 b a c), b4 b a c⟩, fun k hk => ?_⟩, fun k a b => ?_, fun b a c => ⟨fun q => ?_, fun _ => c0 32 b (by decide) (by decide) (by decide)⟩, ⟨fun k g a b c d => ?_, fun k _ _ _ => m0 192 k (by decide) (by decide) (by decide)⟩⟩
      · rw [m0 181 g (by decide) (by decide) (by decide), show h4 (29 + 1) g = 0 from c0 30 g (by decide) (by decide) (by decide)]; decide
      · have k16 := jDn_16 k hk
        have cz : ∀ j f : Int, 0 ≤ j → j ≤ 2 → h4 (29 + 7 + 3 * k + j) f = 0 := fun j f a b => c0 _ f (by omega) (by omega) (by omega)
        have cu : ∀ f : Int, h4 (29 + 7 + 3 * k) f = 0 := fun f => c0 _ f (by omega) (by omega) (by omega)
        have mz : ∀ i j : Int, 189 ≤ i → i ≤ 200 → h4 i j = 0 := fun i j a b => m0 i j (by omega) (by omega) (by omega)
        unfold jHR
        rw [cu 0, cu 3, cu 4, cu 6, cu 7, cu 8, cu 9, mz 189 k (by decide) (by decide), mz 192 k (by decide) (by decide), mz 193 k (by decide) (by decide), mz 197 k (by decide) (by decide), mz 198 k (by decide) (by decide)]
        exact ⟨by decide, fun g a b => by rw [cz 2 g (by decide) (by decide), mz 200 _ (by decide) (by decide)], fun q => absurd q (by decide), fun q => absurd q (by decide), fun _ => ⟨rfl, rfl⟩⟩
      · rw [c0 _ 1 (by omega) (by omega) (by omega), c0 _ 2 (by omega) (by omega) (by omega), m0 190 k (by decide) (by decide) (by decide), m0 191 k (by decide) (by decide) (by decide)]; exact ⟨rfl, rfl⟩
      · rw [b4 b a c] at q; omega
      · rw [m0 200 _ (by decide) (by decide) (by decide), m0 192 k (by decide) (by decide) (by decide), if_pos rfl]; decide
    · rw [z9 101 0 (by decide) (by decide) (by unfold jWi; decide), z9 176 45 (by decide) (by decide) (by unfold jWi; decide)]
    · rw [z9 101 0 (by decide) (by decide) (by unfold jWi; decide)] at c; omega
    · rw [z9 176 34 (by decide) (by decide) (by unfold jWi; decide)] at b; omega
    · rw [z9 207 t (by decide) (by decide) (by unfold jWi; decide), z1]; exact ⟨by decide, by decide⟩
    · rw [z9 92 s (by decide) (by decide) (by unfold jWi; decide)] at d; omega
    · rw [z9 (36 + 3 * k) 10 (by omega) (by omega) (by unfold jWi; omega), z9 201 k (by decide) (by decide) (by unfold jWi; decide)]
    · exact z9 111 9 (by decide) (by decide) (by unfold jWi; decide)
    · exact z9 111 10 (by decide) (by decide) (by unfold jWi; decide)
    · exact z9 111 11 (by decide) (by decide) (by unfold jWi; decide)
    · rw [z9 198 k (by decide) (by decide) (by unfold jWi; decide), z1]; decide
  refine jGo_r (law_loop hE 4000 0 h4 (by omega) ⟨by omega, by omega, by omega, fun t _ _ => ?_⟩ sI (by omega))
  rw [z2 t, z0]
  exact ⟨by decide, by decide⟩
