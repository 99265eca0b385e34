/-! THE INVARIANT between two calls of the law: the class's house and the Model's row are one -/
def hR (J : Nat → Nat → Int) (G : Nat → Nat → Int64) (h : Nat) (r : Nat → Int) : Prop := cOk J h ∧ J h 10 + J h 11 + J h 12 ≤ J h 2 ∧ (∀ t, 60 ≤ t → sbC G h t = false) ∧ mH r (hsC J h) (wdC J h) (sbC G h)
theorem hsC_eq {J J2 : Nat → Nat → Int} {h h2 : Nat} (q : ∀ i, 1 ≤ i → i ≤ 14 → i ≠ 9 → J h i = J2 h2 i) {j : Nat} (hj : j < 13) : hsC J h j = hsC J2 h2 j := by
  unfold hsC
  split
  · exact q _ (by omega) (by omega) (by omega)
  · exact q _ (by omega) (by omega) (by omega)
theorem hR_congr {J J2 : Nat → Nat → Int} {G G2 : Nat → Nat → Int64} {h h2 : Nat} {r r2 : Nat → Int} (e : eqH J G h J2 G2 h2) (er : ∀ i, i < 108 → r i = r2 i) (q : hR J2 G2 h2 r2) : hR J G h r := by
  obtain ⟨q1, q2, q3, m1, m2, m3⟩ := q
  have eh : ∀ j, j < 13 → hsC J h j = hsC J2 h2 j := fun j hj => hsC_eq e.1 hj
  have ew : ∀ k, k < 5 → ∀ i, i < 7 → wdC J h k i = wdC J2 h2 k i := fun k hk i hi => e.2.1 k i hk hi
  have es : sbC G h = sbC G2 h2 := funext fun t => by unfold sbC; rw [e.2.2]
  have e0 : hsC J h 0 = hsC J2 h2 0 := eh 0 (by decide)
  refine ⟨⟨?_, fun k hk => ?_⟩, ?_, fun t ht => by rw [es]; exact q3 t ht, ⟨fun j hj => by rw [er j (by omega), eh j hj]; exact m1 j hj, fun k hk i hi => ?_, fun t ht => by rw [er _ (by omega), es]; exact m3 t ht⟩⟩
  · have q := q1.1
    unfold hOk at q ⊢
    rw [eh 0 (by decide), eh 1 (by decide), eh 2 (by decide), eh 3 (by decide), eh 4 (by decide), eh 5 (by decide), eh 6 (by decide), eh 7 (by decide), eh 8 (by decide), eh 9 (by decide), eh 10 (by decide), eh 11 (by decide), eh 12 (by decide)]
    exact q
  · have q := q1.2 k hk
    unfold wOk at q ⊢
    rw [ew k hk 0 (by decide), ew k hk 1 (by decide), ew k hk 2 (by decide), ew k hk 3 (by decide), ew k hk 4 (by decide), ew k hk 5 (by decide), ew k hk 6 (by decide)]
    exact q
  · rw [e.1 10 (by decide) (by decide) (by decide), e.1 11 (by decide) (by decide) (by decide), e.1 12 (by decide) (by decide) (by decide), e.1 2 (by decide) (by decide) (by decide)]
    exact q2
  · have hk2 : k < (hsC J2 h2 0).toNat := by rw [← e0]; exact hk
    have hc : (hsC J2 h2 0).toNat ≤ 5 := by
      have := (cOk_f q1).2.1
      show (J2 h2 1).toNat ≤ 5
      omega
    rw [er _ (by omega), ew k (by omega) i hi]
    exact m2 k hk2 i hi
def zInv (J : Nat → Nat → Int) (G : Nat → Nat → Int64) (F : Nat → Nat → Option Nat) (b : Nat → Nat) : Prop :=
  zFk F ∧ bOk F b ∧ hR J G 1 (J 51) ∧ (0 ≤ J 0 2 ∧ J 0 2 ≤ 4 ∧ J 50 3 = J 0 2) ∧ (∀ i, i < (J 0 2).toNat → hR J G (b i) (fun j => J 52 (108 * i + j))) ∧ (0 ≤ J 0 7 ∧ J 0 7 ≤ 90 ∧ J 50 6 = J 0 7) ∧ (∀ i, 0 ≤ J 49 i ∧ J 49 i ≤ 127) ∧ (∀ i, 0 ≤ J 54 i ∧ J 54 i ≤ 127) ∧ (∀ i, i < (J 0 7).toNat → J 54 i = J 49 i) ∧ rwOk J
/-- a call that changes nothing that counts -/
theorem zInv_same {J J3 : Nat → Nat → Int} {G G3 : Nat → Nat → Int64} {F : Nat → Nat → Option Nat} {b : Nat → Nat} (I : zInv J G F b) (hJ : ∀ x i, ¬ (37 ≤ x ∧ x ≤ 42) → x ≠ 53 → x ≠ 55 → ¬ (x = 50 ∧ (i = 4 ∨ 8 ≤ i)) → ¬ (x = 51 ∧ 108 ≤ i) → ¬ (43 ≤ x ∧ x ≤ 47) → J3 x i = J x i) (hr : rwOk J3) (hG : ∀ x i, x < 37 → G3 x i = G x i) : zInv J3 G3 F b := by
  obtain ⟨i1, i2, i3, ⟨i4, i5, i6⟩, i7, ⟨i8, i9, i10⟩, i11, i12, i13, i14⟩ := I
  have e2 : J3 0 2 = J 0 2 := hJ 0 2 (by decide) (by decide) (by decide) (by decide) (by decide) (by decide)
  have e7 : J3 0 7 = J 0 7 := hJ 0 7 (by decide) (by decide) (by decide) (by decide) (by decide) (by decide)
  have e3 : J3 50 3 = J 50 3 := hJ 50 3 (by decide) (by decide) (by decide) (by decide) (by decide) (by decide)
  have e6 : J3 50 6 = J 50 6 := hJ 50 6 (by decide) (by decide) (by decide) (by decide) (by decide) (by decide)
  have e49 : ∀ i, J3 49 i = J 49 i := fun i => hJ 49 i (by decide) (by decide) (by decide) (by omega) (by omega) (by decide)
  have e54 : ∀ i, J3 54 i = J 54 i := fun i => hJ 54 i (by decide) (by decide) (by decide) (by omega) (by omega) (by decide)
  have eh : ∀ h, h ≤ 30 → eqH J3 G3 h J G h := fun h hh => eqH_c (fun x i a c => hJ x i (by omega) (by omega) (by omega) (by omega) (by omega) (by omega)) (hG h 9 (by omega))
  refine ⟨i1, i2, hR_congr (eh 1 (by decide)) (fun i hi => hJ 51 i (by decide) (by decide) (by decide) (by omega) (by omega) (by decide)) i3, ⟨by omega, by omega, by omega⟩, fun i hi => ?_, ⟨by omega, by omega, by omega⟩, fun i => by rw [e49]; exact i11 i, fun i => by rw [e54]; exact i12 i, fun i hi => by rw [e49, e54]; exact i13 i (by omega), hr⟩
  have hs := (i2.1 i (by omega)).2
  exact hR_congr (eh (b i) (by rcases hs with h | h | h | h <;> omega)) (fun j hj => hJ 52 _ (by decide) (by decide) (by decide) (by omega) (by omega) (by decide)) (i7 i (by omega))
theorem rwOk_eq {J J3 : Nat → Nat → Int} (h : rwOk J) (e : ∀ x i, 43 ≤ x → x ≤ 47 → J3 x i = J x i) : rwOk J3 := fun j hj => by
  rw [e (43 + j) 0 (by omega) (by omega)]
  exact h j hj
/-- a call that saves and changes the house -/
theorem zInv_mut {J J1 J2 J3 : Nat → Nat → Int} {G G1 G3 : Nat → Nat → Int64} {F F2 : Nat → Nat → Option Nat} {b b1 : Nat → Nat} (I : zInv J G F b) (sv : svR J G b J1 G1 b1) (hF : zFk F2) (hb : bOk F2 b1) (f1 : ∀ x i, x = 0 ∨ 9 ≤ x → ¬ (37 ≤ x ∧ x ≤ 40) → J2 x i = J1 x i) (hG : ∀ x i, 9 ≤ x → x < 37 → G3 x i = G1 x i) (m : ∀ x i, x ≠ 51 → x ≠ 53 → x ≠ 55 → ¬ (x = 50 ∧ (i = 4 ∨ 8 ≤ i)) → J3 x i = msJ J2 x i) (nw : hR J3 G3 1 (J3 51)) : zInv J3 G3 F2 b1 := by
  obtain ⟨i1, i2, i3, ⟨i4, i5, i6⟩, i7, ⟨i8, i9, i10⟩, i11, i12, i13, i14⟩ := I
  obtain ⟨v1, v2, v3, v4, v5⟩ := sv
  have mo : ∀ x i, x < 50 → J3 x i = J2 x i := fun x i hx => (m x i (by omega) (by omega) (by omega) (by omega)).trans (msJ_o (by omega) (by omega))
  have ms : ∀ x i, 41 ≤ x → J2 x i = J x i := fun x i hx => (f1 x i (by omega) (by omega)).trans (v4 x i (by omega) (by omega))
  have e02 : J3 0 2 = J1 0 2 := (mo 0 2 (by decide)).trans (f1 0 2 (Or.inl rfl) (by decide))
  have e07 : J3 0 7 = J 0 7 := (mo 0 7 (by decide)).trans ((f1 0 7 (Or.inl rfl) (by decide)).trans (v4 0 7 (by decide) (Or.inl (by decide))))
  have e503 : J3 50 3 = (svT (J 50 3) : Nat) + 1 := by
    rw [m 50 3 (by decide) (by decide) (by decide) (by decide)]
    show zup _ 50 3 _ 50 3 = _
    rw [zup_eq, ms 50 3 (by decide)]
  have e506 : J3 50 6 = J 50 6 := (m 50 6 (by decide) (by decide) (by decide) (by decide)).trans ((msJ_o (by decide) (by decide)).trans (ms 50 6 (by decide)))
  have e49 : ∀ i, J3 49 i = J 49 i := fun i => (mo 49 i (by decide)).trans (ms 49 i (by decide))
  have e54 : ∀ i, J3 54 i = J 54 i := fun i => (m 54 i (by decide) (by decide) (by decide) (by omega)).trans ((msJ_o (by decide) (by omega)).trans (ms 54 i (by decide)))
  have e52 : ∀ i, J3 52 i = ptR (msR J) (J 51) (svT (J 50 3)) 108 i := fun i => by
    rw [m 52 i (by decide) (by decide) (by decide) (by omega), show msJ J2 52 i = ptR (msR J2) (J2 51) (svT (J2 50 3)) 108 i from (zup_ne (by omega)).trans upr_eq, ms 50 3 (by decide), show J2 51 = J 51 from funext fun j => ms 51 j (by decide), show msR J2 = msR J from by unfold msR; rw [ms 50 3 (by decide), show J2 52 = J 52 from funext fun j => ms 52 j (by decide)]]
  have eh : ∀ h, zSv h → eqH J3 G3 h J1 G1 h := fun h hh => by
    have hr : 9 ≤ h ∧ h ≤ 30 := by rcases hh with h | h | h | h <;> omega
    exact eqH_c (fun x i a c => (mo x i (by omega)).trans (f1 x i (by omega) (by omega))) (hG h 9 (by omega) (by omega))
  have hsv : svT (J 50 3) = if J 0 2 < 4 then (J 0 2).toNat else 3 := by
    unfold svT
    rw [i6]
    split <;> split <;> omega
  have ht : svT (J 50 3) ≤ 3 := by rw [hsv]; split <;> omega
  refine ⟨hF, hb, nw, ⟨?_, ?_, ?_⟩, fun i hi => ?_, ⟨by omega, by omega, by omega⟩, fun i => by rw [e49]; exact i11 i, fun i => by rw [e54]; exact i12 i, fun i hi => by rw [e49, e54]; exact i13 i (by omega), rwOk_eq i14 fun x i hx hx2 => (mo x i (by omega)).trans (ms x i (by omega))⟩
  · rw [e02, v1]; split <;> omega
  · rw [e02, v1]; split <;> omega
  · rw [e02, e503, v1, hsv]; split <;> omega
  · have hi2 : i ≤ svT (J 50 3) := by
      rw [e02, v1] at hi
      rw [hsv]
      split at hi
      · rename_i h4; rw [if_pos h4]; omega
      · rename_i h4; rw [if_neg h4]; omega
    have hbs := (hb.1 i (by omega)).2
    by_cases hit : i = svT (J 50 3)
    · refine hR_congr ((eh _ hbs).trans (by rw [hit, hsv]; exact v2)) (fun j hj => ?_) i3
      show J3 52 (108 * i + j) = J 51 j
      rw [e52, hit]
      unfold ptR
      rw [if_pos (by omega)]
      exact congrArg (J 51) (by omega)
    · have h3 := v3 i (by rw [← hsv]; omega)
      have hii : (if J 0 2 < 4 then i else i + 1) < (J 0 2).toNat := by
        rw [hsv] at hi2 hit
        split at hi2
        · rename_i h4; rw [if_pos h4] at hit ⊢; omega
        · rename_i h4; rw [if_neg h4] at hit ⊢; omega
      refine hR_congr ((eh _ hbs).trans h3) (fun j hj => ?_) (i7 _ hii)
      show J3 52 (108 * i + j) = J 52 (108 * (if J 0 2 < 4 then i else i + 1) + j)
      rw [e52]
      unfold ptR
      rw [if_neg (by omega)]
      unfold msR
      by_cases h4 : J 0 2 < 4
      · rw [if_neg (by omega), if_pos h4]
      · rw [if_pos (by omega), if_neg h4]
        unfold shR
        have : svT (J 50 3) = 3 := by rw [hsv, if_neg h4]
        rw [if_pos (by omega)]
        exact congrArg (J 52) (by omega)
/-- undo -/
theorem zInv_undo {J J3 : Nat → Nat → Int} {G G3 : Nat → Nat → Int64} {F : Nat → Nat → Option Nat} {b : Nat → Nat} (I : zInv J G F b) (h1 : ¬ J 0 2 < 1) (hJ : ∀ x i, x < 50 → J3 x i = unJ J b x i) (hG : ∀ x i, x < 37 → G3 x i = unG J G b x i) (h51 : ∀ i, i < 108 → J3 51 i = J 52 (108 * (J 0 2 - 1).toNat + i)) (h3 : J3 50 3 = J 0 2 - 1) (ho : ∀ x i, x = 52 ∨ x = 54 ∨ x = 50 ∧ i = 6 → J3 x i = J x i) : zInv J3 G3 F b := by
  obtain ⟨i1, i2, i3, ⟨i4, i5, i6⟩, i7, ⟨i8, i9, i10⟩, i11, i12, i13, i14⟩ := I
  have ht : (J 0 2 - 1).toNat < 4 := by omega
  have hbt := (i2.1 _ ht).2
  have hbr : 9 ≤ b (J 0 2 - 1).toNat ∧ b (J 0 2 - 1).toNat ≤ 30 := by rcases hbt with h | h | h | h <;> omega
  have un : ∀ x i, x = 0 ∨ 8 ≤ x → ¬ (x = 0 ∧ i = 2) → unJ J b x i = J x i := fun x i a c => (cpH_ot (by omega)).trans (zup_ne c)
  have e02 : J3 0 2 = J 0 2 - 1 := (hJ 0 2 (by decide)).trans ((cpH_ot (by decide)).trans zup_eq)
  have e07 : J3 0 7 = J 0 7 := (hJ 0 7 (by decide)).trans (un 0 7 (Or.inl rfl) (by decide))
  have e49 : ∀ i, J3 49 i = J 49 i := fun i => (hJ 49 i (by decide)).trans (un 49 i (by decide) (by omega))
  have e54 : ∀ i, J3 54 i = J 54 i := fun i => ho 54 i (Or.inr (Or.inl rfl))
  have e506 : J3 50 6 = J 50 6 := ho 50 6 (by decide)
  have hn : eqH J3 G3 1 J G (b (J 0 2 - 1).toNat) := by
    refine (eqH_c (J2 := unJ J b) (G2 := unG J G b) (fun x i a c => hJ x i (by omega)) (hG 1 9 (by decide))).trans ?_
    refine (cpH_new (J := zup J 0 2 (J 0 2 - 1)) (G := G) (h := 1) (o := b (J 0 2 - 1).toNat)).trans ?_
    exact eqH_c (fun x i a c => zup_ne (by omega)) rfl
  refine ⟨i1, i2, hR_congr hn (fun i hi => h51 i hi) (i7 _ (by omega)), ⟨by omega, by omega, by omega⟩, fun i hi => ?_, ⟨by omega, by omega, by omega⟩, fun i => by rw [e49]; exact i11 i, fun i => by rw [e54]; exact i12 i, fun i hi => by rw [e49, e54]; exact i13 i (by omega), rwOk_eq i14 fun x i hx hx2 => (hJ x i (by omega)).trans (un x i (by omega) (by omega))⟩
  have hs := (i2.1 i (by omega)).2
  have hsr : 9 ≤ b i ∧ b i ≤ 30 := by rcases hs with h | h | h | h <;> omega
  refine hR_congr (eqH_c (fun x j a c => (hJ x j (by omega)).trans (un x j (by omega) (by omega))) ((hG (b i) 9 (by omega)).trans (zup_ne (by omega)))) (fun j hj => ho 52 _ (Or.inl rfl)) (i7 i (by omega))
