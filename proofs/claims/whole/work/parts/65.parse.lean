/-! the house behind a text that was read -/
theorem tsR_s {J : Nat → Nat → Int} {k : Nat} (h : psOk J) (hw : ∀ j, j < k → J 51 (13 + 7 * j + 0) ≤ 60) (hy : (tsR J k).2 = 1) : ∃ (Jx : Nat → Nat → Int) (dr to s : Int), (0 ≤ dr ∧ dr < k) ∧ (0 ≤ to ∧ to < 60) ∧ (s = 1 ∨ s = -1) ∧ (tsR J k).1 = sk3 Jx k dr to s ∧ ∀ i, Jx 51 i = J 51 i := by
  unfold tsR at hy ⊢
  by_cases q : atP J 48 52 ∧ J 54 (J 50 8).toNat - 48 < k
  · rw [if_pos q] at hy ⊢
    have d0 : 0 ≤ J 54 (J 50 8).toNat - 48 := by have := q.1.2.1; omega
    have dk := q.2
    have h1 := psOk_at h q.1
    have e1 : ∀ i, zup J 50 8 (J 50 8 + 1) 51 i = J 51 i := fun i => zup_ne (by omega)
    generalize zup J 50 8 (J 50 8 + 1) = J1 at hy h1 e1 ⊢
    generalize J 54 (J 50 8).toNat - 48 = dr at hy d0 dk ⊢
    unfold tsA at hy ⊢
    by_cases q2 : atP J1 44 44
    · rw [if_pos q2] at hy ⊢
      have h2 := psOk_at h1 q2
      have e2 : ∀ i, zup J1 50 8 (J1 50 8 + 1) 51 i = J 51 i := fun i => (zup_ne (by omega)).trans (e1 i)
      generalize zup J1 50 8 (J1 50 8 + 1) = J2 at hy h2 e2 ⊢
      have ht : J2 51 (13 + 7 * dr.toNat + 0) - 1 < 60 := by
        rw [e2]
        have := hw dr.toNat (by omega)
        omega
      unfold tsB at hy ⊢
      generalize J2 51 (13 + 7 * dr.toNat + 0) - 1 = te at hy ht ⊢
      by_cases q3 : tnA J2 0 te (tnK J2) = 1
      · rw [if_pos q3] at hy ⊢
        have hb := (tn_yes q3).2.1
        rw [tn_num q3] at hy ⊢
        have e3 : ∀ i, tnW J2 0 te (tnK J2) 51 i = J 51 i := fun i => (tnW_o (by omega)).trans (e2 i)
        generalize tnW J2 0 te (tnK J2) = J3 at hy e3 ⊢
        generalize tnV J2 (tnK J2) = to at hy hb ⊢
        unfold tsC at hy ⊢
        by_cases q4 : atP J3 43 43
        · rw [if_pos q4]
          exact ⟨_, dr, to, 1, ⟨d0, dk⟩, by omega, Or.inl rfl, rfl, fun i => (zup_ne (by omega)).trans (e3 i)⟩
        · rw [if_neg q4] at hy ⊢
          by_cases q5 : atP J3 45 45
          · rw [if_pos q5]
            exact ⟨_, dr, to, -1, ⟨d0, dk⟩, by omega, Or.inr rfl, rfl, fun i => (zup_ne (by omega)).trans (e3 i)⟩
          · rw [if_neg q5] at hy
            exact absurd hy (show ¬ ((0 : Int) = 1) by decide)
      · rw [if_neg q3] at hy
        exact absurd hy (show ¬ ((0 : Int) = 1) by decide)
    · rw [if_neg q2] at hy
      exact absurd hy (show ¬ ((0 : Int) = 1) by decide)
  · rw [if_neg q] at hy
    exact absurd hy (show ¬ ((0 : Int) = 1) by decide)
theorem weE_51 {J : Nat → Nat → Int} {i : Nat} : (weE J).1 51 i = J 51 i := by
  unfold weE
  split
  · show zup J 50 8 (J 50 8 + 1) 51 i = J 51 i
    exact zup_ne (by omega)
  · rfl
/-- a read wheel k of the row -/
def W6 (J : Nat → Nat → Int) (k : Nat) : Prop := 0 ≤ J 51 (13 + 7 * k + 1) ∧ J 51 (13 + 7 * k + 1) < J 51 (13 + 7 * k + 0) ∧ J 51 (13 + 7 * k + 2) = 0 ∧ -1 ≤ J 51 (13 + 7 * k + 3) ∧ J 51 (13 + 7 * k + 3) < k ∧ -1 ≤ J 51 (13 + 7 * k + 4) ∧ J 51 (13 + 7 * k + 4) < 60 ∧ -1 ≤ J 51 (13 + 7 * k + 5) ∧ J 51 (13 + 7 * k + 5) ≤ 1
theorem W6_eq {J J2 : Nat → Nat → Int} {k : Nat} (h : W6 J k) (e : ∀ f, f < 6 → J2 51 (13 + 7 * k + f) = J 51 (13 + 7 * k + f)) : W6 J2 k := by
  unfold W6
  rw [e 0 (by decide), e 1 (by decide), e 2 (by decide), e 3 (by decide), e 4 (by decide), e 5 (by decide)]
  exact h
theorem W6_sk {J : Nat → Nat → Int} {k : Nat} {dr to s : Int} (h : W6 J k) (h1 : 0 ≤ dr ∧ dr < k) (h2 : 0 ≤ to ∧ to < 60) (h3 : s = 1 ∨ s = -1) : W6 (sk3 J k dr to s) k := by
  unfold W6 at h ⊢
  unfold sk3
  rw [zup_wr (by decide) (by decide), zup_wr (by decide) (by decide), zup_wr (by decide) (by decide), zup_wr (by decide) (by decide), zup_wr (by decide) (by decide), zup_wr (by decide) (by decide), zup_wr (by decide) (by decide), zup_wr (by decide) (by decide), zup_wr (by decide) (by decide), zup_wr (by decide) (by decide), zup_wr (by decide) (by decide), zup_wr (by decide) (by decide), zup_wr (by decide) (by decide), zup_wr (by decide) (by decide), zup_wr (by decide) (by decide), zup_wr (by decide) (by decide), zup_wr (by decide) (by decide), zup_wr (by decide) (by decide)]
  simp at h ⊢
  omega
theorem W6_co {J : Nat → Nat → Int} {k : Nat} {te po : Int} (h : 0 ≤ po ∧ po < te) : W6 (comJ J k te po) k := by
  unfold W6 comJ
  simp [zup]
  omega
theorem W6_D {J : Nat → Nat → Int} {k : Nat} (h : psOk J) (hw : ∀ j, j < k → J 51 (13 + 7 * j + 0) ≤ 60) (h6 : W6 J k) (hy : (weD J k).2 = 1) : W6 (weD J k).1 k := by
  unfold weD at hy ⊢
  by_cases q : atP J 64 64
  · rw [if_pos q] at hy ⊢
    by_cases q2 : (tsR (zup J 50 8 (J 50 8 + 1)) k).2 = 1
    · rw [if_pos q2]
      obtain ⟨Jx, dr, to, s, a1, a2, a3, a4, a5⟩ := tsR_s (psOk_at h q) (fun j hj => by rw [zup_ne (by omega)]; exact hw j hj) q2
      refine W6_eq (W6_sk (J := Jx) (W6_eq h6 fun f _ => (a5 _).trans (zup_ne (by omega))) a1 a2 a3) fun f _ => ?_
      rw [weE_51, a4]
    · rw [if_neg q2] at hy
      exact absurd hy (show ¬ ((0 : Int) = 1) by decide)
  · rw [if_neg q]
    exact W6_eq h6 fun f _ => weE_51
theorem W6_R {J : Nat → Nat → Int} {c : Nat} (h : pwH J c) (hw : ∀ j, j < c → W6 J j) (hy : (weR J c).2 = 1) : ∀ j, j < c + 1 → W6 (weR J c).1 j := by
  have hk := weR_k (k := c) h.1
  intro j hj
  by_cases hjc : j = c
  · subst hjc
    have h1 := h.1
    have ht : ∀ i, i < j → J 51 (13 + 7 * i + 0) ≤ 60 := fun i hi => (h.2.2.2.1 i hi).2
    unfold weR at hy ⊢
    by_cases q0 : j = 5
    · rw [if_pos q0] at hy
      exact absurd hy (show ¬ ((0 : Int) = 1) by decide)
    rw [if_neg q0] at hy ⊢
    by_cases q1 : tnA J 2 60 (tnK J) = 1
    · rw [if_pos q1] at hy ⊢
      have h2 := psOk_tn (a := 2) (b := 60) h1
      have e2 : ∀ i, tnW J 2 60 (tnK J) 51 i = J 51 i := fun i => tnW_o (by omega)
      generalize tnW J 2 60 (tnK J) = J1 at hy h2 e2 ⊢
      generalize J1 50 9 = te at hy ⊢
      unfold weB at hy ⊢
      by_cases q2 : atP J1 44 44
      · rw [if_pos q2] at hy ⊢
        have h3 := psOk_at h2 q2
        have e3 : ∀ i, zup J1 50 8 (J1 50 8 + 1) 51 i = J 51 i := fun i => (zup_ne (by omega)).trans (e2 i)
        generalize zup J1 50 8 (J1 50 8 + 1) = J2 at hy h3 e3 ⊢
        unfold weC at hy ⊢
        by_cases q3 : tnA J2 0 (te - 1) (tnK J2) = 1
        · rw [if_pos q3] at hy ⊢
          have hb := (tn_yes q3).2.1
          rw [tn_num q3] at hy ⊢
          refine W6_D (psOk_co (psOk_tn h3)) (fun i hi => ?_) (W6_co (by omega)) hy
          rw [comJ_o (by omega), tnW_o (by omega), e3]
          exact ht i hi
        · rw [if_neg q3] at hy
          exact absurd hy (show ¬ ((0 : Int) = 1) by decide)
      · rw [if_neg q2] at hy
        exact absurd hy (show ¬ ((0 : Int) = 1) by decide)
    · rw [if_neg q1] at hy
      exact absurd hy (show ¬ ((0 : Int) = 1) by decide)
  · exact W6_eq (hw j (by omega)) fun f hf => hk.2 51 _ (Or.inl (by decide)) (by omega)
theorem W6_L : ∀ (f c : Nat) (J : Nat → Nat → Int), c + f = 6 → pwH J c → (∀ j, j < c → W6 J j) → (paL f J c).2 = 1 → ∀ j, j < ((paL f J c).1 51 0).toNat → W6 (paL f J c).1 j := by
  intro f
  induction f with
  | zero =>
    intro c J hc h hw hy j hj
    exact hw j (by
      have := h.2.1
      have e : (paL 0 J c).1 = J := rfl
      rw [e] at hj
      omega)
  | succ f ih =>
    intro c J hc h hw hy
    rw [paL_s] at hy ⊢
    by_cases q : J 50 8 < J 50 6
    · rw [if_pos q] at hy ⊢
      by_cases q2 : (weR J c).2 = 1
      · rw [if_pos q2] at hy ⊢
        exact ih (c + 1) _ (by omega) (weR_y h q2) (W6_R h hw q2) hy
      · rw [if_neg q2] at hy
        exact absurd hy (show ¬ ((0 : Int) = 1) by decide)
    · rw [if_neg q] at hy ⊢
      intro j hj
      exact hw j (by
        have := h.2.1
        have e : (J, (1 : Int)).1 = J := rfl
        rw [e] at hj
        omega)
theorem keepA_L : ∀ (f c : Nat) (J : Nat → Nat → Int), pwH J c → c + f = 6 → keepA (paL f J c).1 J := by
  intro f
  induction f with
  | zero => intro c J h hc; exact ⟨h.1, fun _ _ _ _ => rfl⟩
  | succ f ih =>
    intro c J h hc
    rw [paL_s]
    by_cases q : J 50 8 < J 50 6
    · rw [if_pos q]
      by_cases q2 : (weR J c).2 = 1
      · rw [if_pos q2]
        exact keepA_tr (ih (c + 1) _ (weR_y h q2) (by omega)) (keepA_we h)
      · rw [if_neg q2]
        exact keepA_we h
    · rw [if_neg q]
      exact ⟨h.1, fun _ _ _ _ => rfl⟩
theorem rwR_ok {J : Nat → Nat → Int} {n : Int} (htx : ∀ i, 0 ≤ J 49 i ∧ J 49 i ≤ 127) (h1 : 0 ≤ n) (h2 : n ≤ 90) (hrw : rwOk J) : rwOk (rwR J n) := by
  have key : ∀ (f k : Nat) (Jc : Nat → Nat → Int), k + f ≤ 5 → rdOk Jc (fun _ _ => some 49) → rwOk Jc → rwOk (rwL f k Jc) := by
    intro f
    induction f with
    | zero => intro k Jc _ h hw; exact hw
    | succ f ih =>
      intro k Jc hk h hw
      rw [rwL_s]
      split
      · have hst := rwStep_ok (k := k) (v := (k : Int) + 1) h (by omega) hw
        exact ih (k + 1) _ (by omega) hst.1 hst.2
      · exact hw
  have hr := key 5 0 (rw0 J n) (by decide) (rw0_ok rfl htx h1 h2) (fun j hj => by rw [rw0_o (by omega)]; exact hrw j hj)
  exact rwOk_eq hr fun x i hx hx2 => by
    unfold rwR
    exact rwE_o (Or.inl (by omega))
theorem in_pa {J Jc : Nat → Nat → Int} {G : Nat → Nat → Int64} {F : Nat → Nat → Option Nat} {b : Nat → Nat} (I : zInv J G F b) (h50 : Jc 50 6 = J 50 6) (h54 : ∀ i, Jc 54 i = J 54 i) (h51 : ∀ i, i < 108 → Jc 51 i = J 51 i) : ((paL 6 (pa0 Jc) 0).2 = 1 → ∃ n : Nat, n ≤ 5 ∧ Sm (rwR J (J 0 7)) (paL 6 (pa0 Jc) 0).1 n ∧ (paL 6 (pa0 Jc) 0).1 51 0 = n ∧ rwR J (J 0 7) 41 1 = n ∧ pwH (paL 6 (pa0 Jc) 0).1 n ∧ (∀ j, j < n → W6 (paL 6 (pa0 Jc) 0).1 j) ∧ ∀ i, i ≠ 0 → ¬ (13 ≤ i ∧ i < 48) → i < 108 → (paL 6 (pa0 Jc) 0).1 51 i = J 51 i) ∧ ((paL 6 (pa0 Jc) 0).2 ≠ 1 → rwR J (J 0 7) 41 5 = (paL 6 (pa0 Jc) 0).1 50 8 ∧ rwR J (J 0 7) 41 5 ≠ -1) := by
  obtain ⟨i1, i2, i3, ⟨i4, i5, i6⟩, i7, ⟨i8, i9, i10⟩, i11, i12, i13, i14⟩ := I
  obtain ⟨c, hd, z, m⟩ := i3
  have hf := cOk_f c
  have sr := hR_sr m
  have hH := pa0_H (J := Jc) (fun i => by rw [h54]; exact i12 i) (by omega) (by omega) (by rw [h51 1 (by decide)]; omega) (by rw [h51 1 (by decide)]; omega) (by rw [h51 12 (by decide)]; omega) (by rw [h51 12 (by decide)]; omega)
  have e6 : pa0 Jc 50 6 = J 50 6 := (pa0_o (by decide) (by decide) (by decide)).trans h50
  have e4 : ∀ i, pa0 Jc 54 i = J 54 i := fun i => (pa0_o (by decide) (by omega) (by omega)).trans (h54 i)
  have hS : Sm (rw0 J (J 0 7)) (pa0 Jc) 0 := by
    refine ⟨⟨by simp [rw0, zup], ?_, ?_, hH.1⟩, fun i hi => ?_, fun j hj => absurd hj (Nat.not_lt_zero j)⟩
    · rw [show pa0 Jc 50 8 = 0 from zup_eq]
      simp [rw0, zup]
    · rw [e6, i10]
      simp [rw0, zup]
    · rw [rw0_o (by decide), e4]
      exact (i13 i (by omega)).symm
  have h := sm_L 5 0 (rw0 J (J 0 7)) (pa0 Jc) rfl hS hH (by simp [rw0, zup])
  refine ⟨fun hy => ?_, h.2⟩
  obtain ⟨n, a1, a2, a3, a4, a5⟩ := h.1 hy
  have a6 := W6_L 6 0 (pa0 Jc) rfl hH (fun j hj => absurd hj (Nat.not_lt_zero j)) hy
  have a7 : (paL 6 (pa0 Jc) 0).1 51 0 = (n : Int) := a3
  refine ⟨n, a1, a2, a3, a4, a5, fun j hj => a6 j (by omega), fun i q1 q2 q3 => ?_⟩
  rw [(keepA_L 6 0 (pa0 Jc) hH rfl).2 51 i (Or.inl (by decide)) (Or.inr ⟨q1, q2⟩), pa0_o (by decide) (by omega) (by omega)]
  exact h51 i q3
theorem nw_51 {N : Nat → Nat → Int} {n i : Nat} (hn : n ≤ 5) (h0 : N 51 0 = n) : nwJ5 N 51 i = if i % 7 = 5 ∧ 19 ≤ i ∧ i < 19 + 7 * n then N 51 (i - 5) else if i = 12 then N 51 1 else if i = 2 ∨ i = 4 ∨ i = 11 ∨ 48 ≤ i ∧ i < 108 then 0 else N 51 i := by
  have eE : ∀ j, upr (zup (zup (zup N 51 2 0) 51 4 0) 51 11 0) 51 (emR (zup (zup (zup N 51 2 0) 51 4 0) 51 11 0 51) 60) 51 j = if j = 2 ∨ j = 4 ∨ j = 11 ∨ 48 ≤ j ∧ j < 108 then 0 else N 51 j := fun j => by
    rw [upr_eq]
    unfold emR zup
    by_cases q : j = 2 ∨ j = 4 ∨ j = 11 ∨ 48 ≤ j ∧ j < 108
    · rw [if_pos q]
      by_cases q2 : 48 ≤ j ∧ j < 48 + 60
      · rw [if_pos q2]
      · rw [if_neg q2]
        rcases q with q | q | q | q
        · subst q; simp
        · subst q; simp
        · subst q; simp
        · omega
    · rw [if_neg q, if_neg (by omega), if_neg (by omega), if_neg (by omega), if_neg (by omega)]
  unfold nwJ5 prM
  rw [upr_eq]
  unfold prR
  have e0 : (upr (zup (zup (zup N 51 2 0) 51 4 0) 51 11 0) 51 (emR (zup (zup (zup N 51 2 0) 51 4 0) 51 11 0 51) 60) 51 0).toNat = n := by
    rw [eE, if_neg (by omega), h0]
    omega
  rw [e0]
  by_cases q : i % 7 = 5 ∧ 19 ≤ i ∧ i < 19 + 7 * n
  · rw [if_pos q, if_pos q]
    show (if i - 5 = 12 then _ else _) = _
    rw [if_neg (by omega), eE, if_neg (by omega)]
  · rw [if_neg q, if_neg q]
    show (if i = 12 then _ else _) = _
    by_cases q2 : i = 12
    · rw [if_pos q2, if_pos q2, eE, if_neg (by omega)]
    · rw [if_neg q2, if_neg q2, eE]
theorem tk_o {n : Int} {J : Nat → Nat → Int} {x i : Nat} (h : x = 0 ∨ 9 ≤ x) (hn : n ≤ 5) : tkJ n J x i = J x i := by
  unfold tkJ prA
  rw [zup_ne (by omega)]
  unfold prW
  rw [show (zup (zup (zup (cpWs (zup J 1 1 n) 3 43 n.toNat) 1 3 0) 1 5 0) 1 13 0) 1 1 = n by simp [zup, cpWs]]
  rw [if_neg (by omega), zup_ne (by omega), zup_ne (by omega), zup_ne (by omega)]
  unfold cpWs
  rw [if_neg (by omega), zup_ne (by omega)]
theorem tk_1 {n : Int} {J : Nat → Nat → Int} {i : Nat} : tkJ n J 1 i = zup (zup (zup (zup (zup J 1 1 n) 1 3 0) 1 5 0) 1 13 0) 1 14 (J 1 2) 1 i := by
  unfold tkJ prA
  rw [show (zup (zup (zup (cpWs (zup J 1 1 n) 3 43 n.toNat) 1 3 0) 1 5 0) 1 13 0) 1 2 = J 1 2 by simp [zup, cpWs]]
  refine zup_cg ?_
  unfold prW
  rw [if_neg (by omega)]
  refine zup_cg (zup_cg (zup_cg ?_))
  unfold cpWs
  rw [if_neg (by omega)]
theorem tk_w {n : Int} {J : Nat → Nat → Int} {k i : Nat} (hk : k < 5) (hi : i < 7) : tkJ n J (3 + k) i = if k < n.toNat then (if i = 6 then J (43 + k) 1 else J (43 + k) i) else J (3 + k) i := by
  unfold tkJ prA
  rw [zup_ne (by omega)]
  unfold prW
  rw [show (zup (zup (zup (cpWs (zup J 1 1 n) 3 43 n.toNat) 1 3 0) 1 5 0) 1 13 0) 1 1 = n by simp [zup, cpWs]]
  have e : ∀ f, f < 7 → zup (zup (zup (cpWs (zup J 1 1 n) 3 43 n.toNat) 1 3 0) 1 5 0) 1 13 0 (3 + k) f = if k < n.toNat then J (43 + k) f else J (3 + k) f := fun f hf => by
    rw [zup_ne (by omega), zup_ne (by omega), zup_ne (by omega)]
    unfold cpWs
    by_cases q : k < n.toNat
    · rw [if_pos (by omega), if_pos q, zup_ne (by omega), show 43 + (3 + k - 3) = 43 + k by omega]
    · rw [if_neg (by omega), if_neg q, zup_ne (by omega)]
  rw [e 1 (by decide), e i hi]
  by_cases q : k < n.toNat
  · rw [if_pos q, if_pos q, if_pos q]
    by_cases q2 : i = 6
    · rw [if_pos (by omega), if_pos q2]
    · rw [if_neg (by omega), if_neg q2]
  · rw [if_neg q, if_neg q, if_neg q, if_neg (by omega)]
theorem zInv_R {J : Nat → Nat → Int} {G : Nat → Nat → Int64} {F : Nat → Nat → Option Nat} {b : Nat → Nat} (I : zInv J G F b) : zInv (rwR J (J 0 7)) G F b :=
  zInv_same I (fun x i a _ _ _ _ c => rwR_o (by omega) c) (rwR_ok I.2.2.2.2.2.2.1 I.2.2.2.2.2.1.1 I.2.2.2.2.2.1.2.1 I.2.2.2.2.2.2.2.2.2) (fun _ _ _ => rfl)
theorem zInv_F {J : Nat → Nat → Int} {G : Nat → Nat → Int64} {F : Nat → Nat → Option Nat} {b : Nat → Nat} {x : Option Nat} (I : zInv J G F b) : zInv J G (zup F 41 2 x) b := ⟨zFk41 I.1, bOk41 I.2.1, I.2.2⟩
theorem st_parse {J J1 J3 : Nat → Nat → Int} {G G1 G3 : Nat → Nat → Int64} {F F2 : Nat → Nat → Option Nat} {b b1 : Nat → Nat} (I : zInv J G F b) (sv : svR (rwR J (J 0 7)) G b J1 G1 b1) (hF : zFk F2) (hb : bOk F2 b1) (hy : (paL 6 (pa0 (tkJ (rwR J (J 0 7) 41 1) J1)) 0).2 = 1) (hs : sameP J3 (upr (msJ (tkJ (rwR J (J 0 7) 41 1) J1)) 51 (nwJ5 (paL 6 (pa0 (tkJ (rwR J (J 0 7) 41 1) J1)) 0).1 51))) (hG : ∀ x i, x < 37 → G3 x i = zup G1 1 9 0 x i) : zInv J3 G3 F2 b1 := by
  have IR := zInv_R I
  have I0 := I
  obtain ⟨i1, i2, i3, ⟨i4, i5, i6⟩, i7, ⟨i8, i9, i10⟩, i11, i12, i13, i14⟩ := I
  obtain ⟨c, hd, z, m⟩ := i3
  have hf := cOk_f c
  have hw := fun k (hk : k < 5) => cOk_w1 c hk
  have sr := hR_sr m
  have hc := rwR_c (J := J) (n := J 0 7)
  have T : ∀ x i, x = 0 ∨ 9 ≤ x → tkJ (rwR J (J 0 7) 41 1) J1 x i = J1 x i := fun x i h => tk_o h hc.2
  have E8 : ∀ x i, 41 ≤ x → J1 x i = rwR J (J 0 7) x i := fun x i a => sv.2.2.2.1 x i (by omega) (Or.inr (by omega))
  have E9 : ∀ x i, 48 ≤ x → J1 x i = J x i := fun x i a => (E8 x i (by omega)).trans (rwR_o (by omega) (by omega))
  have E1 : ∀ x i, 1 ≤ x → x ≤ 8 → J1 x i = J x i := fun x i a d => (sv.2.2.2.1 x i (by omega) (Or.inl d)).trans (rwR_o (by omega) (by omega))
  have hp := in_pa (Jc := tkJ (rwR J (J 0 7) 41 1) J1) I0 ((T 50 6 (by decide)).trans (E9 50 6 (by decide))) (fun i => (T 54 i (by decide)).trans (E9 54 i (by decide))) (fun i _ => (T 51 i (by decide)).trans (E9 51 i (by decide)))
  obtain ⟨n, n5, hS, p0, p1, p2, p6, pk⟩ := hp.1 hy
  generalize paL 6 (pa0 (tkJ (rwR J (J 0 7) 41 1) J1)) 0 = M at *
  rw [p1] at hs T
  have E : ∀ x i, x < 50 → J3 x i = tkJ (n : Int) J1 x i := fun x i hx => (hs x i (by omega) (by omega) (by omega) (by omega)).trans ((upr_ne (by omega)).trans (msJ_o (by omega) (by omega)))
  have e1 : ∀ i, J3 1 i = zup (zup (zup (zup (zup J 1 1 (n : Int)) 1 3 0) 1 5 0) 1 13 0) 1 14 (J 1 2) 1 i := fun i => by
    rw [E 1 i (by decide), tk_1, E1 1 2 (by decide) (by decide)]
    exact zup_cg (zup_cg (zup_cg (zup_cg (zup_cg (E1 1 i (by decide) (by decide))))))
  have ew : ∀ k i, k < 5 → i < 7 → J3 (3 + k) i = if k < n then (if i = 6 then M.1 51 (13 + 7 * k + 1) else M.1 51 (13 + 7 * k + i)) else J (3 + k) i := fun k i hk hi => by
    rw [E (3 + k) i (by omega), tk_w hk hi, E8 (43 + k) 1 (by omega), E8 (43 + k) i (by omega), E1 (3 + k) i (by omega) (by omega), show ((n : Int)).toNat = n from rfl]
    by_cases q : k < n
    · rw [if_pos q, if_pos q, hS.2.2 k q 1 (by decide)]
      by_cases q2 : i = 6
      · rw [if_pos q2, if_pos q2]
      · rw [if_neg q2, if_neg q2, hS.2.2 k q i (by omega)]
    · rw [if_neg q, if_neg q]
  have er : ∀ i, i < 108 → J3 51 i = if i % 7 = 5 ∧ 19 ≤ i ∧ i < 19 + 7 * n then M.1 51 (i - 5) else if i = 12 then M.1 51 1 else if i = 2 ∨ i = 4 ∨ i = 11 ∨ 48 ≤ i ∧ i < 108 then 0 else M.1 51 i := fun i hi => by
    rw [hs 51 i (by decide) (by decide) (by omega) (by omega), upr_eq, nw_51 n5 p0]
  have g9 : G3 1 9 = 0 := by
    rw [hG 1 9 (by decide)]
    exact zup_eq
  have sE : ∀ t, sbC G3 1 t = false := fun t => by
    unfold sbC
    rw [g9]
    simp
  refine zInv_mut (J2 := tkJ (n : Int) J1) IR sv hF hb (fun x i q1 q2 => T x i q1) (fun x i q1 q2 => (hG x i q2).trans (zup_ne (by omega))) (fun x i q1 q2 q3 q4 => ?_) ?_
  · rw [hs x i q2 q3 q4 (by omega)]
    exact upr_ne q1
  · refine hR_mk (by simp only [e1]; simp [zup]; omega) (by simp only [e1]; simp [zup]; omega) (fun k hk => ?_) (fun t _ => sE t) ?_ (fun k hk i hi => ?_) (fun t ht => ?_)
    · rw [ew k 0 hk (by decide), ew k 1 hk (by decide), ew k 2 hk (by decide), ew k 3 hk (by decide), ew k 4 hk (by decide), ew k 5 hk (by decide), ew k 6 hk (by decide)]
      by_cases q : k < n
      · have h6 := p6 k q
        have h2 := p2.2.2.2.1 k q
        unfold W6 at h6
        simp only [if_pos q]
        simp at h6 h2 ⊢
        omega
      · simp only [if_neg q]
        exact hw k hk
    · obtain ⟨a0, a1, a2, a3, a4, a5, a6, a7, a8, a9, a10, a11, a12⟩ := sr
      have b1 := pk 1 (by decide) (by decide) (by decide)
      have b3 := pk 3 (by decide) (by decide) (by decide)
      have b5 := pk 5 (by decide) (by decide) (by decide)
      have b6 := pk 6 (by decide) (by decide) (by decide)
      have b7 := pk 7 (by decide) (by decide) (by decide)
      have b8 := pk 8 (by decide) (by decide) (by decide)
      have b9 := pk 9 (by decide) (by decide) (by decide)
      have b10 := pk 10 (by decide) (by decide) (by decide)
      refine ⟨?_, ?_, ?_, ?_, ?_, ?_, ?_, ?_, ?_, ?_, ?_, ?_, ?_⟩ <;> rw [er _ (by decide), e1] <;> simp [zup] <;> omega
    · rw [e1] at hk
      have hk2 : k < n := by
        simp [zup] at hk
        exact hk
      rw [er _ (by omega), ew k i (by omega) hi, if_pos hk2]
      by_cases q9 : i = 6
      · rw [if_pos (by omega), if_pos q9]
        exact congrArg (M.1 51) (by omega)
      · rw [if_neg (by omega), if_neg q9, if_neg (by omega), if_neg (by omega)]
    · rw [er _ (by omega), if_neg (by omega), if_neg (by omega), if_pos (by omega), sE, if_neg (by decide)]
