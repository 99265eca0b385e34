/-! the new house of print, pass, setDay -/
theorem psN_8 {hs : Nat → Int} {wd : Nat → Nat → Int} {sb : Nat → Bool} {r : Nat → Int} : ∀ n : Nat, psN hs wd sb (hs 3) true r (pT wd) (hs 11) n 8 = r 8 + cN hs wd sb 1 n ∧ psN hs wd sb (hs 3) true r (pT wd) (hs 11) n 9 = r 9 + cN hs wd sb 2 n ∧ psN hs wd sb (hs 3) true r (pT wd) (hs 11) n 10 = r 10 + cN hs wd sb 3 n
  | 0 => by
    rw [psN_0]
    exact ⟨(Int.add_zero _).symm, (Int.add_zero _).symm, (Int.add_zero _).symm⟩
  | n + 1 => by
    have ih := psN_8 (hs := hs) (wd := wd) (sb := sb) (r := r) n
    rw [psN_s, cN_s (j := 1) rfl, cN_s (j := 2) rfl, cN_s (j := 3) rfl, ← Int.add_assoc, ← Int.add_assoc, ← Int.add_assoc, ← ih.1, ← ih.2.1, ← ih.2.2]
    exact ⟨rfl, rfl, rfl⟩
theorem dayN_w {hs : Nat → Int} {wd : Nat → Nat → Int} {sb : Nat → Bool} {lag : Int} {sk : Bool} {q : (Nat → Int) × Int} (h7 : hs 7 ≤ 5) (h : 0 ≤ q.2 ∧ q.2 ≤ 5) : ∀ n, 0 ≤ (dayN hs wd sb lag sk n q).2 ∧ (dayN hs wd sb lag sk n q).2 ≤ 5
  | 0 => h
  | n + 1 => by
    have ih := dayN_w (hs := hs) (wd := wd) (sb := sb) (lag := lag) (sk := sk) h7 h n
    show 0 ≤ (if mfate hs wd sb (dayN hs wd sb lag sk n q).1 lag (dayN hs wd sb lag sk n q).2 = 2 then (dayN hs wd sb lag sk n q).2 + 1 else 0) ∧ (if mfate hs wd sb (dayN hs wd sb lag sk n q).1 lag (dayN hs wd sb lag sk n q).2 = 2 then (dayN hs wd sb lag sk n q).2 + 1 else 0) ≤ 5
    split
    · rename_i h2
      have := mfate_2 h2
      omega
    · omega
theorem psN_o {hs : Nat → Int} {wd : Nat → Nat → Int} {sb : Nat → Bool} {lag : Int} {sk : Bool} {r p : Nat → Int} {wt : Int} (hc : (hs 0).toNat ≤ 5) {i : Nat} (hi : 12 ≤ i) (h7 : ¬ (i % 7 = 0 ∧ i < 14 + 7 * (hs 0).toNat)) : ∀ n, psN hs wd sb lag sk r p wt n i = r i
  | 0 => rfl
  | n + 1 => by
    rw [psN_s]
    unfold mvR
    rw [if_neg (by omega), stR_ne (by omega)]
    unfold cnR
    rw [if_neg (by omega), if_neg (by omega), if_neg (by omega), if_neg (by omega), psN_o hc hi h7 n]
theorem st_print {J J1 J3 : Nat → Nat → Int} {G G1 G3 : Nat → Nat → Int64} {F F2 : Nat → Nat → Option Nat} {b b1 : Nat → Nat} (I : zInv J G F b) (sv : svR J G b J1 G1 b1) (hF : zFk F2) (hb : bOk F2 b1) (hs : sameM J3 (prM (msJ (zup (prA J1) 50 4 0)))) (hG : ∀ x i, x < 37 → G3 x i = G1 x i) : zInv J3 G3 F2 b1 := by
  obtain ⟨i1, i2, i3, ⟨i4, i5, i6⟩, i7, ⟨i8, i9, i10⟩, i11, i12, i13, i14⟩ := I
  have I : zInv J G F b := ⟨i1, i2, i3, ⟨i4, i5, i6⟩, i7, ⟨i8, i9, i10⟩, i11, i12, i13, i14⟩
  obtain ⟨c, hd, z, m⟩ := i3
  have hf := cOk_f c
  have hw := fun k (hk : k < 5) => cOk_w1 c hk
  have sr := hR_sr m
  have E1 : ∀ x i, 1 ≤ x → x ≤ 8 → J1 x i = J x i := fun x i a d => sv.2.2.2.1 x i (by omega) (Or.inl d)
  have c1 : J1 1 1 = J 1 1 := E1 1 1 (by decide) (by decide)
  have E : ∀ x i, x < 50 → J3 x i = prA J1 x i := fun x i hx => (hs x i (by omega) (by omega) (by omega)).trans ((upr_ne (by omega)).trans ((msJ_o (by omega) (by omega)).trans (zup_ne (by omega))))
  have e1 : ∀ i, J3 1 i = zup J 1 14 (J 1 2) 1 i := fun i => by
    rw [E 1 i (by decide)]
    unfold prA
    rw [E1 1 2 (by decide) (by decide)]
    refine zup_cg ?_
    unfold prW
    rw [if_neg (by omega), E1 1 i (by decide) (by decide)]
  have ew : ∀ k i, k < 5 → J3 (3 + k) i = if k < (J 1 1).toNat ∧ i = 6 then J (3 + k) 1 else J (3 + k) i := fun k i hk => by
    rw [E (3 + k) i (by omega)]
    unfold prA
    rw [zup_ne (by omega)]
    unfold prW
    rw [c1, E1 (3 + k) 1 (by omega) (by omega), E1 (3 + k) i (by omega) (by omega)]
    by_cases q : k < (J 1 1).toNat ∧ i = 6
    · rw [if_pos q, if_pos (by omega)]
    · rw [if_neg q, if_neg (by omega)]
  have eb : ∀ j, msJ (zup (prA J1) 50 4 0) 51 j = J 51 j := fun j => by
    rw [ms51]
    unfold prA
    rw [zup_ne (by omega)]
    unfold prW
    rw [if_neg (by omega)]
    exact sv.2.2.2.1 51 j (by omega) (Or.inr (by decide))
  have er : ∀ i, J3 51 i = if i % 7 = 5 ∧ 19 ≤ i ∧ i < 19 + 7 * (J 1 1).toNat then J 51 (i - 5) else if i = 12 then J 51 1 else J 51 i := fun i => by
    rw [hs 51 i (by decide) (by decide) (by omega)]
    unfold prM
    rw [upr_eq]
    unfold prR
    rw [show msJ (zup (prA J1) 50 4 0) 51 = J 51 from funext eb, sr.1]
    by_cases q : i % 7 = 5 ∧ 19 ≤ i ∧ i < 19 + 7 * (J 1 1).toNat
    · rw [if_pos q, if_pos q]
      exact if_neg (by omega)
    · rw [if_neg q, if_neg q]
  refine zInv_mut (J2 := prA J1) I sv hF hb (fun x i q1 q2 => ?_) (fun x i q1 q2 => hG x i q2) (fun x i q1 q2 q3 q4 => ?_) ?_
  · unfold prA
    rw [zup_ne (by omega)]
    unfold prW
    rw [if_neg (by omega)]
  · rw [hs x i q2 q3 (by omega)]; exact (upr_ne q1).trans (ms_z (by omega))
  · have sE : ∀ t, sbC G3 1 t = sbC G 1 t := fun t => by
      unfold sbC
      rw [hG 1 9 (by decide), sv.2.2.2.2 1 9 (by decide)]
    refine hR_mk (by simp only [e1]; simp [zup]; omega) (by simp only [e1]; simp [zup]; omega) (fun k hk => ?_) (fun t ht => by rw [sE]; exact z t ht) ?_ (fun k hk i hi => ?_) (fun t ht => ?_)
    · have h := hw k hk
      rw [ew k 0 hk, ew k 1 hk, ew k 2 hk, ew k 3 hk, ew k 4 hk, ew k 5 hk, ew k 6 hk]
      by_cases q9 : k < (J 1 1).toNat
      · simp [q9]; omega
      · simp [q9]; omega
    · obtain ⟨a0, a1, a2, a3, a4, a5, a6, a7, a8, a9, a10, a11, a12⟩ := sr
      refine ⟨?_, ?_, ?_, ?_, ?_, ?_, ?_, ?_, ?_, ?_, ?_, ?_, ?_⟩ <;> rw [er, e1, if_neg (by omega)] <;> simp [zup] <;> omega
    · rw [e1, zup_ne (by decide)] at hk
      rw [er, ew k i (by omega)]
      by_cases q9 : i = 6
      · subst q9
        rw [if_pos (by omega), if_pos ⟨hk, rfl⟩]
        have := m.2.1 k hk 1 (by decide)
        rw [show 13 + 7 * k + 6 - 5 = 13 + 7 * k + 1 by omega]
        exact this
      · rw [if_neg (by omega), if_neg (by omega), if_neg (by omega)]
        exact m.2.1 k hk i hi
    · rw [er, if_neg (by omega), if_neg (by omega), m.2.2 t ht, sE]
theorem st_pass {J J1 J3 : Nat → Nat → Int} {G G1 G3 : Nat → Nat → Int64} {F F2 : Nat → Nat → Option Nat} {b b1 : Nat → Nat} {n : Nat} (I : zInv J G F b) (sv : svR J G b J1 G1 b1) (hF : zFk F2) (hb : bOk F2 b1) (hn : J 1 2 + n ≤ 100000) (hs : sameM J3 (upr (msJ (zup (paJ (hsC J 1) (wdC J 1) (sbC G 1) n J1) 50 4 0)) 51 (psN (hsC J 1) (wdC J 1) (sbC G 1) (hsC J 1 3) true (J 51) (pT (wdC J 1)) (hsC J 1 11) n))) (hG : ∀ x i, x < 37 → G3 x i = G1 x i) : zInv J3 G3 F2 b1 := by
  obtain ⟨i1, i2, i3, ⟨i4, i5, i6⟩, i7, ⟨i8, i9, i10⟩, i11, i12, i13, i14⟩ := I
  have I : zInv J G F b := ⟨i1, i2, i3, ⟨i4, i5, i6⟩, i7, ⟨i8, i9, i10⟩, i11, i12, i13, i14⟩
  obtain ⟨c, hd, z, m⟩ := i3
  have hf := cOk_f c
  have hw := fun k (hk : k < 5) => cOk_w1 c hk
  have sr := hR_sr m
  have E1 : ∀ x i, 1 ≤ x → x ≤ 8 → J1 x i = J x i := fun x i a d => sv.2.2.2.1 x i (by omega) (Or.inl d)
  have v1 : vH J1 (hsC J 1) (wdC J 1) := vH_sv sv.2.2.2.1 ⟨fun j hj => rfl, fun k i hk => rfl⟩
  have hc5 : (hsC J 1 0).toNat ≤ 5 := by show (J 1 1).toNat ≤ 5; omega
  have ok : hwOk (hsC J 1) (wdC J 1) := c
  have hd5 := dayN_c5 (sb := sbC G 1) (lag := hsC J 1 3) (sk := true) (wt := hsC J 1 11) ok (psJ_5 v1 (w := 37)) n
  have hdo := dayN_ok (sb := sbC G 1) (lag := hsC J 1 3) (sk := true) (r := (pT (wdC J 1), hsC J 1 11)) ok (pT_ok ok) (by show 0 ≤ J 1 13 ∧ J 1 13 ≤ 100; omega) n
  have hdw := dayN_w (hs := hsC J 1) (wd := wdC J 1) (sb := sbC G 1) (lag := hsC J 1 3) (sk := true) (q := (pT (wdC J 1), hsC J 1 11)) (by show J 1 8 ≤ 5; omega) (by show 0 ≤ J 1 13 ∧ J 1 13 ≤ 5; omega) n
  have hcn := cN_in (hsC J 1) (wdC J 1) (sbC G 1) n
  have hm8 := psN_8 (hs := hsC J 1) (wd := wdC J 1) (sb := sbC G 1) (r := J 51) n
  have hmV := mV_N (mV_H m hc5) hc5 n
  have hp1 := psN_1 (hs := hsC J 1) (wd := wdC J 1) (sb := sbC G 1) (lag := hsC J 1 3) (sk := true) (r := J 51) (p := pT (wdC J 1)) (wt := hsC J 1 11) n
  have E : ∀ x i, x < 50 → J3 x i = paJ (hsC J 1) (wdC J 1) (sbC G 1) n J1 x i := fun x i hx => (hs x i (by omega) (by omega) (by omega)).trans ((upr_ne (by omega)).trans ((msJ_o (by omega) (by omega)).trans (zup_ne (by omega))))
  have er : ∀ i, J3 51 i = psN (hsC J 1) (wdC J 1) (sbC G 1) (hsC J 1 3) true (J 51) (pT (wdC J 1)) (hsC J 1 11) n i := fun i => (hs 51 i (by decide) (by decide) (by omega)).trans upr_eq
  have e2 : J3 1 2 = J 1 2 + n := by rw [E 1 2 (by decide)]; exact zup_eq
  have e10 : J3 1 10 = J 1 10 + cN (hsC J 1) (wdC J 1) (sbC G 1) 1 n := by rw [E 1 10 (by decide)]; exact paE2
  have e11 : J3 1 11 = J 1 11 + cN (hsC J 1) (wdC J 1) (sbC G 1) 2 n := by rw [E 1 11 (by decide)]; simp [paJ, zup, arW, paW, wkJ, upr, cntJ, bsJ]; rfl
  have e12 : J3 1 12 = J 1 12 + cN (hsC J 1) (wdC J 1) (sbC G 1) 3 n := by rw [E 1 12 (by decide)]; simp [paJ, zup, arW, paW, wkJ, upr, cntJ, bsJ]; rfl
  have e13 : J3 1 13 = (dayN (hsC J 1) (wdC J 1) (sbC G 1) (hsC J 1 3) true n (pT (wdC J 1), hsC J 1 11)).2 := by
    rw [E 1 13 (by decide), ← hd5.2]
    simp [paJ, zup, arW, paW, wkJ, upr, cntJ, bsJ]
  have e1 : ∀ i, i ≠ 2 → i ≠ 10 → i ≠ 11 → i ≠ 12 → i ≠ 13 → J3 1 i = J 1 i := fun i a2 a10 a11 a12 a13 => by
    rw [E 1 i (by decide), ← E1 1 i (by decide) (by decide)]
    simp [paJ, zup, arW, paW, wkJ, upr, cntJ, bsJ, a2, a10, a11, a12, a13]
  have ewp : ∀ k, k < 5 → J3 (3 + k) 1 = (dayN (hsC J 1) (wdC J 1) (sbC G 1) (hsC J 1 3) true n (pT (wdC J 1), hsC J 1 11)).1 k := fun k hk => by
    rw [E (3 + k) 1 (by omega), ← hd5.1 k hk]
    unfold paJ
    rw [zup_ne (by omega), zup_ne (by omega)]
    unfold arW
    rw [if_pos (by omega)]
    unfold paW wkJ
    rw [zup_ne (by omega), upr_eq]
    exact congrArg _ (by omega)
  have ew : ∀ k i, k < 5 → i ≠ 1 → J3 (3 + k) i = J (3 + k) i := fun k i hk hi => by
    rw [E (3 + k) i (by omega), ← E1 (3 + k) i (by omega) (by omega)]
    unfold paJ
    rw [zup_ne (by omega), zup_ne (by omega)]
    unfold arW
    rw [if_neg (by omega)]
    unfold paW wkJ cntJ bsJ
    rw [zup_ne (by omega), upr_ne (by omega), zup_ne (by omega), zup_ne (by omega), zup_ne (by omega), zup_ne (by omega), zup_ne (by omega)]
  refine zInv_mut (J2 := paJ (hsC J 1) (wdC J 1) (sbC G 1) n J1) I sv hF hb (fun x i q1 q2 => ?_) (fun x i q1 q2 => hG x i q2) (fun x i q1 q2 q3 q4 => ?_) ?_
  · unfold paJ
    rw [zup_ne (by omega), zup_ne (by omega)]
    unfold arW
    rw [if_neg (by omega)]
    unfold paW wkJ cntJ bsJ
    rw [zup_ne (by omega), upr_ne (by omega), zup_ne (by omega), zup_ne (by omega), zup_ne (by omega), zup_ne (by omega), zup_ne (by omega)]
  · rw [hs x i q2 q3 (by omega)]; exact (upr_ne q1).trans (ms_z (by omega))
  · have sE : ∀ t, sbC G3 1 t = sbC G 1 t := fun t => by
      unfold sbC
      rw [hG 1 9 (by decide), sv.2.2.2.2 1 9 (by decide)]
    refine hR_mk ?_ ?_ (fun k hk => ?_) (fun t ht => by rw [sE]; exact z t ht) ?_ (fun k hk i hi => ?_) (fun t ht => ?_)
    · rw [e1 1 (by decide) (by decide) (by decide) (by decide) (by decide), e1 3 (by decide) (by decide) (by decide) (by decide) (by decide), e1 4 (by decide) (by decide) (by decide) (by decide) (by decide), e1 5 (by decide) (by decide) (by decide) (by decide) (by decide), e1 6 (by decide) (by decide) (by decide) (by decide) (by decide), e1 7 (by decide) (by decide) (by decide) (by decide) (by decide), e1 8 (by decide) (by decide) (by decide) (by decide) (by decide), e1 14 (by decide) (by decide) (by decide) (by decide) (by decide), e2, e10, e11, e12, e13]
      omega
    · rw [e2, e10, e11, e12]
      omega
    · have h := hw k hk
      have hp := hdo.1 k hk
      rw [ewp k hk, ew k 0 hk (by decide), ew k 2 hk (by decide), ew k 3 hk (by decide), ew k 4 hk (by decide), ew k 5 hk (by decide), ew k 6 hk (by decide)]
      have hp2 : (dayN (hsC J 1) (wdC J 1) (sbC G 1) (hsC J 1 3) true n (pT (wdC J 1), hsC J 1 11)).1 k < J (3 + k) 0 := hp.2
      have hp1 := hp.1
      omega
    · obtain ⟨a0, a1, a2, a3, a4, a5, a6, a7, a8, a9, a10, a11, a12⟩ := sr
      obtain ⟨b0, b2, b3, b4, b5, b6, b7, b11⟩ := hmV.1
      have n12 : psN (hsC J 1) (wdC J 1) (sbC G 1) (hsC J 1 3) true (J 51) (pT (wdC J 1)) (hsC J 1 11) n 12 = J 51 12 := psN_o hc5 (by decide) (by omega) n
      rw [e1 1 (by decide) (by decide) (by decide) (by decide) (by decide), e1 3 (by decide) (by decide) (by decide) (by decide) (by decide), e1 4 (by decide) (by decide) (by decide) (by decide) (by decide), e1 5 (by decide) (by decide) (by decide) (by decide) (by decide), e1 6 (by decide) (by decide) (by decide) (by decide) (by decide), e1 7 (by decide) (by decide) (by decide) (by decide) (by decide), e1 8 (by decide) (by decide) (by decide) (by decide) (by decide), e1 14 (by decide) (by decide) (by decide) (by decide) (by decide), e2, e10, e11, e12, e13, er, er, er, er, er, er, er, er, er, er, er, er, er, n12, hp1, hm8.1, hm8.2.1, hm8.2.2]
      exact ⟨b0, by omega, b2, b3, b4, b5, b6, b7, by omega, by omega, by omega, b11, a12⟩
    · rw [e1 1 (by decide) (by decide) (by decide) (by decide) (by decide)] at hk
      rw [er]
      by_cases q9 : i = 1
      · subst q9
        rw [ewp k (by omega)]
        exact (hmV.2.1 k hk).2.1
      · rw [ew k i (by omega) q9, psN_o hc5 (by omega) (by omega) n]
        exact m.2.1 k hk i hi
    · rw [er, psN_hi hc5 (by omega) (by omega) n, m.2.2 t ht, sE]
theorem sd_bit : ∀ k, k < 60 → ∀ t, t < 64 → ((lI 1 <<< ((nI k).toInt64 &&& 63)).toBitVec.getLsbD t) = decide (t = k) := by decide +kernel
theorem sd_get {G : Nat → Nat → Int64} {u f : Int} (u1 : 0 ≤ u) (u2 : u < 60) (hf : f = 0 ∨ f = 1) (t : Nat) : (sdG G u f).toBitVec.getLsbD t = if t = u.toNat then decide (f = 1) else (G 1 9).toBitVec.getLsbD t := by
  obtain ⟨k, rfl⟩ := Int.eq_ofNat_of_zero_le u1
  have hz : zI (k : Int) = nI k := Int32.ofInt_eq_ofNat
  by_cases ht : t < 64
  · have hb := sd_bit k (by omega) t ht
    unfold sdG
    rw [hz, Int.toNat_natCast]
    rcases hf with rfl | rfl
    · rw [if_pos rfl, Int64.toBitVec_and, Int64.toBitVec_xor, BitVec.getLsbD_and, BitVec.getLsbD_xor, hb]
      have hm : (-1 : Int64).toBitVec.getLsbD t = true := by
        have : (-1 : Int64).toBitVec = BitVec.allOnes 64 := by decide
        rw [this, BitVec.getLsbD_allOnes]
        simpa using ht
      rw [hm]
      by_cases q : t = k <;> simp [q]
    · rw [if_neg (by decide), Int64.toBitVec_or, BitVec.getLsbD_or, hb]
      by_cases q : t = k <;> simp [q]
  · rw [BitVec.getLsbD_of_ge _ _ (by omega), if_neg (by omega), BitVec.getLsbD_of_ge _ _ (by omega)]
theorem st_setDay {J J1 J3 : Nat → Nat → Int} {G G1 G3 : Nat → Nat → Int64} {F F2 : Nat → Nat → Option Nat} {b b1 : Nat → Nat} {u f : Int} (I : zInv J G F b) (sv : svR J G b J1 G1 b1) (hF : zFk F2) (hb : bOk F2 b1) (u1 : 0 ≤ u) (u2 : u < 60) (hf : f = 0 ∨ f = 1) (hs : sameM J3 (zup (msJ (zup J1 50 4 0)) 51 (48 + u.toNat) f)) (hG : ∀ x i, 9 ≤ x → x < 37 → G3 x i = G1 x i) (hG9 : G3 1 9 = sdG G u f) : zInv J3 G3 F2 b1 := by
  obtain ⟨i1, i2, i3, ⟨i4, i5, i6⟩, i7, ⟨i8, i9, i10⟩, i11, i12, i13, i14⟩ := I
  have I : zInv J G F b := ⟨i1, i2, i3, ⟨i4, i5, i6⟩, i7, ⟨i8, i9, i10⟩, i11, i12, i13, i14⟩
  obtain ⟨c, hd, z, m⟩ := i3
  have hf0 := cOk_f c
  have hw := fun k (hk : k < 5) => cOk_w1 c hk
  have sr := hR_sr m
  have E1 : ∀ x i, 1 ≤ x → x ≤ 8 → J1 x i = J x i := fun x i a d => sv.2.2.2.1 x i (by omega) (Or.inl d)
  have E : ∀ x i, x < 50 → J3 x i = J1 x i := fun x i hx => (hs x i (by omega) (by omega) (by omega)).trans ((zup_ne (by omega)).trans ((msJ_o (by omega) (by omega)).trans (zup_ne (by omega))))
  have e1 : ∀ i, J3 1 i = J 1 i := fun i => by rw [E 1 i (by decide), E1 1 i (by decide) (by decide)]
  have ew : ∀ k i, k < 5 → J3 (3 + k) i = J (3 + k) i := fun k i hk => by rw [E (3 + k) i (by omega), E1 (3 + k) i (by omega) (by omega)]
  have er : ∀ i, J3 51 i = if i = 48 + u.toNat then f else J 51 i := fun i => by
    rw [hs 51 i (by decide) (by decide) (by omega)]
    by_cases q : i = 48 + u.toNat
    · rw [if_pos q, q, zup_eq]
    · rw [if_neg q, zup_ne (by omega), ms51]
      exact sv.2.2.2.1 51 i (by omega) (Or.inr (by decide))
  refine zInv_mut (J2 := J1) I sv hF hb (fun x i q1 q2 => rfl) (fun x i q1 q2 => hG x i q1 q2) (fun x i q1 q2 q3 q4 => ?_) ?_
  · rw [hs x i q2 q3 (by omega)]; exact (zup_ne (by omega)).trans (ms_z (by omega))
  · have sE : ∀ t, sbC G3 1 t = if t = u.toNat then decide (f = 1) else sbC G 1 t := fun t => by
      unfold sbC
      rw [hG9]
      exact sd_get u1 u2 hf t
    refine hR_mk (by simp only [e1]; exact hf0) (by simp only [e1]; exact hd) (fun k hk => ?_) (fun t ht => by rw [sE, if_neg (by omega)]; exact z t ht) ?_ (fun k hk i hi => ?_) (fun t ht => ?_)
    · have h := hw k hk
      simp only [ew k _ hk]
      exact h
    · simp only [e1]
      rw [er, er, er, er, er, er, er, er, er, er, er, er, er, if_neg (by omega), if_neg (by omega), if_neg (by omega), if_neg (by omega), if_neg (by omega), if_neg (by omega), if_neg (by omega), if_neg (by omega), if_neg (by omega), if_neg (by omega), if_neg (by omega), if_neg (by omega), if_neg (by omega)]
      exact sr
    · rw [e1] at hk
      rw [er, ew k i (by omega), if_neg (by omega)]
      exact m.2.1 k hk i hi
    · rw [er, sE]
      by_cases q : t = u.toNat
      · rw [if_pos (by omega), if_pos q]
        rcases hf with rfl | rfl <;> rfl
      · rw [if_neg (by omega), if_neg q]
        exact m.2.2 t ht
