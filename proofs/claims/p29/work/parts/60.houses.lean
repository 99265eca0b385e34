/-! the new house of each change -/
theorem zup_wc {J : Nat → Nat → Int} {u k a i : Nat} {v : Int} : zup J (3 + u) a v (3 + k) i = if k = u ∧ i = a then v else J (3 + k) i := by
  unfold zup
  by_cases h : k = u ∧ i = a
  · rw [if_pos h, if_pos (by omega)]
  · rw [if_neg h, if_neg (by omega)]
theorem skOk_c {wd wd2 : Nat → Nat → Int} {k : Nat} (h3 : wd2 k 3 = wd k 3) (h4 : wd2 k 4 = wd k 4) (h5 : wd2 k 5 = wd k 5) (h0 : 0 ≤ wd k 3 → wd2 (wd k 3).toNat 0 = wd (wd k 3).toNat 0) (h : skOk wd k) : skOk wd2 k := by
  unfold skOk at h ⊢
  rw [h3, h4, h5]
  rcases h with h | h
  · exact Or.inl h
  · rw [h0 h.1]
    exact Or.inr h
def skH (x : Hou) (u : Nat) (a b c : Int) : Hou := (x.1, fun k i => if k = u ∧ i = 5 then c else if k = u ∧ i = 4 then b else if k = u ∧ i = 3 then a else x.2.1 k i, x.2.2)
def swH (x : Hou) (u : Nat) (p q : Int) : Hou := (x.1, fun k i => if k = u ∧ i = 2 then q else if k = u ∧ i = 1 then p else x.2.1 k i, x.2.2)
def smH (x : Hou) (u v : Int) : Hou := (fun j => if j = 3 then v else if j = 2 then u else x.1 j, x.2.1, x.2.2)
def mkH (x : Hou) (u v p q : Int) : Hou := (fun j => if j = 7 then q else if j = 6 then p else if j = 5 then v else if j = 4 then u else x.1 j, x.2.1, 0)
def sdX (g : Int64) (u f : Int) : Int64 := sdG (fun _ _ => g) u f
def sdH (x : Hou) (u f : Int) : Hou := (x.1, x.2.1, sdX x.2.2 u f)
def adH (x : Hou) (u v w2 : Int) : Hou := (fun j => if j = 0 then x.1 0 + 1 else x.1 j, fun k i => if k = (x.1 0).toNat then (if i = 0 then u else if i = 1 then v else if i = 2 then 0 else if i = 3 then -1 else if i = 4 then -1 else if i = 5 then 0 else if i = 6 then w2 else 0) else x.2.1 k i, x.2.2)
def prH (x : Hou) : Hou := (fun j => if j = 12 then x.1 1 else x.1 j, fun k i => if k < (x.1 0).toNat ∧ i = 6 then x.2.1 k 1 else x.2.1 k i, x.2.2)
def dyN (x : Hou) (n : Nat) : (Nat → Int) × Int := dayN x.1 x.2.1 (sbx x) (x.1 3) true n (pT x.2.1, x.1 11)
def cnN (x : Hou) (j : Int) (n : Nat) : Int := cN x.1 x.2.1 (sbx x) j n
def paH (x : Hou) (n : Nat) : Hou := (fun j => if j = 1 then x.1 1 + n else if j = 8 then x.1 8 + cnN x 1 n else if j = 9 then x.1 9 + cnN x 2 n else if j = 10 then x.1 10 + cnN x 3 n else if j = 11 then (dyN x n).2 else x.1 j, fun k i => if k < 5 ∧ i = 1 then (dyN x n).1 k else x.2.1 k i, x.2.2)
theorem ok_sk {x : Hou} {u : Nat} {a b c : Int} (h : okH x) (hu : (u : Int) < x.1 0) (hn : (a = -1 ∧ b = -1 ∧ c = 0) ∨ (0 ≤ a ∧ a < u ∧ 0 ≤ b ∧ b < x.2.1 a.toNat 0 ∧ (c = 1 ∨ c = -1))) : okH (skH x u a b c) := by
  have hh := okH_h h
  have e0 : ∀ m, (skH x u a b c).2.1 m 0 = x.2.1 m 0 := fun m => by simp [skH]
  have en : ∀ k, k ≠ u → ∀ i, (skH x u a b c).2.1 k i = x.2.1 k i := fun k hk i => by simp [skH, hk]
  have e3 : (skH x u a b c).2.1 u 3 = a := by simp [skH]
  have e4 : (skH x u a b c).2.1 u 4 = b := by simp [skH]
  have e5 : (skH x u a b c).2.1 u 5 = c := by simp [skH]
  have b60 : b < 60 := by
    rcases hn with hn | hn
    · omega
    · have := okH_w h (k := a.toNat) (by omega)
      omega
  refine ⟨⟨h.1.1, fun k hk => ?_⟩, h.2.1, fun t ht => ?_, fun k hk => ?_⟩
  · have hw := okH_w h hk
    by_cases q : k = u
    · subst q
      have e1 : (skH x k a b c).2.1 k 1 = x.2.1 k 1 := by simp [skH]
      have e2 : (skH x k a b c).2.1 k 2 = x.2.1 k 2 := by simp [skH]
      have e6 : (skH x k a b c).2.1 k 6 = x.2.1 k 6 := by simp [skH]
      unfold wOk
      rw [e0, e1, e2, e3, e4, e5, e6]
      omega
    · unfold wOk
      simp only [en k q]
      exact hw
  · show 0 < x.1 0 ∧ (t : Int) < (skH x u a b c).2.1 (x.1 4).toNat 0
    rw [e0]
    exact h.2.2.1 t ht
  · by_cases q : k = u
    · subst q
      unfold skOk
      rw [e3, e4, e5, e0]
      rcases hn with hn | hn
      · exact Or.inl hn
      · exact Or.inr ⟨hn.1, hn.2.2.1, hn.2.2.2.1, hn.2.2.2.2⟩
    · exact skOk_c (en k q 3) (en k q 4) (en k q 5) (fun _ => e0 _) (h.2.2.2 k hk)
theorem ok_sw {x : Hou} {u : Nat} {p q : Int} (h : okH x) (hp : 0 ≤ p ∧ p < x.2.1 u 0) (hq : 0 ≤ q ∧ q < x.2.1 u 0) : okH (swH x u p q) := by
  have e0 : ∀ m, (swH x u p q).2.1 m 0 = x.2.1 m 0 := fun m => by simp [swH]
  have e3 : ∀ m i, 3 ≤ i → (swH x u p q).2.1 m i = x.2.1 m i := fun m i hi => by
    show (if m = u ∧ i = 2 then q else if m = u ∧ i = 1 then p else x.2.1 m i) = _
    rw [if_neg (by omega), if_neg (by omega)]
  have en : ∀ k, k ≠ u → ∀ i, (swH x u p q).2.1 k i = x.2.1 k i := fun k hk i => by simp [swH, hk]
  refine ⟨⟨h.1.1, fun k hk => ?_⟩, h.2.1, fun t ht => ?_, fun k hk => ?_⟩
  · have hw := okH_w h hk
    by_cases z : k = u
    · subst z
      have e1 : (swH x k p q).2.1 k 1 = p := by simp [swH]
      have e2 : (swH x k p q).2.1 k 2 = q := by simp [swH]
      unfold wOk
      rw [e0, e1, e2, e3 k 3 (by decide), e3 k 4 (by decide), e3 k 5 (by decide), e3 k 6 (by decide)]
      omega
    · unfold wOk
      simp only [en k z]
      exact hw
  · show 0 < x.1 0 ∧ (t : Int) < (swH x u p q).2.1 (x.1 4).toNat 0
    rw [e0]
    exact h.2.2.1 t ht
  · exact skOk_c (e3 k 3 (by decide)) (e3 k 4 (by decide)) (e3 k 5 (by decide)) (fun _ => e0 _) (h.2.2.2 k hk)
theorem ok_sm {x : Hou} {u v : Int} (h : okH x) (hu : 0 ≤ u ∧ u < x.1 0) (hv : 0 ≤ v ∧ v < 720) : okH (smH x u v) := by
  have hh := okH_h h
  refine ⟨⟨?_, h.1.2⟩, h.2.1, h.2.2.1, h.2.2.2⟩
  show 0 ≤ x.1 0 ∧ x.1 0 ≤ 5 ∧ 0 ≤ x.1 1 ∧ x.1 1 ≤ 100000 ∧ 0 ≤ u ∧ (u < x.1 0 ∨ x.1 0 = 0 ∧ u = 0) ∧ 0 ≤ v ∧ v < 720 ∧ 0 ≤ x.1 4 ∧ (x.1 4 < x.1 0 ∨ x.1 0 = 0 ∧ x.1 4 = 0) ∧ 0 ≤ x.1 5 ∧ x.1 5 ≤ 1439 ∧ 1 ≤ x.1 6 ∧ x.1 6 ≤ 600 ∧ 0 ≤ x.1 7 ∧ x.1 7 ≤ 5 ∧ 0 ≤ x.1 8 ∧ 0 ≤ x.1 9 ∧ 0 ≤ x.1 10 ∧ (x.1 8) + (x.1 9) + (x.1 10) ≤ 200000 ∧ 0 ≤ x.1 11 ∧ x.1 11 ≤ 5 ∧ 0 ≤ x.1 12 ∧ x.1 12 ≤ x.1 1
  omega
theorem ok_mk {x : Hou} {u v p q : Int} (h : okH x) (hu : 0 ≤ u ∧ u < x.1 0) (hv : 0 ≤ v ∧ v ≤ 1439) (hp : 1 ≤ p ∧ p ≤ 600) (hq : 0 ≤ q ∧ q ≤ 5) : okH (mkH x u v p q) := by
  have hh := okH_h h
  refine ⟨⟨?_, h.1.2⟩, h.2.1, fun t ht => ?_, h.2.2.2⟩
  · show 0 ≤ x.1 0 ∧ x.1 0 ≤ 5 ∧ 0 ≤ x.1 1 ∧ x.1 1 ≤ 100000 ∧ 0 ≤ x.1 2 ∧ (x.1 2 < x.1 0 ∨ x.1 0 = 0 ∧ x.1 2 = 0) ∧ 0 ≤ x.1 3 ∧ x.1 3 < 720 ∧ 0 ≤ u ∧ (u < x.1 0 ∨ x.1 0 = 0 ∧ u = 0) ∧ 0 ≤ v ∧ v ≤ 1439 ∧ 1 ≤ p ∧ p ≤ 600 ∧ 0 ≤ q ∧ q ≤ 5 ∧ 0 ≤ x.1 8 ∧ 0 ≤ x.1 9 ∧ 0 ≤ x.1 10 ∧ (x.1 8) + (x.1 9) + (x.1 10) ≤ 200000 ∧ 0 ≤ x.1 11 ∧ x.1 11 ≤ 5 ∧ 0 ≤ x.1 12 ∧ x.1 12 ≤ x.1 1
    omega
  · have : sbx (mkH x u v p q) t = false := BitVec.getLsbD_zero
    rw [this] at ht
    cases ht
theorem sd_bit : ∀ k, k < 60 → ∀ t, t < 64 → ((lI 1 <<< ((nI k).toInt64 &&& 63)).toBitVec.getLsbD t) = decide (t = k) := by decide +kernel
theorem sd_get {G : Nat → Nat → Int64} {u f : Int} (u1 : 0 ≤ u) (u2 : u < 60) (hf : f = 0 ∨ f = 1) (t : Nat) : (sdG G u f).toBitVec.getLsbD t = if t = u.toNat then decide (f = 1) else (G 1 9).toBitVec.getLsbD t := by
  obtain ⟨k, rfl⟩ := Int.eq_ofNat_of_zero_le u1
  have hz : zI (k : Int) = nI k := Int32.ofInt_eq_ofNat
  by_cases ht : t < 64
  · have hb := sd_bit k (by omega) t ht
    unfold sdG
    rw [hz, Int.toNat_natCast]
    rcases hf with rfl | rfl
    · rw [if_pos rfl, Int64.toBitVec_and, Int64.toBitVec_xor, BitVec.getLsbD_and, BitVec.getLsbD_xor, hb]
      have hm : (-1 : Int64).toBitVec.getLsbD t = true := by
        have : (-1 : Int64).toBitVec = BitVec.allOnes 64 := by decide
        rw [this, BitVec.getLsbD_allOnes]
        simpa using ht
      rw [hm]
      by_cases q : t = k <;> simp [q]
    · rw [if_neg (by decide), Int64.toBitVec_or, BitVec.getLsbD_or, hb]
      by_cases q : t = k <;> simp [q]
  · rw [BitVec.getLsbD_of_ge _ _ (by omega), if_neg (by omega), BitVec.getLsbD_of_ge _ _ (by omega)]
theorem ok_sd {x : Hou} {u f : Int} (h : okH x) (hc : 0 < x.1 0) (u1 : 0 ≤ u) (u2 : u < x.2.1 (x.1 4).toNat 0) (hf : f = 0 ∨ f = 1) : okH (sdH x u f) := by
  have hh := okH_h h
  have hw := okH_w h (k := (x.1 4).toNat) (by omega)
  refine ⟨h.1, h.2.1, fun t ht => ⟨hc, ?_⟩, h.2.2.2⟩
  have e : sbx (sdH x u f) t = if t = u.toNat then decide (f = 1) else sbx x t := sd_get (G := fun _ _ => x.2.2) u1 (by omega) hf t
  rw [e] at ht
  show (t : Int) < x.2.1 (x.1 4).toNat 0
  by_cases q : t = u.toNat
  · omega
  · rw [if_neg q] at ht
    exact (h.2.2.1 t ht).2
theorem ok_ad {x : Hou} {u v w2 : Int} (h : okH x) (hc : x.1 0 < 5) (hu : 2 ≤ u ∧ u ≤ 60) (hv : 0 ≤ v ∧ v < u) (hw2 : 0 ≤ w2 ∧ w2 < u) : okH (adH x u v w2) := by
  have hh := okH_h h
  have en : ∀ k, k ≠ (x.1 0).toNat → ∀ i, (adH x u v w2).2.1 k i = x.2.1 k i := fun k hk i => if_neg hk
  have ep : ∀ k i, k = (x.1 0).toNat → (adH x u v w2).2.1 k i = (if i = 0 then u else if i = 1 then v else if i = 2 then 0 else if i = 3 then -1 else if i = 4 then -1 else if i = 5 then 0 else if i = 6 then w2 else 0) := fun k i hk => if_pos hk
  refine ⟨⟨?_, fun k hk => ?_⟩, h.2.1, fun t ht => ?_, fun k hk => ?_⟩
  · show 0 ≤ x.1 0 + 1 ∧ x.1 0 + 1 ≤ 5 ∧ 0 ≤ x.1 1 ∧ x.1 1 ≤ 100000 ∧ 0 ≤ x.1 2 ∧ (x.1 2 < x.1 0 + 1 ∨ x.1 0 + 1 = 0 ∧ x.1 2 = 0) ∧ 0 ≤ x.1 3 ∧ x.1 3 < 720 ∧ 0 ≤ x.1 4 ∧ (x.1 4 < x.1 0 + 1 ∨ x.1 0 + 1 = 0 ∧ x.1 4 = 0) ∧ 0 ≤ x.1 5 ∧ x.1 5 ≤ 1439 ∧ 1 ≤ x.1 6 ∧ x.1 6 ≤ 600 ∧ 0 ≤ x.1 7 ∧ x.1 7 ≤ 5 ∧ 0 ≤ x.1 8 ∧ 0 ≤ x.1 9 ∧ 0 ≤ x.1 10 ∧ (x.1 8) + (x.1 9) + (x.1 10) ≤ 200000 ∧ 0 ≤ x.1 11 ∧ x.1 11 ≤ 5 ∧ 0 ≤ x.1 12 ∧ x.1 12 ≤ x.1 1
    omega
  · have hw := okH_w h hk
    by_cases z : k = (x.1 0).toNat
    · unfold wOk
      simp only [ep k _ z]
      simp
      omega
    · unfold wOk
      simp only [en k z]
      exact hw
  · have h3 := h.2.2.1 t ht
    show 0 < x.1 0 + 1 ∧ (t : Int) < (adH x u v w2).2.1 (x.1 4).toNat 0
    rw [en _ (by omega)]
    exact ⟨by omega, h3.2⟩
  · have hk2 : (k : Int) < x.1 0 + 1 := hk
    by_cases z : k = (x.1 0).toNat
    · unfold skOk
      simp only [ep k _ z]
      simp
    · have h4 := okH_w h (k := k) (by omega)
      exact skOk_c (en k z 3) (en k z 4) (en k z 5) (fun g => en _ (by omega) 0) (h.2.2.2 k (by omega))
theorem ok_pr {x : Hou} (h : okH x) : okH (prH x) := by
  have hh := okH_h h
  have en : ∀ k i, i ≠ 6 → (prH x).2.1 k i = x.2.1 k i := fun k i hi => by simp [prH, hi]
  refine ⟨⟨?_, fun k hk => ?_⟩, h.2.1, fun t ht => ?_, fun k hk => ?_⟩
  · show 0 ≤ x.1 0 ∧ x.1 0 ≤ 5 ∧ 0 ≤ x.1 1 ∧ x.1 1 ≤ 100000 ∧ 0 ≤ x.1 2 ∧ (x.1 2 < x.1 0 ∨ x.1 0 = 0 ∧ x.1 2 = 0) ∧ 0 ≤ x.1 3 ∧ x.1 3 < 720 ∧ 0 ≤ x.1 4 ∧ (x.1 4 < x.1 0 ∨ x.1 0 = 0 ∧ x.1 4 = 0) ∧ 0 ≤ x.1 5 ∧ x.1 5 ≤ 1439 ∧ 1 ≤ x.1 6 ∧ x.1 6 ≤ 600 ∧ 0 ≤ x.1 7 ∧ x.1 7 ≤ 5 ∧ 0 ≤ x.1 8 ∧ 0 ≤ x.1 9 ∧ 0 ≤ x.1 10 ∧ (x.1 8) + (x.1 9) + (x.1 10) ≤ 200000 ∧ 0 ≤ x.1 11 ∧ x.1 11 ≤ 5 ∧ 0 ≤ x.1 1 ∧ x.1 1 ≤ x.1 1
    omega
  · have hw := okH_w h hk
    have e6 : (prH x).2.1 k 6 = x.2.1 k 1 ∨ (prH x).2.1 k 6 = x.2.1 k 6 := by
      show (if k < (x.1 0).toNat ∧ 6 = 6 then x.2.1 k 1 else x.2.1 k 6) = _ ∨ (if k < (x.1 0).toNat ∧ 6 = 6 then x.2.1 k 1 else x.2.1 k 6) = _
      split
      · exact Or.inl rfl
      · exact Or.inr rfl
    unfold wOk
    rw [en k 0 (by decide), en k 1 (by decide), en k 2 (by decide), en k 3 (by decide), en k 4 (by decide), en k 5 (by decide)]
    omega
  · show 0 < x.1 0 ∧ (t : Int) < (prH x).2.1 (x.1 4).toNat 0
    rw [en _ 0 (by decide)]
    exact h.2.2.1 t ht
  · exact skOk_c (en k 3 (by decide)) (en k 4 (by decide)) (en k 5 (by decide)) (fun _ => en _ 0 (by decide)) (h.2.2.2 k hk)
theorem dayN_w {hs : Nat → Int} {wd : Nat → Nat → Int} {sb : Nat → Bool} {lag : Int} {sk : Bool} {q : (Nat → Int) × Int} (h7 : hs 7 ≤ 5) (h : 0 ≤ q.2 ∧ q.2 ≤ 5) : ∀ n, 0 ≤ (dayN hs wd sb lag sk n q).2 ∧ (dayN hs wd sb lag sk n q).2 ≤ 5
  | 0 => h
  | n + 1 => by
    have ih := dayN_w (hs := hs) (wd := wd) (sb := sb) (lag := lag) (sk := sk) h7 h n
    show 0 ≤ (if mfate hs wd sb (dayN hs wd sb lag sk n q).1 lag (dayN hs wd sb lag sk n q).2 = 2 then (dayN hs wd sb lag sk n q).2 + 1 else 0) ∧ (if mfate hs wd sb (dayN hs wd sb lag sk n q).1 lag (dayN hs wd sb lag sk n q).2 = 2 then (dayN hs wd sb lag sk n q).2 + 1 else 0) ≤ 5
    split
    · rename_i h2
      have := mfate_2 h2
      omega
    · omega
theorem dyN_ok {x : Hou} (h : okH x) (n : Nat) : pOk x.2.1 (dyN x n).1 ∧ 0 ≤ (dyN x n).2 ∧ (dyN x n).2 ≤ 5 := by
  have hh := okH_h h
  have h1 := dayN_ok (sb := sbx x) (lag := x.1 3) (sk := true) (r := (pT x.2.1, x.1 11)) h.1 (pT_ok h.1) (by show 0 ≤ x.1 11 ∧ x.1 11 ≤ 100; omega) n
  have h2 := dayN_w (hs := x.1) (wd := x.2.1) (sb := sbx x) (lag := x.1 3) (sk := true) (q := (pT x.2.1, x.1 11)) (by omega) (by show 0 ≤ x.1 11 ∧ x.1 11 ≤ 5; omega) n
  exact ⟨h1.1, h2⟩
theorem cnN_in (x : Hou) (n : Nat) : 0 ≤ cnN x 1 n ∧ 0 ≤ cnN x 2 n ∧ 0 ≤ cnN x 3 n ∧ cnN x 1 n + cnN x 2 n + cnN x 3 n ≤ n := cN_in x.1 x.2.1 (sbx x) n
theorem ok_pa {x : Hou} {n : Nat} (h : okH x) (hn : x.1 1 + n ≤ 100000) : okH (paH x n) := by
  have hh := okH_h h
  have hd := dyN_ok h n
  have hc := cnN_in x n
  have h2 := h.2.1
  have en : ∀ k i, i ≠ 1 → (paH x n).2.1 k i = x.2.1 k i := fun k i hi => by simp [paH, hi]
  refine ⟨⟨?_, fun k hk => ?_⟩, ?_, fun t ht => ?_, fun k hk => ?_⟩
  · show 0 ≤ x.1 0 ∧ x.1 0 ≤ 5 ∧ 0 ≤ x.1 1 + n ∧ x.1 1 + n ≤ 100000 ∧ 0 ≤ x.1 2 ∧ (x.1 2 < x.1 0 ∨ x.1 0 = 0 ∧ x.1 2 = 0) ∧ 0 ≤ x.1 3 ∧ x.1 3 < 720 ∧ 0 ≤ x.1 4 ∧ (x.1 4 < x.1 0 ∨ x.1 0 = 0 ∧ x.1 4 = 0) ∧ 0 ≤ x.1 5 ∧ x.1 5 ≤ 1439 ∧ 1 ≤ x.1 6 ∧ x.1 6 ≤ 600 ∧ 0 ≤ x.1 7 ∧ x.1 7 ≤ 5 ∧ 0 ≤ x.1 8 + cnN x 1 n ∧ 0 ≤ x.1 9 + cnN x 2 n ∧ 0 ≤ x.1 10 + cnN x 3 n ∧ (x.1 8 + cnN x 1 n) + (x.1 9 + cnN x 2 n) + (x.1 10 + cnN x 3 n) ≤ 200000 ∧ 0 ≤ (dyN x n).2 ∧ (dyN x n).2 ≤ 5 ∧ 0 ≤ x.1 12 ∧ x.1 12 ≤ x.1 1 + n
    omega
  · have hw := okH_w h hk
    have e1 : (paH x n).2.1 k 1 = (dyN x n).1 k := by simp [paH, hk]
    have hp := hd.1 k hk
    unfold wOk
    rw [en k 0 (by decide), e1, en k 2 (by decide), en k 3 (by decide), en k 4 (by decide), en k 5 (by decide), en k 6 (by decide)]
    omega
  · show x.1 8 + cnN x 1 n + (x.1 9 + cnN x 2 n) + (x.1 10 + cnN x 3 n) ≤ x.1 1 + n
    omega
  · show 0 < x.1 0 ∧ (t : Int) < (paH x n).2.1 (x.1 4).toNat 0
    rw [en _ 0 (by decide)]
    exact h.2.2.1 t ht
  · exact skOk_c (en k 3 (by decide)) (en k 4 (by decide)) (en k 5 (by decide)) (fun _ => en _ 0 (by decide)) (h.2.2.2 k hk)
