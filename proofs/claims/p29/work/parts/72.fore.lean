/-! FORECASTS -/
abbrev nxF (x : Hou) (N : Nat) : Int := zfind (nmP x.1 x.2.1 (sbx x)) N 0
theorem nx_in (x : Hou) (N : Nat) : (nxF x N = -1 ∧ ∀ k, k < N → mkF x k ≠ 1) ∨ ∃ m : Nat, nxF x N = (m : Int) ∧ m < N ∧ mkF x m = 1 ∧ ∀ k, k < m → mkF x k ≠ 1 := by
  have hp : ∀ k, nmP x.1 x.2.1 (sbx x) k = true ↔ mkF x k = 1 := fun k => by
    unfold nmP
    rw [decide_eq_true_iff]
  have hn : ∀ k, nmP x.1 x.2.1 (sbx x) k = false → mkF x k ≠ 1 := fun k h g => by
    rw [(hp k).mpr g] at h
    cases h
  rcases zfind_spec (nmP x.1 x.2.1 (sbx x)) N 0 with ⟨h1, h2⟩ | ⟨m, h1, -, h3, h4, h5⟩
  · exact Or.inl ⟨h1, fun k hk => hn k (h2 k (Nat.zero_le _) (by omega))⟩
  · exact Or.inr ⟨m, h1, by omega, (hp m).mp h4, fun k hk => hn k (h5 k (Nat.zero_le _) hk)⟩
/-- days put off or lost with the lag 60 * k -/
abbrev dlF (x : Hou) (n k : Nat) : Int := dhR x.1 x.2.1 (sbx x) (60 * (k : Int)) n
theorem dl_in (x : Hou) (n k : Nat) : 0 ≤ dlF x n k ∧ dlF x n k ≤ n := zcnt_in _ n
theorem bl_spec (x : Hou) {n : Nat} (hn : n ≤ 200) : ∀ k, 1 ≤ k → ∃ m : Nat, m < k ∧ (blF x.1 x.2.1 (sbx x) n k).1 = 60 * (m : Int) ∧ (blF x.1 x.2.1 (sbx x) n k).2 = dlF x n m ∧ (∀ j, j < k → dlF x n m ≤ dlF x n j) ∧ ∀ j, j < m → dlF x n m < dlF x n j
  | 0, h => by omega
  | k + 1, _ => by
    have hd := dl_in x n
    have e : blF x.1 x.2.1 (sbx x) n (k + 1) = if dlF x n k < (blF x.1 x.2.1 (sbx x) n k).2 then (60 * (k : Int), dlF x n k) else blF x.1 x.2.1 (sbx x) n k := rfl
    rw [e]
    by_cases hk : k = 0
    · subst hk
      have e0 : (blF x.1 x.2.1 (sbx x) n 0).2 = 201 := rfl
      rw [e0, if_pos (by have := hd 0; omega)]
      exact ⟨0, by decide, rfl, rfl, fun j hj => by rw [show j = 0 by omega]; exact Int.le_refl _, fun j hj => by omega⟩
    · obtain ⟨m, h1, h2, h3, h4, h5⟩ := bl_spec x hn k (by omega)
      by_cases g : dlF x n k < (blF x.1 x.2.1 (sbx x) n k).2
      · rw [if_pos g]
        rw [h3] at g
        exact ⟨k, by omega, rfl, rfl, fun j hj => by
          by_cases q : j = k
          · rw [q]; exact Int.le_refl _
          · have := h4 j (by omega); show dlF x n k ≤ dlF x n j; omega, fun j hj => by
          have := h4 j hj
          show dlF x n k < dlF x n j
          omega⟩
      · rw [if_neg g]
        rw [h3] at g
        exact ⟨m, by omega, h2, h3, fun j hj => by
          by_cases q : j = k
          · rw [q]; show dlF x n m ≤ dlF x n k; omega
          · exact h4 j (by omega), h5⟩
theorem bl_uni {x : Hou} {n m m2 : Nat} (h1 : m < 12) (h2 : m2 < 12) (a1 : ∀ j, j < 12 → dlF x n m ≤ dlF x n j) (a2 : ∀ j, j < m → dlF x n m < dlF x n j) (b1 : ∀ j, j < 12 → dlF x n m2 ≤ dlF x n j) (b2 : ∀ j, j < m2 → dlF x n m2 < dlF x n j) : m = m2 := by
  rcases Nat.lt_trichotomy m m2 with g | g | g
  · have h3 := b2 m g
    have h4 := a1 m2 h2
    omega
  · exact g
  · have h3 := a2 m2 g
    have h4 := b1 m h1
    omega
/-! another lag -/
theorem mfate_sm {x : Hou} {l : Int} {sb : Nat → Bool} {p : Nat → Int} {lag wt : Int} : mfate (smH x (x.1 2) l).1 x.2.1 sb p lag wt = mfate x.1 x.2.1 sb p lag wt := rfl
theorem dayN_sm {x : Hou} {l lag : Int} {sb : Nat → Bool} {sk : Bool} {r : (Nat → Int) × Int} : ∀ n, dayN (smH x (x.1 2) l).1 x.2.1 sb lag sk n r = dayN x.1 x.2.1 sb lag sk n r
  | 0 => rfl
  | n + 1 => by
    have ih := dayN_sm (x := x) (l := l) (lag := lag) (sb := sb) (sk := sk) (r := r) n
    show dayS (smH x (x.1 2) l).1 x.2.1 sb lag sk (dayN (smH x (x.1 2) l).1 x.2.1 sb lag sk n r) = dayS x.1 x.2.1 sb lag sk (dayN x.1 x.2.1 sb lag sk n r)
    rw [ih]
    rfl
theorem mk_sm {x : Hou} {l : Int} {k : Nat} : mkF (smH x (x.1 2) l) k = fateN x.1 x.2.1 (sbx x) l true k (pT x.2.1, x.1 11) := by
  show mfate (smH x (x.1 2) l).1 x.2.1 (sbx x) (dayN (smH x (x.1 2) l).1 x.2.1 (sbx x) l true k (pT x.2.1, x.1 11)).1 l (dayN (smH x (x.1 2) l).1 x.2.1 (sbx x) l true k (pT x.2.1, x.1 11)).2 = _
  rw [dayN_sm]
  rfl
theorem zcnt_2 {P Q R : Nat → Bool} (h : ∀ k, ((if P k = true then (1 : Int) else 0) + if Q k = true then 1 else 0) = if R k = true then 1 else 0) : ∀ n, zcnt P n + zcnt Q n = zcnt R n
  | 0 => rfl
  | n + 1 => by
    have ih := zcnt_2 h n
    have := h n
    rw [zcs, zcs, zcs]
    omega
theorem cn_sm {x : Hou} {n k : Nat} : cnN (smH x (x.1 2) (60 * (k : Int))) 2 n + cnN (smH x (x.1 2) (60 * (k : Int))) 3 n = dlF x n k := by
  rw [cn_mk, cn_mk]
  refine zcnt_2 (fun j => ?_) n
  rw [mk_sm]
  have hm : 0 ≤ fateN x.1 x.2.1 (sbx x) (60 * (k : Int)) true j (pT x.2.1, x.1 11) ∧ fateN x.1 x.2.1 (sbx x) (60 * (k : Int)) true j (pT x.2.1, x.1 11) ≤ 3 := mfate_in
  simp only [decide_eq_true_iff]
  (repeat' split) <;> omega
/-! an almanac printed today has no errors if there are no skips -/
theorem mvp_ns {wd : Nat → Nat → Int} {c : Nat} (hs : ∀ j, j < c → wd j 3 = -1) {sk : Bool} {p : Nat → Int} {k : Nat} (hk : k < c) : mvp wd sk c p k = (p k + 1) % wd k 0 := by
  have h3 := hs k hk
  rw [mvp_at hk (by omega), if_neg (fun z => by omega)]
theorem dayN_ns {x : Hou} {c : Nat} (hc : c = (x.1 0).toNat) (h : okH x) (hs : ∀ j, j < c → x.2.1 j 3 = -1) {lag wt : Int} {p q : Nat → Int} (hpq : ∀ j, j < c → p j = q j) : ∀ n, (∀ j, j < c → (dayN x.1 x.2.1 (sbx x) lag true n (p, wt)).1 j = (dayN x.1 x.2.1 (sbx x) lag false n (q, wt)).1 j) ∧ (dayN x.1 x.2.1 (sbx x) lag true n (p, wt)).2 = (dayN x.1 x.2.1 (sbx x) lag false n (q, wt)).2 ∧ mfate x.1 x.2.1 (sbx x) (dayN x.1 x.2.1 (sbx x) lag true n (p, wt)).1 lag (dayN x.1 x.2.1 (sbx x) lag true n (p, wt)).2 = mfate x.1 x.2.1 (sbx x) (dayN x.1 x.2.1 (sbx x) lag false n (q, wt)).1 lag (dayN x.1 x.2.1 (sbx x) lag false n (q, wt)).2 := by
  have hh := okH_h h
  have fate : ∀ (a b : Nat → Int) (w : Int), (∀ j, j < c → a j = b j) → mfate x.1 x.2.1 (sbx x) a lag w = mfate x.1 x.2.1 (sbx x) b lag w := fun a b w hab => by
    by_cases h0 : 0 < x.1 0
    · have e2 := hab (x.1 2).toNat (by omega)
      have e4 := hab (x.1 4).toNat (by omega)
      unfold mfate mhigh
      simp only [mdue, e2, e4]
    · unfold mfate
      rw [if_pos (fun z => h0 z.1), if_pos (fun z => h0 z.1)]
  intro n
  induction n with
  | zero => exact ⟨hpq, rfl, fate p q wt hpq⟩
  | succ n ih =>
    have h1 : ∀ j, j < c → (dayN x.1 x.2.1 (sbx x) lag true (n + 1) (p, wt)).1 j = (dayN x.1 x.2.1 (sbx x) lag false (n + 1) (q, wt)).1 j := fun j hj => by
      show mvp x.2.1 true (x.1 0).toNat (dayN x.1 x.2.1 (sbx x) lag true n (p, wt)).1 j = mvp x.2.1 false (x.1 0).toNat (dayN x.1 x.2.1 (sbx x) lag false n (q, wt)).1 j
      rw [← hc, mvp_ns hs hj, mvp_ns hs hj, ih.1 j hj]
    have h2 : (dayN x.1 x.2.1 (sbx x) lag true (n + 1) (p, wt)).2 = (dayN x.1 x.2.1 (sbx x) lag false (n + 1) (q, wt)).2 := by
      show (if mfate x.1 x.2.1 (sbx x) (dayN x.1 x.2.1 (sbx x) lag true n (p, wt)).1 lag (dayN x.1 x.2.1 (sbx x) lag true n (p, wt)).2 = 2 then (dayN x.1 x.2.1 (sbx x) lag true n (p, wt)).2 + 1 else 0) = (if mfate x.1 x.2.1 (sbx x) (dayN x.1 x.2.1 (sbx x) lag false n (q, wt)).1 lag (dayN x.1 x.2.1 (sbx x) lag false n (q, wt)).2 = 2 then (dayN x.1 x.2.1 (sbx x) lag false n (q, wt)).2 + 1 else 0)
      rw [ih.2.2, ih.2.1]
    exact ⟨h1, h2, by rw [h2]; exact fate _ _ _ h1⟩
theorem er_0 {x : Hou} (h : okH x) (hw : x.1 11 = 0) (hs : ∀ j, j < (x.1 0).toNat → x.2.1 j 3 = -1) (n : Nat) : zcnt (erP (prH x).1 (prH x).2.1 (sbx (prH x))) n = 0 := by
  have hh := okH_h h
  have okp := ok_pr h
  have hal : alS (prH x).1 = x.1 1 := by
    show (if x.1 1 < x.1 1 - 60 then x.1 1 - 60 else x.1 1) = x.1 1
    rw [if_neg (by omega)]
  have hsp : ∀ j, j < (x.1 0).toNat → (prH x).2.1 j 3 = -1 := fun j hj => by
    rw [← hs j hj]
    exact if_neg (fun z => by omega)
  have hpq : ∀ j, j < (x.1 0).toNat → pT (prH x).2.1 j = alT (prH x).1 (prH x).2.1 j := fun j hj => by
    have hwj := okH_w okp (k := j) (by omega)
    show (if j < 5 then (prH x).2.1 j 1 else 0) = (if j < 5 then ((prH x).2.1 j 6 + (alS (prH x).1 - x.1 1)) % (prH x).2.1 j 0 else 0)
    have e6 : (prH x).2.1 j 6 = x.2.1 j 1 := if_pos ⟨hj, rfl⟩
    have e1 : (prH x).2.1 j 1 = x.2.1 j 1 := if_neg (fun z => by omega)
    rw [if_pos (by omega), if_pos (by omega), hal, e6, ← e1, Int.sub_self, Int.add_zero, Int.emod_eq_of_lt hwj.2.2.1 hwj.2.2.2.1]
  have hR : alR (prH x).1 (prH x).2.1 (sbx (prH x)) (alT (prH x).1 (prH x).2.1) = (alT (prH x).1 (prH x).2.1, 0) := by
    unfold alR
    rw [hal, show ((prH x).1 1 - x.1 1).toNat = 0 by show (x.1 1 - x.1 1).toNat = 0; omega]
    rfl
  have hz : ∀ k, erP (prH x).1 (prH x).2.1 (sbx (prH x)) k = false := fun k => by
    have h3 := (dayN_ns (x := prH x) rfl okp hsp (lag := (prH x).1 3) (wt := 0) hpq k).2.2
    have hf : fateN (prH x).1 (prH x).2.1 (sbx (prH x)) ((prH x).1 3) true k (pT (prH x).2.1, (prH x).1 11) = fateA (prH x).1 (prH x).2.1 (sbx (prH x)) k := by
      unfold fateA
      rw [hR, show (prH x).1 11 = 0 from hw]
      exact h3
    unfold erP
    rw [hf]
    exact decide_eq_false (fun z => z Iff.rfl)
  rw [zcnt_congr (Q := fun _ => false) n (fun k _ => hz k)]
  induction n with
  | zero => rfl
  | succ n ih =>
    rw [zcs, ih]
    rfl
