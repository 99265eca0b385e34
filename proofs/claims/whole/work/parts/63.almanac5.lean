/-! the almanac read from sixty days ahead of today is the almanac -/
def eqc (c : Nat) (p q : Nat → Int) : Prop := ∀ i, i < c → p i = q i
theorem mvp_f {wd : Nat → Nat → Int} {p : Nat → Int} : ∀ (n k : Nat), mvp wd false n p k = if k < n then (p k + 1) % wd k 0 else p k
  | 0, k => by rw [if_neg (by omega)]; rfl
  | n + 1, k => by
    show (if k = n then (mvp wd false n p n + mvS wd false (mvp wd false n p) n) % wd n 0 else mvp wd false n p k) = _
    by_cases h : k = n
    · subst h
      rw [if_pos rfl, if_pos (by omega), mvp_f k k, if_neg (by omega), mvS, if_neg (by rintro ⟨z, _⟩; cases z)]
    · rw [if_neg h, mvp_f n k]
      by_cases h2 : k < n
      · rw [if_pos h2, if_pos (by omega)]
      · rw [if_neg h2, if_neg (by omega)]
theorem dayN_p {hs : Nat → Int} {wd : Nat → Nat → Int} {sb : Nat → Bool} {lag : Int} {r : (Nat → Int) × Int} {k : Nat} (hk : k < (hs 0).toNat) (h0 : 0 ≤ r.1 k ∧ r.1 k < wd k 0) : ∀ n : Nat, (dayN hs wd sb lag false n r).1 k = (r.1 k + n) % wd k 0
  | 0 => by
    show r.1 k = _
    rw [Int.emod_eq_of_lt (by omega) (by omega)]
    omega
  | n + 1 => by
    show mvp wd false (hs 0).toNat (dayN hs wd sb lag false n r).1 k = _
    rw [mvp_f, if_pos hk, dayN_p hk h0 n, Int.emod_add_emod]
    exact congrArg (· % wd k 0) (by omega)
theorem dayN_add {hs : Nat → Int} {wd : Nat → Nat → Int} {sb : Nat → Bool} {lag : Int} {sk : Bool} {r : (Nat → Int) × Int} (a : Nat) : ∀ b : Nat, dayN hs wd sb lag sk (a + b) r = dayN hs wd sb lag sk b (dayN hs wd sb lag sk a r)
  | 0 => rfl
  | b + 1 => by
    show dayS hs wd sb lag sk (dayN hs wd sb lag sk (a + b) r) = dayS hs wd sb lag sk (dayN hs wd sb lag sk b (dayN hs wd sb lag sk a r))
    rw [dayN_add a b]
theorem mfate_cc {hs : Nat → Int} {wd : Nat → Nat → Int} {sb : Nat → Bool} {p q : Nat → Int} {lag wt : Int} (ok : hwOk hs wd) (c0 : 0 < hs 0) (h : eqc (hs 0).toNat p q) : mfate hs wd sb p lag wt = mfate hs wd sb q lag wt := by
  have hok := ok.1
  unfold hOk at hok
  unfold mfate mdue mhigh
  rw [h (hs 2).toNat (by omega), h (hs 4).toNat (by omega)]
theorem dayN_cc {hs : Nat → Int} {wd : Nat → Nat → Int} {sb : Nat → Bool} {lag : Int} {p q : Nat → Int} {wt : Int} (ok : hwOk hs wd) (c0 : 0 < hs 0) (h : eqc (hs 0).toNat p q) : ∀ n, eqc (hs 0).toNat (dayN hs wd sb lag false n (p, wt)).1 (dayN hs wd sb lag false n (q, wt)).1 ∧ (dayN hs wd sb lag false n (p, wt)).2 = (dayN hs wd sb lag false n (q, wt)).2
  | 0 => ⟨h, rfl⟩
  | n + 1 => by
    have ih := dayN_cc (sb := sb) (lag := lag) (wt := wt) ok c0 h n
    refine ⟨fun i hi => ?_, ?_⟩
    · show mvp wd false (hs 0).toNat (dayN hs wd sb lag false n (p, wt)).1 i = mvp wd false (hs 0).toNat (dayN hs wd sb lag false n (q, wt)).1 i
      rw [mvp_f, mvp_f, if_pos hi, if_pos hi, ih.1 i hi]
    · show (if mfate hs wd sb (dayN hs wd sb lag false n (p, wt)).1 lag (dayN hs wd sb lag false n (p, wt)).2 = 2 then (dayN hs wd sb lag false n (p, wt)).2 + 1 else 0) = (if mfate hs wd sb (dayN hs wd sb lag false n (q, wt)).1 lag (dayN hs wd sb lag false n (q, wt)).2 = 2 then (dayN hs wd sb lag false n (q, wt)).2 + 1 else 0)
      rw [mfate_cc ok c0 ih.1, ih.2]
theorem fateN_cc {hs : Nat → Int} {wd : Nat → Nat → Int} {sb : Nat → Bool} {lag : Int} {p q : Nat → Int} {wt : Int} (ok : hwOk hs wd) (c0 : 0 < hs 0) (h : eqc (hs 0).toNat p q) (n : Nat) : fateN hs wd sb lag false n (p, wt) = fateN hs wd sb lag false n (q, wt) := by
  have d := dayN_cc (sb := sb) (lag := lag) (wt := wt) ok c0 h n
  unfold fateN
  rw [mfate_cc ok c0 d.1, d.2]
theorem mf_free {hs : Nat → Int} {wd : Nat → Nat → Int} {sb : Nat → Bool} {p : Nat → Int} {lag wt : Int} (h : mfate hs wd sb p lag wt = 1) : mfree hs (mhigh hs wd p lag) := by
  unfold mfate at h
  by_cases h1 : ¬ mdue hs sb p wt
  · rw [if_pos h1] at h
    exact absurd h (by decide)
  · rw [if_neg h1] at h
    by_cases h2 : mfree hs (mhigh hs wd p lag)
    · exact h2
    · rw [if_neg h2] at h
      split at h <;> exact absurd h (by decide)
theorem mf_not2 {hs : Nat → Int} {wd : Nat → Nat → Int} {sb : Nat → Bool} {p : Nat → Int} {lag wt : Int} (h : mfree hs (mhigh hs wd p lag)) : mfate hs wd sb p lag wt ≠ 2 := by
  unfold mfate
  by_cases h1 : ¬ mdue hs sb p wt
  · rw [if_pos h1]
    decide
  · rw [if_neg h1, if_pos h]
    decide
theorem al_eq {hs : Nat → Int} {wd : Nat → Nat → Int} {sb : Nat → Bool} {lag : Int} {p q : Nat → Int} {w1 w2 : Int} (ok : hwOk hs wd) (c0 : 0 < hs 0) (h : eqc (hs 0).toNat p q) (hp : ∀ k, k < (hs 0).toNat → 0 ≤ p k ∧ p k < wd k 0) {n : Nat} (hn : 60 ≤ n) : fateN hs wd sb lag false n (p, w1) = 1 ↔ fateN hs wd sb lag false n (q, w2) = 1 := by
  have hok := ok.1
  unfold hOk at hok
  have hm : (hs 2).toNat < (hs 0).toNat := by omega
  have hwm := hwOk_w ok (k := (hs 2).toNat) (by omega)
  have hq : ∀ k, k < (hs 0).toNat → 0 ≤ q k ∧ q k < wd k 0 := fun k hk => by rw [← h k hk]; exact hp k hk
  have hpos : ∀ (j : Nat) (w : Int) (x : Nat → Int), (∀ k, k < (hs 0).toNat → 0 ≤ x k ∧ x k < wd k 0) → (dayN hs wd sb lag false j (x, w)).1 (hs 2).toNat = (x (hs 2).toNat + j) % wd (hs 2).toNat 0 := fun j w x hx => dayN_p (r := (x, w)) hm (hx _ hm) j
  have hh : ∀ (j : Nat) (w : Int) (x : Nat → Int), (∀ k, k < (hs 0).toNat → 0 ≤ x k ∧ x k < wd k 0) → mhigh hs wd (dayN hs wd sb lag false j (x, w)).1 lag = ((x (hs 2).toNat + j) % wd (hs 2).toNat 0 * 1440 / wd (hs 2).toNat 0 + lag) % 720 := fun j w x hx => by
    unfold mhigh
    rw [hpos j w x hx]
  by_cases hf : ∃ n0 : Nat, n0 < 60 ∧ mfree hs (((p (hs 2).toNat + (n0 : Int)) % wd (hs 2).toNat 0 * 1440 / wd (hs 2).toNat 0 + lag) % 720)
  · obtain ⟨n0, hn0, hfr⟩ := hf
    have z : ∀ (w : Int) (x : Nat → Int), eqc (hs 0).toNat p x → (dayN hs wd sb lag false (n0 + 1) (x, w)).2 = 0 := fun w x hx => by
      have hxo : ∀ k, k < (hs 0).toNat → 0 ≤ x k ∧ x k < wd k 0 := fun k hk => by rw [← hx k hk]; exact hp k hk
      show (if mfate hs wd sb (dayN hs wd sb lag false n0 (x, w)).1 lag (dayN hs wd sb lag false n0 (x, w)).2 = 2 then (dayN hs wd sb lag false n0 (x, w)).2 + 1 else 0) = 0
      rw [if_neg (mf_not2 (by rw [hh n0 w x hxo, ← hx _ hm]; exact hfr))]
    have e : ∀ (w : Int) (x : Nat → Int), eqc (hs 0).toNat p x → fateN hs wd sb lag false n (x, w) = fateN hs wd sb lag false (n - (n0 + 1)) ((dayN hs wd sb lag false (n0 + 1) (x, w)).1, 0) := fun w x hx => by
      unfold fateN
      rw [show n = (n0 + 1) + (n - (n0 + 1)) by omega, dayN_add, show dayN hs wd sb lag false (n0 + 1) (x, w) = ((dayN hs wd sb lag false (n0 + 1) (x, w)).1, 0) from Prod.ext rfl (z w x hx), show (n0 + 1) + (n - (n0 + 1)) - (n0 + 1) = n - (n0 + 1) by omega]
    rw [e w1 p (fun _ _ => rfl), e w2 q h]
    have hpe : eqc (hs 0).toNat (dayN hs wd sb lag false (n0 + 1) (p, w1)).1 (dayN hs wd sb lag false (n0 + 1) (q, w2)).1 := fun i hi => by
      rw [dayN_p (r := (p, w1)) hi (hp i hi), dayN_p (r := (q, w2)) hi (hq i hi)]
      show (p i + _) % _ = (q i + _) % _
      rw [h i hi]
    rw [fateN_cc ok c0 hpe]
  · have hno : ∀ (w : Int) (x : Nat → Int), eqc (hs 0).toNat p x → fateN hs wd sb lag false n (x, w) ≠ 1 := fun w x hx hf1 => by
      have hxo : ∀ k, k < (hs 0).toNat → 0 ≤ x k ∧ x k < wd k 0 := fun k hk => by rw [← hx k hk]; exact hp k hk
      have h2 := mf_free hf1
      rw [hh n w x hxo, ← hx _ hm] at h2
      refine hf ⟨n % (wd (hs 2).toNat 0).toNat, ?_, ?_⟩
      · have := Nat.mod_lt n (show 0 < (wd (hs 2).toNat 0).toNat by omega)
        omega
      · have e : (p (hs 2).toNat + ((n % (wd (hs 2).toNat 0).toNat : Nat) : Int)) % wd (hs 2).toNat 0 = (p (hs 2).toNat + (n : Int)) % wd (hs 2).toNat 0 := by
          rw [Int.natCast_emod, show (((wd (hs 2).toNat 0).toNat : Nat) : Int) = wd (hs 2).toNat 0 by omega, Int.add_emod_emod]
        rw [e]
        exact h2
    exact ⟨fun z => absurd z (hno w1 p (fun _ _ => rfl)), fun z => absurd z (hno w2 q h)⟩
theorem fate_0 {hs : Nat → Int} {wd : Nat → Nat → Int} {sb : Nat → Bool} {p : Nat → Int} {lag wt : Int} (h : ¬ 0 < hs 0) : mfate hs wd sb p lag wt = 0 := mf_0 (fun z => h z.1)
theorem er_fate {hs : Nat → Int} {wd : Nat → Nat → Int} {sb : Nat → Bool} (ok : hwOk hs wd) (hpd : hs 12 ≤ hs 1) (k : Nat) : fateN hs wd sb (hs 3) false ((hs 1 - hs 12).toNat + k) (q6 wd, 0) = 1 ↔ fateA hs wd sb k = 1 := by
  have hok := ok.1
  unfold hOk at hok
  by_cases c0 : 0 < hs 0
  · unfold fateA alR
    have e2 : fateN hs wd sb (hs 3) false k (dayN hs wd sb (hs 3) false (hs 1 - alS hs).toNat (alT hs wd, 0)) = fateN hs wd sb (hs 3) false ((hs 1 - alS hs).toNat + k) (alT hs wd, 0) := by
      unfold fateN
      rw [dayN_add]
    rw [e2]
    by_cases hS : hs 12 < hs 1 - 60
    · have hal : alS hs = hs 1 - 60 := if_pos hS
      have h60 : (hs 1 - alS hs).toNat = 60 := by rw [hal]; omega
      have e1 : fateN hs wd sb (hs 3) false ((hs 1 - hs 12).toNat + k) (q6 wd, 0) = fateN hs wd sb (hs 3) false (60 + k) (dayN hs wd sb (hs 3) false ((hs 1 - hs 12).toNat - 60) (q6 wd, 0)) := by
        unfold fateN
        rw [show (hs 1 - hs 12).toNat + k = ((hs 1 - hs 12).toNat - 60) + (60 + k) by omega, dayN_add]
      rw [e1, h60]
      have hq6 : ∀ i, i < (hs 0).toNat → 0 ≤ q6 wd i ∧ q6 wd i < wd i 0 := fun i hi => by
        have := hwOk_w ok (k := i) (by omega)
        show 0 ≤ wd i 6 ∧ wd i 6 < wd i 0
        omega
      have hpe : ∀ i, i < (hs 0).toNat → (dayN hs wd sb (hs 3) false ((hs 1 - hs 12).toNat - 60) (q6 wd, 0)).1 i = alT hs wd i := fun i hi => by
        rw [dayN_p (r := (q6 wd, 0)) hi (hq6 i hi)]
        show (wd i 6 + _) % wd i 0 = _
        unfold alT
        rw [if_pos (by omega), hal]
        exact congrArg (· % wd i 0) (by omega)
      have hb : ∀ i, i < (hs 0).toNat → 0 ≤ (dayN hs wd sb (hs 3) false ((hs 1 - hs 12).toNat - 60) (q6 wd, 0)).1 i ∧ (dayN hs wd sb (hs 3) false ((hs 1 - hs 12).toNat - 60) (q6 wd, 0)).1 i < wd i 0 := fun i hi => by
        have hw := hwOk_w ok (k := i) (by omega)
        rw [dayN_p (r := (q6 wd, 0)) hi (hq6 i hi)]
        exact ⟨Int.emod_nonneg _ (by omega), Int.emod_lt_of_pos _ (by omega)⟩
      exact al_eq (w1 := (dayN hs wd sb (hs 3) false ((hs 1 - hs 12).toNat - 60) (q6 wd, 0)).2) (w2 := 0) ok c0 hpe hb (n := 60 + k) (by omega)
    · have hal : alS hs = hs 12 := if_neg hS
      rw [hal]
      have hpe : eqc (hs 0).toNat (q6 wd) (alT hs wd) := fun i hi => by
        have hw := hwOk_w ok (k := i) (by omega)
        unfold alT
        rw [if_pos (by omega), hal, Int.sub_self, Int.add_zero, Int.emod_eq_of_lt (by omega) (by omega)]
        rfl
      rw [fateN_cc ok c0 hpe]
  · have e1 : ∀ n r, fateN hs wd sb (hs 3) false n r = 0 := fun n r => fate_0 c0
    unfold fateA
    rw [e1, e1]
theorem in_er {hs : Nat → Int} {wd : Nat → Nat → Int} {sb : Nat → Bool} (ok : hwOk hs wd) (hpd : hs 12 ≤ hs 1) (n : Nat) : zcnt (erP hs wd sb) n = zcnt (erM hs wd sb) n := zcnt_congr n fun k _ => by
  unfold erP erM
  have := er_fate (sb := sb) ok hpd k
  rw [decide_eq_decide, this]
