/-! REMAINDERS: what firstWithRemainder and commonMultiple find -/
theorem md_ex {a b m : Int} (h : a % m = b % m) : ∃ t, a = b + m * t := ⟨a / m - b / m, by
  rw [Int.emod_def, Int.emod_def] at h
  rw [Int.mul_sub]
  omega⟩
theorem md_of {a b m t : Int} (h : a = b + m * t) : a % m = b % m := by rw [h, Int.add_mul_emod_self_left]
theorem fw_spec {x y m q : Int} : ∀ (f i : Nat), (fwF x y m q f i = -1 ∧ ∀ j : Nat, i ≤ j → j < i + f → (x + (j : Int) * y) % m ≠ q) ∨ ∃ j : Nat, i ≤ j ∧ j < i + f ∧ fwF x y m q f i = x + (j : Int) * y ∧ (x + (j : Int) * y) % m = q ∧ ∀ j2 : Nat, i ≤ j2 → j2 < j → (x + (j2 : Int) * y) % m ≠ q
  | 0, i => Or.inl ⟨rfl, fun j h1 h2 => by omega⟩
  | f + 1, i => by
    rw [fwF_s]
    by_cases g : (x + (i : Int) * y) % m = q
    · rw [if_pos g]
      exact Or.inr ⟨i, Nat.le_refl _, by omega, rfl, g, fun j2 h1 h2 => by omega⟩
    · rw [if_neg g]
      rcases fw_spec f (i + 1) with ⟨h1, h2⟩ | ⟨j, h1, h2, h3, h4, h5⟩
      · refine Or.inl ⟨h1, fun j a b => ?_⟩
        by_cases e : j = i
        · rw [e]; exact g
        · exact h2 j (by omega) (by omega)
      · refine Or.inr ⟨j, by omega, by omega, h3, h4, fun j2 a b => ?_⟩
        by_cases e : j2 = i
        · rw [e]; exact g
        · exact h5 j2 (by omega) b
theorem cm_spec {x m : Int} : ∀ (f i : Nat), ∃ c : Nat, i ≤ c ∧ c ≤ i + f ∧ cmF x m f i = x * (c : Int) ∧ (c < i + f → x * (c : Int) % m = 0) ∧ ∀ c2 : Nat, i ≤ c2 → c2 < c → x * (c2 : Int) % m ≠ 0
  | 0, i => ⟨i, Nat.le_refl _, Nat.le_refl _, rfl, fun h => by omega, fun c2 h1 h2 => by omega⟩
  | f + 1, i => by
    rw [cmF_s]
    by_cases g : x * (i : Int) % m = 0
    · rw [if_pos g]
      exact ⟨i, Nat.le_refl _, by omega, rfl, fun _ => g, fun c2 h1 h2 => by omega⟩
    · rw [if_neg g]
      obtain ⟨c, h1, h2, h3, h4, h5⟩ := cm_spec (x := x) (m := m) f (i + 1)
      refine ⟨c, by omega, by omega, h3, fun h => h4 (by omega), fun c2 a b => ?_⟩
      by_cases e : c2 = i
      · rw [e]; exact g
      · exact h5 c2 (by omega) b
theorem cm_per {y m : Int} (m1 : 2 ≤ m) : ∃ c : Nat, 1 ≤ c ∧ c ≤ m.toNat ∧ cmF y m (m.toNat - 1) 1 = y * (c : Int) ∧ y * (c : Int) % m = 0 ∧ ∀ c2 : Nat, 1 ≤ c2 → c2 < c → y * (c2 : Int) % m ≠ 0 := by
  obtain ⟨c, h1, h2, h3, h4, h5⟩ := cm_spec (x := y) (m := m) (m.toNat - 1) 1
  refine ⟨c, h1, by omega, h3, ?_, h5⟩
  by_cases g : c < 1 + (m.toNat - 1)
  · exact h4 g
  · rw [show (c : Int) = m by omega]
    exact Int.mul_emod_left y m
theorem rem_step {x y m q : Int} (hy : 1 ≤ y) (x0 : 0 ≤ x) (xy : x < y) (m1 : 2 ≤ m) :
    (fwF x y m q m.toNat 0 = -1 ∧ ∀ d : Int, 0 ≤ d → ¬ (d % y = x ∧ d % m = q)) ∨
    (0 ≤ fwF x y m q m.toNat 0 ∧ fwF x y m q m.toNat 0 < cmF y m (m.toNat - 1) 1 ∧ ∀ d : Int, 0 ≤ d → ((d % y = x ∧ d % m = q) ↔ d % cmF y m (m.toNat - 1) 1 = fwF x y m q m.toNat 0)) := by
  obtain ⟨c, c1, c2, c3, c4, c5⟩ := cm_per (y := y) m1
  rw [c3]
  have hw : y * (c : Int) = m * (y * (c : Int) / m) := by
    have := Int.emod_def (y * (c : Int)) m
    omega
  have hsh : ∀ i t : Nat, (x + ((i + c * t : Nat) : Int) * y) % m = (x + (i : Int) * y) % m := fun i t => by
    refine md_of (t := y * (c : Int) / m * (t : Int)) ?_
    have e : (c : Int) * (t : Int) * y = m * (y * (c : Int) / m * (t : Int)) := by
      rw [← Int.mul_assoc, ← hw, Int.mul_comm ((c : Int) * (t : Int)) y, ← Int.mul_assoc]
    rw [Int.natCast_add, Int.natCast_mul, Int.add_mul, e]
    omega
  have hup : ∀ d : Int, 0 ≤ d → d % y = x → ∃ i : Nat, d = x + (i : Int) * y := fun d h0 hd => by
    refine ⟨(d / y).toNat, ?_⟩
    have h1 := Int.ediv_nonneg h0 (Int.le_of_lt (show 0 < y by omega))
    rw [show ((d / y).toNat : Int) = d / y by omega, Int.mul_comm]
    have := Int.emod_def d y
    omega
  have hdn : ∀ i : Nat, (x + (i : Int) * y) % y = x := fun i => by
    rw [Int.add_mul_emod_self_right, Int.emod_eq_of_lt x0 xy]
  have hmod : ∀ i : Nat, (x + ((i % c : Nat) : Int) * y) % m = (x + (i : Int) * y) % m := fun i => by
    have := hsh (i % c) (i / c)
    rw [Nat.mod_add_div] at this
    exact this.symm
  rcases fw_spec (x := x) (y := y) (m := m) (q := q) m.toNat 0 with ⟨h1, h2⟩ | ⟨j, -, h2, h3, h4, h5⟩
  · refine Or.inl ⟨h1, fun d h0 hd => ?_⟩
    obtain ⟨i, hi⟩ := hup d h0 hd.1
    have hl := Nat.mod_lt i (show c > 0 by omega)
    exact h2 (i % c) (Nat.zero_le _) (by omega) (by rw [hmod, ← hi]; exact hd.2)
  · have hjc : j < c := Decidable.by_contra fun g => by
      have := hsh (j - c) 1
      rw [show j - c + c * 1 = j by omega, h4] at this
      exact h5 (j - c) (Nat.zero_le _) (by omega) this.symm
    have hjy : 0 ≤ (j : Int) * y := Int.mul_nonneg (by omega) (by omega)
    have hlt : x + (j : Int) * y < y * (c : Int) := by
      have h6 : ((j : Int) + 1) * y ≤ (c : Int) * y := Int.mul_le_mul_of_nonneg_right (by omega) (by omega)
      rw [Int.add_mul, Int.one_mul, Int.mul_comm (c : Int) y] at h6
      omega
    rw [h3]
    refine Or.inr ⟨by omega, hlt, fun d h0 => ⟨fun hd => ?_, fun hd => ?_⟩⟩
    · obtain ⟨i, hi⟩ := hup d h0 hd.1
      have hl := Nat.mod_lt i (show c > 0 by omega)
      have hq : (x + ((i % c : Nat) : Int) * y) % m = q := by rw [hmod, ← hi]; exact hd.2
      have hge : j ≤ i % c := Decidable.by_contra fun g => h5 (i % c) (Nat.zero_le _) (by omega) hq
      have heq : i % c = j := Decidable.by_contra fun g => by
        obtain ⟨t, ht⟩ := md_ex (hq.trans h4.symm)
        refine c5 (i % c - j) (by omega) (by omega) ?_
        have e : y * ((i % c - j : Nat) : Int) = 0 + m * t := by
          rw [Int.ofNat_sub hge, Int.mul_sub, Int.mul_comm y, Int.mul_comm y]
          omega
        rw [md_of e]
        exact Int.zero_emod m
      have e : d = (x + (j : Int) * y) + y * (c : Int) * ((i / c : Nat) : Int) := by
        have h7 := Nat.mod_add_div i c
        rw [heq] at h7
        rw [hi, ← h7, Int.natCast_add, Int.natCast_mul, Int.add_mul]
        have e2 : (c : Int) * ((i / c : Nat) : Int) * y = y * (c : Int) * ((i / c : Nat) : Int) := by
          rw [Int.mul_comm _ y, ← Int.mul_assoc]
        rw [h7, e2]
        omega
      rw [md_of e]
      exact Int.emod_eq_of_lt (by omega) hlt
    · have hyc : 0 < y * (c : Int) := by omega
      have h1 := Int.ediv_nonneg h0 (Int.le_of_lt hyc)
      have e : d = x + ((j + c * (d / (y * (c : Int))).toNat : Nat) : Int) * y := by
        have h8 := Int.emod_def d (y * (c : Int))
        rw [Int.natCast_add, Int.natCast_mul, show ((d / (y * (c : Int))).toNat : Int) = d / (y * (c : Int)) by omega, Int.add_mul]
        have e2 : (c : Int) * (d / (y * (c : Int))) * y = y * (c : Int) * (d / (y * (c : Int))) := by
          rw [Int.mul_comm _ y, ← Int.mul_assoc]
        rw [e2]
        omega
      refine ⟨?_, ?_⟩
      · rw [e]; exact hdn _
      · rw [e, hsh]; exact h4
/-- the wheels of the set among the first k would meet on the day d -/
def cons (wd : Nat → Nat → Int) (u : Int) (k : Nat) (d : Int) : Prop := ∀ j, j < k → u / 2 ^ j % 2 ≠ 0 → d % wd j 0 = (wd j 2 - wd j 1) % wd j 0
theorem br_spec {wd : Nat → Nat → Int} {u : Int} (hw : ∀ k, k < 5 → wOk (wd k) k) : ∀ (f k : Nat) (x : Int), k + f ≤ 5 → 0 ≤ x → x < muF wd u k → (∀ d : Int, 0 ≤ d → (cons wd u k d ↔ d % muF wd u k = x)) →
    (brF wd u f k x (muF wd u k) = -1 ∧ ∀ d : Int, 0 ≤ d → ¬ cons wd u (k + f) d) ∨ (0 ≤ brF wd u f k x (muF wd u k) ∧ brF wd u f k x (muF wd u k) < muF wd u (k + f) ∧ ∀ d : Int, 0 ≤ d → (cons wd u (k + f) d ↔ d % muF wd u (k + f) = brF wd u f k x (muF wd u k)))
  | 0, k, x, hk, h0, h1, h2 => Or.inr ⟨h0, h1, h2⟩
  | f + 1, k, x, hk, h0, h1, h2 => by
    have hwk := hw k (by omega)
    unfold wOk at hwk
    have hm := muF_in (u := u) hw k (by omega)
    rw [brF_s, show k + (f + 1) = k + 1 + f by omega]
    by_cases hb : u / 2 ^ k % 2 = 0
    · rw [if_pos hb]
      have em : muF wd u (k + 1) = muF wd u k := by rw [muF_s, if_pos hb]
      rw [← em]
      refine br_spec hw f (k + 1) x (by omega) h0 (by rw [em]; exact h1) fun d hd => ?_
      rw [em, ← h2 d hd]
      exact ⟨fun z j hj => z j (by omega), fun z j hj hb2 => (show j < k ∨ j = k by omega).elim (fun g => z j g hb2) (fun g => absurd (g ▸ hb) hb2)⟩
    · rw [if_neg hb]
      have em : muF wd u (k + 1) = cmF (muF wd u k) (wd k 0) ((wd k 0).toNat - 1) 1 := by rw [muF_s, if_neg hb]
      rw [← em]
      have cs : ∀ d : Int, 0 ≤ d → (cons wd u (k + 1) d ↔ (d % muF wd u k = x ∧ d % wd k 0 = (wd k 2 - wd k 1) % wd k 0)) := fun d hd => by
        rw [← h2 d hd]
        exact ⟨fun z => ⟨fun j hj => z j (by omega), z k (by omega) hb⟩, fun z j hj hb2 => (show j < k ∨ j = k by omega).elim (fun g => z.1 j g hb2) (fun g => by rw [g]; exact z.2)⟩
      rcases rem_step (q := (wd k 2 - wd k 1) % wd k 0) (by omega) h0 h1 (show 2 ≤ wd k 0 by omega) with ⟨r1, r2⟩ | ⟨r1, r2, r3⟩
      · rw [if_pos (by omega)]
        refine Or.inl ⟨rfl, fun d hd z => ?_⟩
        exact r2 d hd ((cs d hd).mp fun j hj => z j (by omega))
      · rw [if_neg (by omega)]
        rw [← em] at r2 r3
        exact br_spec hw f (k + 1) _ (by omega) r1 r2 fun d hd => (cs d hd).trans (r3 d hd)
/-- remainders tell the first day on which a set would meet -/
theorem br_all {x : Hou} (h : okH x) (u : Int) : (brF x.2.1 u (x.1 0).toNat 0 0 1 = -1 ∧ ∀ d : Int, 0 ≤ d → ¬ cons x.2.1 u (x.1 0).toNat d) ∨ (0 ≤ brF x.2.1 u (x.1 0).toNat 0 0 1 ∧ brF x.2.1 u (x.1 0).toNat 0 0 1 < muF x.2.1 u (x.1 0).toNat ∧ ∀ d : Int, 0 ≤ d → (cons x.2.1 u (x.1 0).toNat d ↔ d % muF x.2.1 u (x.1 0).toNat = brF x.2.1 u (x.1 0).toNat 0 0 1)) := by
  have hh := okH_h h
  have := br_spec (u := u) h.1.2 (x.1 0).toNat 0 0 (by omega) (Int.le_refl _) (by show (0 : Int) < 1; decide) (fun d _ => ⟨fun _ => by show d % 1 = 0; omega, fun _ j hj => by omega⟩)
  rw [Nat.zero_add] at this
  exact this
theorem mu_in {x : Hou} (h : okH x) (u : Int) : 1 ≤ muF x.2.1 u (x.1 0).toNat ∧ muF x.2.1 u (x.1 0).toNat ≤ 777600000 := by
  have hh := okH_h h
  have h1 := muF_in (u := u) h.1.2 (x.1 0).toNat (by omega)
  have h2 := z60_in (k := (x.1 0).toNat) (by omega)
  omega
/-! the first of days -/
theorem zfind_spec (P : Nat → Bool) : ∀ (f d : Nat), (zfind P f d = -1 ∧ ∀ k, d ≤ k → k < d + f → P k = false) ∨ ∃ m : Nat, zfind P f d = (m : Int) ∧ d ≤ m ∧ m < d + f ∧ P m = true ∧ ∀ k, d ≤ k → k < m → P k = false
  | 0, d => Or.inl ⟨rfl, fun k h1 h2 => by omega⟩
  | f + 1, d => by
    rw [zfs]
    by_cases g : P d = true
    · rw [if_pos g]
      exact Or.inr ⟨d, rfl, Nat.le_refl _, by omega, g, fun k h1 h2 => by omega⟩
    · rw [if_neg g]
      rcases zfind_spec P f (d + 1) with ⟨h1, h2⟩ | ⟨m, h1, h2, h3, h4, h5⟩
      · refine Or.inl ⟨h1, fun k a b => ?_⟩
        by_cases e : k = d
        · rw [e]; exact Bool.eq_false_iff.mpr g
        · exact h2 k (by omega) (by omega)
      · refine Or.inr ⟨m, h1, by omega, by omega, h4, fun k a b => ?_⟩
        by_cases e : k = d
        · rw [e]; exact Bool.eq_false_iff.mpr g
        · exact h5 k (by omega) b
