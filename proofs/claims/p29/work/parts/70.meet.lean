/-! MEETINGS -/
theorem nmQ_0 {x : Hou} (h : okH x) {u : Int} : nmQ x.1 x.2.1 u 0 = true ↔ meP x u (x.1 0).toNat := by
  have hh := okH_h h
  unfold nmQ meP
  rw [decide_eq_true_iff]
  refine ⟨fun q k hk => (q k hk).imp id fun g => ?_, fun q k hk => (q k hk).imp id fun g => ?_⟩
  · have e : mvN x.2.1 (x.1 0).toNat 0 (pT x.2.1) k = x.2.1 k 1 := if_pos (by omega)
    rw [← e]; exact g
  · have e : mvN x.2.1 (x.1 0).toNat 0 (pT x.2.1) k = x.2.1 k 1 := if_pos (by omega)
    rw [e]; exact g
theorem pos_str {x : Hou} (h : okH x) {k : Nat} (hk : (k : Int) < x.1 0) (h3 : x.2.1 k 3 = -1) : ∀ n : Nat, mvN x.2.1 (x.1 0).toNat n (pT x.2.1) k = (x.2.1 k 1 + n) % x.2.1 k 0
  | 0 => by
    have hh := okH_h h
    have hw := okH_w h (k := k) (by omega)
    have e : mvN x.2.1 (x.1 0).toNat 0 (pT x.2.1) k = x.2.1 k 1 := if_pos (by omega)
    rw [e, Int.natCast_zero, Int.add_zero, Int.emod_eq_of_lt hw.2.2.1 hw.2.2.2.1]
  | n + 1 => by
    have hh := okH_h h
    have ih := pos_str h hk h3 n
    show mvp x.2.1 true (x.1 0).toNat (mvN x.2.1 (x.1 0).toNat n (pT x.2.1)) k = _
    rw [mvp_at (by omega) (by omega), ih, if_neg (fun z => by omega), Int.emod_add_emod, Int.natCast_add, Int.natCast_one, Int.add_assoc]
theorem mark_iff {p n m t : Int} (h0 : 0 ≤ m) (h1 : m < t) : (p + n) % t = m ↔ n % t = (m - p) % t := by
  constructor
  · intro g
    obtain ⟨w, hw⟩ := md_ex (a := p + n) (b := m) (m := t) (by rw [g, Int.emod_eq_of_lt h0 h1])
    exact md_of (t := w) (by omega)
  · intro g
    obtain ⟨w, hw⟩ := md_ex g
    rw [md_of (a := p + n) (b := m) (t := w) (by omega), Int.emod_eq_of_lt h0 h1]
/-- no wheel of the set among the first k has a skip -/
def stP (x : Hou) (u : Int) (k : Nat) : Prop := ∀ j, j < k → u / 2 ^ j % 2 ≠ 0 → x.2.1 j 3 = -1
theorem nm_str {x : Hou} (h : okH x) {u : Int} (hs : stP x u (x.1 0).toNat) (n : Nat) : nmQ x.1 x.2.1 u n = true ↔ cons x.2.1 u (x.1 0).toNat n := by
  have hh := okH_h h
  unfold nmQ cons
  rw [decide_eq_true_iff]
  have key : ∀ k, k < (x.1 0).toNat → u / 2 ^ k % 2 ≠ 0 → (mvN x.2.1 (x.1 0).toNat n (pT x.2.1) k = x.2.1 k 2 ↔ (n : Int) % x.2.1 k 0 = (x.2.1 k 2 - x.2.1 k 1) % x.2.1 k 0) := fun k hk hb => by
    have hw := okH_w h (k := k) (by omega)
    rw [pos_str h (by omega) (hs k hk hb)]
    exact mark_iff hw.2.2.2.2.1 hw.2.2.2.2.2.1
  refine ⟨fun q k hk hb => ?_, fun q k hk => ?_⟩
  · rcases q k hk with g | g
    · exact absurd g hb
    · exact (key k hk hb).mp g
  · by_cases hb : u / 2 ^ k % 2 = 0
    · exact Or.inl hb
    · exact Or.inr ((key k hk hb).mpr (q k hk hb))
/-- the meeting that nextMeeting tells -/
abbrev nmF (x : Hou) (u : Int) (N : Nat) : Int := zfind (nmQ x.1 x.2.1 u) N 0
theorem nm_in {x : Hou} {u : Int} (N : Nat) : (nmF x u N = -1 ∧ ∀ n, n < N → nmQ x.1 x.2.1 u n = false) ∨ ∃ n : Nat, nmF x u N = (n : Int) ∧ n < N ∧ nmQ x.1 x.2.1 u n = true ∧ ∀ k, k < n → nmQ x.1 x.2.1 u k = false := by
  rcases zfind_spec (nmQ x.1 x.2.1 u) N 0 with ⟨h1, h2⟩ | ⟨m, h1, -, h3, h4, h5⟩
  · exact Or.inl ⟨h1, fun n hn => h2 n (Nat.zero_le _) (by omega)⟩
  · exact Or.inr ⟨m, h1, by omega, h4, fun k hk => h5 k (Nat.zero_le _) hk⟩
theorem nm_0 {x : Hou} (h : okH x) {u : Int} {N : Nat} (hN : 0 < N) : (nmF x u N = 0 → meP x u (x.1 0).toNat) ∧ (nmF x u N ≠ 0 → ¬ meP x u (x.1 0).toNat) := by
  rcases nm_in (x := x) (u := u) N with ⟨h1, h2⟩ | ⟨n, h1, h2, h3, h4⟩
  · refine ⟨fun g => by omega, fun _ g => ?_⟩
    have := h2 0 hN
    rw [(nmQ_0 h).mpr g] at this
    cases this
  · refine ⟨fun g => ?_, fun g z => ?_⟩
    · have : n = 0 := by omega
      rw [this] at h3
      exact (nmQ_0 h).mp h3
    · have := h4 0 (by omega)
      rw [(nmQ_0 h).mpr z] at this
      cases this
theorem nm_br {x : Hou} (h : okH x) {u : Int} {N : Nat} (hs : stP x u (x.1 0).toNat) : (nmF x u N = -1 ∧ (brF x.2.1 u (x.1 0).toNat 0 0 1 = -1 ∨ (N : Int) ≤ brF x.2.1 u (x.1 0).toNat 0 0 1)) ∨ (0 ≤ nmF x u N ∧ brF x.2.1 u (x.1 0).toNat 0 0 1 = nmF x u N) := by
  have hm := mu_in h u
  rcases br_all h u with ⟨b1, b2⟩ | ⟨b1, b2, b3⟩
  · rcases nm_in (x := x) (u := u) N with ⟨h1, h2⟩ | ⟨n, h1, h2, h3, h4⟩
    · exact Or.inl ⟨h1, Or.inl b1⟩
    · exact absurd ((nm_str h hs n).mp h3) (b2 n (by omega))
  · generalize hr : brF x.2.1 u (x.1 0).toNat 0 0 1 = r at *
    have hcr : nmQ x.1 x.2.1 u r.toNat = true := (nm_str h hs r.toNat).mpr ((b3 _ (by omega)).mpr (by rw [show ((r.toNat : Nat) : Int) = r by omega]; exact Int.emod_eq_of_lt b1 b2))
    rcases nm_in (x := x) (u := u) N with ⟨h1, h2⟩ | ⟨n, h1, h2, h3, h4⟩
    · refine Or.inl ⟨h1, Or.inr (Decidable.by_contra fun g => ?_)⟩
      have := h2 r.toNat (by omega)
      rw [hcr] at this
      cases this
    · refine Or.inr ⟨by omega, ?_⟩
      have h5 := (b3 n (by omega)).mp ((nm_str h hs n).mp h3)
      have h6 : ¬ r.toNat < n := fun g => by
        have := h4 r.toNat g
        rw [hcr] at this
        cases this
      have h7 : r ≤ n := by
        have h8 := Int.ediv_nonneg (show (0 : Int) ≤ (n : Int) by omega) (show (0 : Int) ≤ muF x.2.1 u (x.1 0).toNat by omega)
        have h9 := Int.mul_nonneg (show (0 : Int) ≤ muF x.2.1 u (x.1 0).toNat by omega) h8
        have h10 := Int.emod_def (n : Int) (muF x.2.1 u (x.1 0).toNat)
        omega
      omega
theorem me_pa {x : Hou} (h : okH x) {u : Int} {n : Nat} (hn : nmQ x.1 x.2.1 u n = true) : meP (paH x n) u (x.1 0).toNat := fun k hk => by
  have hh := okH_h h
  unfold nmQ at hn
  rw [decide_eq_true_iff] at hn
  refine (hn k hk).imp id fun g => ?_
  have e1 : (paH x n).2.1 k 1 = mvN x.2.1 (x.1 0).toNat n (pT x.2.1) k := by
    have : (paH x n).2.1 k 1 = (dyN x n).1 k := if_pos ⟨by omega, rfl⟩
    rw [this]
    unfold dyN
    rw [dayN_1]
  rw [e1, pa_w (by decide)]
  exact g
theorem nm_pa0 {x : Hou} {n : Nat} (h : okH (paH x n)) {u : Int} {N : Nat} (hm : meP (paH x n) u (x.1 0).toNat) (hN : 0 < N) : nmF (paH x n) u N = 0 := by
  have := nm_0 h (u := u) hN
  exact Decidable.by_contra fun g => this.2 g hm
/-! coming back -/
theorem mvN_pa {x : Hou} {n c : Nat} {p : Nat → Int} : ∀ m, mvN (paH x n).2.1 c m p = mvN x.2.1 c m p
  | 0 => rfl
  | m + 1 => by
    show mvp (paH x n).2.1 true c (mvN (paH x n).2.1 c m p) = mvp x.2.1 true c (mvN x.2.1 c m p)
    rw [mvp_pa, mvN_pa m]
theorem cb_in {x : Hou} (N : Nat) : cbR x.1 x.2.1 N = -1 ∨ ∃ b : Nat, cbR x.1 x.2.1 N = (b : Int) ∧ 1 ≤ b ∧ b < 1 + N ∧ cbP x.1 x.2.1 b = true := by
  unfold cbR
  by_cases q : x.1 0 = 0
  · rw [if_pos q]
    exact Or.inl rfl
  · rw [if_neg q]
    rcases zfind_spec (cbP x.1 x.2.1) N 1 with ⟨h1, h2⟩ | ⟨m, h1, h2, h3, h4, h5⟩
    · exact Or.inl h1
    · exact Or.inr ⟨m, h1, h2, h3, h4⟩
theorem cb_w {x : Hou} (h : okH x) {b : Nat} (hb : cbP x.1 x.2.1 b = true) (k : Nat) (hk : k < 5) : (paH x b).2.1 k 1 = x.2.1 k 1 := by
  have hh := okH_h h
  have e1 : (paH x b).2.1 k 1 = mvN x.2.1 (x.1 0).toNat b (pT x.2.1) k := by
    have : (paH x b).2.1 k 1 = (dyN x b).1 k := if_pos ⟨hk, rfl⟩
    rw [this]
    unfold dyN
    rw [dayN_1]
  rw [e1]
  by_cases q : k < (x.1 0).toNat
  · unfold cbP at hb
    rw [decide_eq_true_iff] at hb
    exact hb k q
  · rw [mvN_hi (by omega)]
    exact if_pos hk
theorem cb_pa {x : Hou} (h : okH x) {b N : Nat} (hb : cbP x.1 x.2.1 b = true) : cbR (paH x b).1 (paH x b).2.1 N = cbR x.1 x.2.1 N := by
  have hh := okH_h h
  have hp : pT (paH x b).2.1 = pT x.2.1 := by
    funext i
    show (if i < 5 then (paH x b).2.1 i 1 else 0) = (if i < 5 then x.2.1 i 1 else 0)
    by_cases q : i < 5
    · rw [if_pos q, if_pos q, cb_w h hb i q]
    · rw [if_neg q, if_neg q]
  have hP : cbP (paH x b).1 (paH x b).2.1 = cbP x.1 x.2.1 := by
    funext n
    show decide (∀ k, k < (x.1 0).toNat → mvN (paH x b).2.1 (x.1 0).toNat n (pT (paH x b).2.1) k = (paH x b).2.1 k 1) = decide (∀ k, k < (x.1 0).toNat → mvN x.2.1 (x.1 0).toNat n (pT x.2.1) k = x.2.1 k 1)
    rw [hp, mvN_pa]
    refine decide_eq_decide.mpr ⟨fun g k hk => ?_, fun g k hk => ?_⟩
    · rw [← cb_w h hb k (by omega)]; exact g k hk
    · rw [cb_w h hb k (by omega)]; exact g k hk
  unfold cbR
  rw [hP]
  rfl
