/-! the class's answers are the Model's -/
theorem zpopN_zsm {x : Int64} : ∀ n : Nat, ((zpopN x n : Nat) : Int) = zsm (fun t => if x.toBitVec.getLsbD t = true then 1 else 0) n
  | 0 => rfl
  | n + 1 => by
    rw [zsm_s, ← zpopN_zsm n]
    show ((zpopN x n + (if x.toBitVec.getLsbD n = true then 1 else 0) : Nat) : Int) = _
    split <;> simp
theorem zpop_60 {x : Int64} (h : ∀ t, 60 ≤ t → x.toBitVec.getLsbD t = false) : zpop x = zsm (fun t => if x.toBitVec.getLsbD t = true then 1 else 0) 60 := by
  rw [← zpopN_zsm]
  unfold zpop
  have e : ∀ n, 60 ≤ n → zpopN x (n + 1) = zpopN x n := fun n hn => by
    show zpopN x n + (if x.toBitVec.getLsbD n = true then 1 else 0) = _
    rw [h n hn]
    rfl
  rw [e 63 (by decide), e 62 (by decide), e 61 (by decide), e 60 (by decide)]
theorem zsm_cg {f g : Nat → Int} : ∀ n, (∀ t, t < n → f t = g t) → zsm f n = zsm g n
  | 0, _ => rfl
  | n + 1, h => by
    rw [zsm_s, zsm_s, h n (by omega), zsm_cg n (fun t ht => h t (by omega))]
theorem in_tv {J : Nat → Nat → Int} {G : Nat → Nat → Int64} (q : hR J G 1 (J 51)) {u : Int} (h1 : 0 ≤ u) (h2 : u ≤ 13) : tnC J G u = tvM J u := by
  obtain ⟨c, hd, z, m⟩ := q
  obtain ⟨a0, a1, a2, a3, a4, a5, a6, a7, a8, a9, a10, a11, a12⟩ := hR_sr m
  have h8 : zpop (G 1 9) = zsm (fun t => J 51 (48 + t)) 60 := (zpop_60 z).trans (zsm_cg 60 fun t ht => (m.2.2 t ht).symm)
  have hu : u = 0 ∨ u = 1 ∨ u = 2 ∨ u = 3 ∨ u = 4 ∨ u = 5 ∨ u = 6 ∨ u = 7 ∨ u = 8 ∨ u = 9 ∨ u = 10 ∨ u = 11 ∨ u = 12 ∨ u = 13 := by omega
  rcases hu with rfl | rfl | rfl | rfl | rfl | rfl | rfl | rfl | rfl | rfl | rfl | rfl | rfl | rfl
  · exact a1.symm
  · exact a0.symm
  · exact a2.symm
  · exact a3.symm
  · exact a4.symm
  · exact a5.symm
  · exact a6.symm
  · exact a7.symm
  · exact h8
  · exact a8.symm
  · exact a9.symm
  · exact a10.symm
  · exact a11.symm
  · exact a12.symm
theorem in_tw {J : Nat → Nat → Int} {G : Nat → Nat → Int64} (q : hR J G 1 (J 51)) {k : Nat} (hk : k < (J 1 1).toNat) {v : Int} (h1 : 0 ≤ v) (h2 : v ≤ 6) : twC J k v = twM J k v := by
  obtain ⟨c, hd, z, m⟩ := q
  obtain ⟨a0, a1, a2, a3, a4, a5, a6, a7, a8, a9, a10, a11, a12⟩ := hR_sr m
  have hw : ∀ i, i < 7 → J 51 (13 + 7 * k + i) = J (3 + k) i := m.2.1 k hk
  unfold twC twM
  by_cases h6 : v = 6
  · rw [if_pos h6, if_pos h6, hw 6 (by decide), hw 0 (by decide), a1, a12, Int.add_sub_assoc]
  · rw [if_neg h6, if_neg h6, hw v.toNat (by omega)]
theorem in_dg1 {J : Nat → Nat → Int} {G : Nat → Nat → Int64} (q : hR J G 1 (J 51)) {h : Int64} : ∀ n, n ≤ 14 → dg1 J G h n = md1 J h n
  | 0, _ => rfl
  | n + 1, hn => by
    rw [dg1_s, md1_s, in_dg1 q n (by omega), in_tv q (by omega) (by omega)]
theorem in_dg2 {J : Nat → Nat → Int} {G : Nat → Nat → Int64} (q : hR J G 1 (J 51)) {h : Int64} {k : Nat} (hk : k < (J 1 1).toNat) : ∀ i, i ≤ 7 → dg2 J (md3 J h (7 * k)) k i = md3 J h (7 * k + i)
  | 0, _ => rfl
  | i + 1, hi => by
    rw [dg2_s, in_dg2 q hk i (by omega), show 7 * k + (i + 1) = 7 * k + i + 1 by omega, md3_s, in_tw q hk (by omega) (by omega), show (7 * k + i) / 7 = k by omega, show ((7 * k + i : Nat) : Int) % 7 = (i : Int) by omega]
theorem in_dg3 {J : Nat → Nat → Int} {G : Nat → Nat → Int64} (q : hR J G 1 (J 51)) {h : Int64} : ∀ n, n ≤ (J 1 1).toNat → dg3 J h n = md3 J h (7 * n)
  | 0, _ => rfl
  | n + 1, hn => by
    rw [dg3_s, in_dg3 q n (by omega), in_dg2 q (by omega) 7 (by decide)]
    rfl
theorem in_dg {J : Nat → Nat → Int} {G : Nat → Nat → Int64} (q : hR J G 1 (J 51)) {N : Nat} (h7 : J 50 6 = J 0 7) (h3 : J 50 3 = J 0 2) : dgR (hsC J 1) (wdC J 1) (sbC G 1) N J G = mdR (hsC J 1) (wdC J 1) (sbC G 1) N J := by
  unfold dgR mdR
  rw [h7, h3, in_dg1 q 14 (by decide), in_dg3 q (hsC J 1 0).toNat (Nat.le_refl _)]
