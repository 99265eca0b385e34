/-! the new house of each change -/
theorem ms_z {J : Nat → Nat → Int} {x i : Nat} (h : ¬ (x = 50 ∧ i = 4)) : msJ (zup J 50 4 0) x i = msJ J x i := by
  by_cases h2 : x = 52
  · subst h2
    exact msJ_52 (zup_ne (by decide)) (fun i => zup_ne (by omega)) (fun i _ => zup_ne (by omega)) i
  · by_cases h3 : x = 50 ∧ i = 3
    · obtain ⟨rfl, rfl⟩ := h3
      exact msJ_503 (zup_ne (by decide))
    · rw [msJ_o h2 h3, msJ_o h2 h3, zup_ne h]
theorem zup_cg {J K : Nat → Nat → Int} {a j x i : Nat} {v : Int} (h : J x i = K x i) : zup J a j v x i = zup K a j v x i := by
  unfold zup
  rw [h]
theorem hR_mk {J : Nat → Nat → Int} {G : Nat → Nat → Int64} {r : Nat → Int} (f : 0 ≤ J 1 1 ∧ J 1 1 ≤ 5 ∧ 0 ≤ J 1 2 ∧ J 1 2 ≤ 100000 ∧ 0 ≤ J 1 3 ∧ (J 1 3 < J 1 1 ∨ J 1 1 = 0 ∧ J 1 3 = 0) ∧ 0 ≤ J 1 4 ∧ J 1 4 < 720 ∧ 0 ≤ J 1 5 ∧ (J 1 5 < J 1 1 ∨ J 1 1 = 0 ∧ J 1 5 = 0) ∧ 0 ≤ J 1 6 ∧ J 1 6 ≤ 1439 ∧ 1 ≤ J 1 7 ∧ J 1 7 ≤ 600 ∧ 0 ≤ J 1 8 ∧ J 1 8 ≤ 5 ∧ 0 ≤ J 1 10 ∧ 0 ≤ J 1 11 ∧ 0 ≤ J 1 12 ∧ J 1 10 + J 1 11 + J 1 12 ≤ 200000 ∧ 0 ≤ J 1 13 ∧ J 1 13 ≤ 5 ∧ 0 ≤ J 1 14 ∧ J 1 14 ≤ J 1 2) (hd : J 1 10 + J 1 11 + J 1 12 ≤ J 1 2)
    (wv : ∀ k, k < 5 → 2 ≤ J (3 + k) 0 ∧ J (3 + k) 0 ≤ 60 ∧ 0 ≤ J (3 + k) 1 ∧ J (3 + k) 1 < J (3 + k) 0 ∧ 0 ≤ J (3 + k) 2 ∧ J (3 + k) 2 < J (3 + k) 0 ∧ -1 ≤ J (3 + k) 3 ∧ J (3 + k) 3 < k ∧ -1 ≤ J (3 + k) 4 ∧ J (3 + k) 4 < 60 ∧ -1 ≤ J (3 + k) 5 ∧ J (3 + k) 5 ≤ 1 ∧ 0 ≤ J (3 + k) 6 ∧ J (3 + k) 6 < J (3 + k) 0) (z : ∀ t, 60 ≤ t → sbC G 1 t = false)
    (sr : r 0 = J 1 1 ∧ r 1 = J 1 2 ∧ r 2 = J 1 3 ∧ r 3 = J 1 4 ∧ r 4 = J 1 5 ∧ r 5 = J 1 6 ∧ r 6 = J 1 7 ∧ r 7 = J 1 8 ∧ r 8 = J 1 10 ∧ r 9 = J 1 11 ∧ r 10 = J 1 12 ∧ r 11 = J 1 13 ∧ r 12 = J 1 14) (wr : ∀ k, k < (J 1 1).toNat → ∀ i, i < 7 → r (13 + 7 * k + i) = J (3 + k) i) (bt : ∀ t, t < 60 → r (48 + t) = if sbC G 1 t = true then 1 else 0) : hR J G 1 r := by
  refine ⟨⟨f, wv⟩, hd, z, ⟨fun j hj => ?_, wr, bt⟩⟩
  obtain ⟨a0, a1, a2, a3, a4, a5, a6, a7, a8, a9, a10, a11, a12⟩ := sr
  have hj2 : j = 0 ∨ j = 1 ∨ j = 2 ∨ j = 3 ∨ j = 4 ∨ j = 5 ∨ j = 6 ∨ j = 7 ∨ j = 8 ∨ j = 9 ∨ j = 10 ∨ j = 11 ∨ j = 12 := by omega
  rcases hj2 with rfl | rfl | rfl | rfl | rfl | rfl | rfl | rfl | rfl | rfl | rfl | rfl | rfl
  · exact a0
  · exact a1
  · exact a2
  · exact a3
  · exact a4
  · exact a5
  · exact a6
  · exact a7
  · exact a8
  · exact a9
  · exact a10
  · exact a11
  · exact a12
theorem hR_sr {J : Nat → Nat → Int} {r : Nat → Int} {wd : Nat → Nat → Int} {sb : Nat → Bool} (m : mH r (hsC J 1) wd sb) : r 0 = J 1 1 ∧ r 1 = J 1 2 ∧ r 2 = J 1 3 ∧ r 3 = J 1 4 ∧ r 4 = J 1 5 ∧ r 5 = J 1 6 ∧ r 6 = J 1 7 ∧ r 7 = J 1 8 ∧ r 8 = J 1 10 ∧ r 9 = J 1 11 ∧ r 10 = J 1 12 ∧ r 11 = J 1 13 ∧ r 12 = J 1 14 :=
  ⟨m.1 0 (by decide), m.1 1 (by decide), m.1 2 (by decide), m.1 3 (by decide), m.1 4 (by decide), m.1 5 (by decide), m.1 6 (by decide), m.1 7 (by decide), m.1 8 (by decide), m.1 9 (by decide), m.1 10 (by decide), m.1 11 (by decide), m.1 12 (by decide)⟩
theorem zup_wc {J : Nat → Nat → Int} {u k a i : Nat} {v : Int} : zup J (3 + u) a v (3 + k) i = if k = u ∧ i = a then v else J (3 + k) i := by
  unfold zup
  by_cases h : k = u ∧ i = a
  · rw [if_pos h, if_pos (by omega)]
  · rw [if_neg h, if_neg (by omega)]
theorem zup_wr {J : Nat → Nat → Int} {u k a i : Nat} {v : Int} (ha : a < 7) (hi : i < 7) : zup J 51 (13 + 7 * u + a) v 51 (13 + 7 * k + i) = if k = u ∧ i = a then v else J 51 (13 + 7 * k + i) := by
  unfold zup
  by_cases h : k = u ∧ i = a
  · rw [if_pos h, if_pos (by omega)]
  · rw [if_neg h, if_neg (by omega)]
theorem st_skip {J J1 J3 : Nat → Nat → Int} {G G1 G3 : Nat → Nat → Int64} {F F2 : Nat → Nat → Option Nat} {b b1 : Nat → Nat} {u : Nat} {a b' c' : Int} (I : zInv J G F b) (sv : svR J G b J1 G1 b1) (hF : zFk F2) (hb : bOk F2 b1) (hu : (u : Int) < J 1 1) (ha : -1 ≤ a ∧ a < u) (hb' : -1 ≤ b' ∧ b' < 60) (hc' : -1 ≤ c' ∧ c' ≤ 1) (hs : sameM J3 (sk3 (msJ (zup (zup (zup (zup J1 (3 + u) 3 a) (3 + u) 4 b') (3 + u) 5 c') 50 4 0)) u a b' c')) (hG : ∀ x i, x < 37 → G3 x i = G1 x i) : zInv J3 G3 F2 b1 := by
  obtain ⟨i1, i2, i3, ⟨i4, i5, i6⟩, i7, ⟨i8, i9, i10⟩, i11, i12, i13, i14⟩ := I
  have I : zInv J G F b := ⟨i1, i2, i3, ⟨i4, i5, i6⟩, i7, ⟨i8, i9, i10⟩, i11, i12, i13, i14⟩
  obtain ⟨c, hd, z, m⟩ := i3
  have hf := cOk_f c
  have hw := fun k (hk : k < 5) => cOk_w1 c hk
  have sr := hR_sr m
  have E1 : ∀ x i, 1 ≤ x → x ≤ 8 → J1 x i = J x i := fun x i a d => sv.2.2.2.1 x i (by omega) (Or.inl d)
  have E : ∀ x i, x < 50 → J3 x i = zup (zup (zup J1 (3 + u) 3 a) (3 + u) 4 b') (3 + u) 5 c' x i := fun x i hx => (hs x i (by omega) (by omega) (by omega)).trans ((sk3_o (by omega)).trans ((msJ_o (by omega) (by omega)).trans (zup_ne (by omega))))
  have e1 : ∀ i, J3 1 i = J 1 i := fun i => by rw [E 1 i (by decide), zup_ne (by omega), zup_ne (by omega), zup_ne (by omega), E1 1 i (by decide) (by decide)]
  have ew : ∀ k i, k < 5 → J3 (3 + k) i = if k = u ∧ i = 5 then c' else if k = u ∧ i = 4 then b' else if k = u ∧ i = 3 then a else J (3 + k) i := fun k i hk => by
    rw [E (3 + k) i (by omega), zup_wc, zup_wc, zup_wc, E1 (3 + k) i (by omega) (by omega)]
  have er : ∀ i, J3 51 i = zup (zup (zup J 51 (13 + 7 * u + 3) a) 51 (13 + 7 * u + 4) b') 51 (13 + 7 * u + 5) c' 51 i := fun i => by
    rw [hs 51 i (by decide) (by decide) (by omega)]
    unfold sk3
    have eb : ∀ j, msJ (zup (zup (zup (zup J1 (3 + u) 3 a) (3 + u) 4 b') (3 + u) 5 c') 50 4 0) 51 j = J 51 j := fun j => by
      rw [ms51, zup_ne (by omega), zup_ne (by omega), zup_ne (by omega)]
      exact sv.2.2.2.1 51 j (by omega) (Or.inr (by decide))
    exact zup_cg (zup_cg (zup_cg (eb i)))
  have hu5 : u < 5 := by omega
  refine zInv_mut (J2 := zup (zup (zup J1 (3 + u) 3 a) (3 + u) 4 b') (3 + u) 5 c') I sv hF hb (fun x i q1 q2 => ?_) (fun x i q1 q2 => hG x i q2) (fun x i q1 q2 q3 q4 => ?_) ?_
  · rw [zup_ne (by omega), zup_ne (by omega), zup_ne (by omega)]
  · rw [hs x i q2 q3 (by omega), sk3_o (Or.inl q1), ms_z (by omega)]
  · have sE : ∀ t, sbC G3 1 t = sbC G 1 t := fun t => by
      unfold sbC
      rw [hG 1 9 (by decide), sv.2.2.2.2 1 9 (by decide)]
    refine hR_mk (by simp only [e1]; exact hf) (by simp only [e1]; exact hd) (fun k hk => ?_) (fun t ht => by rw [sE]; exact z t ht) ?_ (fun k hk i hi => ?_) (fun t ht => ?_)
    · have h := hw k hk
      rw [ew k 0 hk, ew k 1 hk, ew k 2 hk, ew k 3 hk, ew k 4 hk, ew k 5 hk, ew k 6 hk]
      by_cases q : k = u
      · subst q
        simp
        omega
      · simp [q]
        omega
    · simp only [e1, er]
      simp only [zup]
      rw [if_neg (by omega), if_neg (by omega), if_neg (by omega), if_neg (by omega), if_neg (by omega), if_neg (by omega), if_neg (by omega), if_neg (by omega), if_neg (by omega), if_neg (by omega), if_neg (by omega), if_neg (by omega), if_neg (by omega), if_neg (by omega), if_neg (by omega), if_neg (by omega), if_neg (by omega), if_neg (by omega), if_neg (by omega), if_neg (by omega), if_neg (by omega), if_neg (by omega), if_neg (by omega), if_neg (by omega), if_neg (by omega), if_neg (by omega), if_neg (by omega), if_neg (by omega), if_neg (by omega), if_neg (by omega), if_neg (by omega), if_neg (by omega), if_neg (by omega), if_neg (by omega), if_neg (by omega), if_neg (by omega), if_neg (by omega), if_neg (by omega), if_neg (by omega)]
      exact sr
    · rw [e1] at hk
      rw [er, zup_wr (by decide) hi, zup_wr (by decide) hi, zup_wr (by decide) hi, ew k i (by omega), m.2.1 k hk i hi]
      rfl
    · rw [er, zup_ne (by omega), zup_ne (by omega), zup_ne (by omega), m.2.2 t ht, sE]
theorem st_setWheel {J J1 J3 : Nat → Nat → Int} {G G1 G3 : Nat → Nat → Int64} {F F2 : Nat → Nat → Option Nat} {b b1 : Nat → Nat} {u : Nat} {p q : Int} (I : zInv J G F b) (sv : svR J G b J1 G1 b1) (hF : zFk F2) (hb : bOk F2 b1) (hu : (u : Int) < J 1 1) (hp : 0 ≤ p ∧ p < J (3 + u) 0) (hq : 0 ≤ q ∧ q < J (3 + u) 0) (hs : sameM J3 (zup (zup (msJ (zup (zup (zup J1 (3 + u) 1 p) (3 + u) 2 q) 50 4 0)) 51 (13 + 7 * u + 1) p) 51 (13 + 7 * u + 2) q)) (hG : ∀ x i, x < 37 → G3 x i = G1 x i) : zInv J3 G3 F2 b1 := by
  obtain ⟨i1, i2, i3, ⟨i4, i5, i6⟩, i7, ⟨i8, i9, i10⟩, i11, i12, i13, i14⟩ := I
  have I : zInv J G F b := ⟨i1, i2, i3, ⟨i4, i5, i6⟩, i7, ⟨i8, i9, i10⟩, i11, i12, i13, i14⟩
  obtain ⟨c, hd, z, m⟩ := i3
  have hf := cOk_f c
  have hw := fun k (hk : k < 5) => cOk_w1 c hk
  have sr := hR_sr m
  have E1 : ∀ x i, 1 ≤ x → x ≤ 8 → J1 x i = J x i := fun x i a d => sv.2.2.2.1 x i (by omega) (Or.inl d)
  have E : ∀ x i, x < 50 → J3 x i = (zup (zup J1 (3 + u) 1 p) (3 + u) 2 q) x i := fun x i hx => (hs x i (by omega) (by omega) (by omega)).trans ((zup_ne (by omega)).trans ((zup_ne (by omega)).trans ((msJ_o (by omega) (by omega)).trans (zup_ne (by omega)))))
  have e1 : ∀ i, J3 1 i = (zup (zup J (3 + u) 1 p) (3 + u) 2 q) 1 i := fun i => by rw [E 1 i (by decide)]; exact zup_cg (zup_cg (E1 1 i (by decide) (by decide)))
  have ew : ∀ k i, k < 5 → J3 (3 + k) i = (zup (zup J (3 + u) 1 p) (3 + u) 2 q) (3 + k) i := fun k i hk => by rw [E (3 + k) i (by omega)]; exact zup_cg (zup_cg (E1 (3 + k) i (by omega) (by omega)))
  have er : ∀ i, i < 108 → J3 51 i = (zup (zup J 51 (13 + 7 * u + 1) p) 51 (13 + 7 * u + 2) q) 51 i := fun i hi => by
    rw [hs 51 i (by decide) (by decide) (by omega)]
    have eb : ∀ j, msJ (zup (zup (zup J1 (3 + u) 1 p) (3 + u) 2 q) 50 4 0) 51 j = J 51 j := fun j => by
      rw [ms51, zup_ne (by omega), zup_ne (by omega)]
      exact sv.2.2.2.1 51 j (by omega) (Or.inr (by decide))
    exact zup_cg (zup_cg (eb i))
  refine zInv_mut (J2 := (zup (zup J1 (3 + u) 1 p) (3 + u) 2 q)) I sv hF hb (fun x i q1 q2 => ?_) (fun x i q1 q2 => hG x i q2) (fun x i q1 q2 q3 q4 => ?_) ?_
  · rw [zup_ne (by omega), zup_ne (by omega)]
  · rw [hs x i q2 q3 (by omega)]; exact ((zup_ne (by omega)).trans ((zup_ne (by omega)).trans rfl)).trans (ms_z (by omega))
  · have sE : ∀ t, sbC G3 1 t = sbC G 1 t := fun t => by
      unfold sbC
      rw [hG 1 9 (by decide), sv.2.2.2.2 1 9 (by decide)]
    refine hR_mk (by simp only [e1]; simp [zup]; omega) (by simp only [e1]; simp [zup]; omega) (fun k hk => ?_) (fun t ht => by rw [sE]; exact z t ht) ?_ (fun k hk i hi => ?_) (fun t ht => ?_)
    · have h := hw k hk
      rw [ew k 0 hk, ew k 1 hk, ew k 2 hk, ew k 3 hk, ew k 4 hk, ew k 5 hk, ew k 6 hk]
      simp only [zup_wc]
      by_cases q9 : k = u
      · subst q9; simp; omega
      · simp [q9]; omega
    · obtain ⟨a0, a1, a2, a3, a4, a5, a6, a7, a8, a9, a10, a11, a12⟩ := sr
      refine ⟨?_, ?_, ?_, ?_, ?_, ?_, ?_, ?_, ?_, ?_, ?_, ?_, ?_⟩ <;> rw [er _ (by decide), e1] <;> simp [zup] <;> omega
    · rw [e1] at hk
      rw [zup_ne (by omega), zup_ne (by omega)] at hk
      rw [er _ (by omega), zup_wr (by decide) hi, zup_wr (by decide) hi, ew k i (by omega), zup_wc, zup_wc, m.2.1 k hk i hi]
      rfl
    · rw [er _ (by omega)]
      rw [zup_ne (by omega), zup_ne (by omega), m.2.2 t ht, sE]
theorem st_setMoon {J J1 J3 : Nat → Nat → Int} {G G1 G3 : Nat → Nat → Int64} {F F2 : Nat → Nat → Option Nat} {b b1 : Nat → Nat} {u v : Int} (I : zInv J G F b) (sv : svR J G b J1 G1 b1) (hF : zFk F2) (hb : bOk F2 b1) (hu : 0 ≤ u ∧ u < J 1 1) (hv : 0 ≤ v ∧ v < 720) (hs : sameM J3 (zup (zup (msJ (zup (zup (zup J1 1 3 u) 1 4 v) 50 4 0)) 51 2 u) 51 3 v)) (hG : ∀ x i, x < 37 → G3 x i = G1 x i) : zInv J3 G3 F2 b1 := by
  obtain ⟨i1, i2, i3, ⟨i4, i5, i6⟩, i7, ⟨i8, i9, i10⟩, i11, i12, i13, i14⟩ := I
  have I : zInv J G F b := ⟨i1, i2, i3, ⟨i4, i5, i6⟩, i7, ⟨i8, i9, i10⟩, i11, i12, i13, i14⟩
  obtain ⟨c, hd, z, m⟩ := i3
  have hf := cOk_f c
  have hw := fun k (hk : k < 5) => cOk_w1 c hk
  have sr := hR_sr m
  have E1 : ∀ x i, 1 ≤ x → x ≤ 8 → J1 x i = J x i := fun x i a d => sv.2.2.2.1 x i (by omega) (Or.inl d)
  have E : ∀ x i, x < 50 → J3 x i = (zup (zup J1 1 3 u) 1 4 v) x i := fun x i hx => (hs x i (by omega) (by omega) (by omega)).trans ((zup_ne (by omega)).trans ((zup_ne (by omega)).trans ((msJ_o (by omega) (by omega)).trans (zup_ne (by omega)))))
  have e1 : ∀ i, J3 1 i = (zup (zup J 1 3 u) 1 4 v) 1 i := fun i => by rw [E 1 i (by decide)]; exact zup_cg (zup_cg (E1 1 i (by decide) (by decide)))
  have ew : ∀ k i, k < 5 → J3 (3 + k) i = (zup (zup J 1 3 u) 1 4 v) (3 + k) i := fun k i hk => by rw [E (3 + k) i (by omega)]; exact zup_cg (zup_cg (E1 (3 + k) i (by omega) (by omega)))
  have er : ∀ i, i < 108 → J3 51 i = (zup (zup J 51 2 u) 51 3 v) 51 i := fun i hi => by
    rw [hs 51 i (by decide) (by decide) (by omega)]
    have eb : ∀ j, msJ (zup (zup (zup J1 1 3 u) 1 4 v) 50 4 0) 51 j = J 51 j := fun j => by
      rw [ms51, zup_ne (by omega), zup_ne (by omega)]
      exact sv.2.2.2.1 51 j (by omega) (Or.inr (by decide))
    exact zup_cg (zup_cg (eb i))
  refine zInv_mut (J2 := (zup (zup J1 1 3 u) 1 4 v)) I sv hF hb (fun x i q1 q2 => ?_) (fun x i q1 q2 => hG x i q2) (fun x i q1 q2 q3 q4 => ?_) ?_
  · rw [zup_ne (by omega), zup_ne (by omega)]
  · rw [hs x i q2 q3 (by omega)]; exact ((zup_ne (by omega)).trans ((zup_ne (by omega)).trans rfl)).trans (ms_z (by omega))
  · have sE : ∀ t, sbC G3 1 t = sbC G 1 t := fun t => by
      unfold sbC
      rw [hG 1 9 (by decide), sv.2.2.2.2 1 9 (by decide)]
    refine hR_mk (by simp only [e1]; simp [zup]; omega) (by simp only [e1]; simp [zup]; omega) (fun k hk => ?_) (fun t ht => by rw [sE]; exact z t ht) ?_ (fun k hk i hi => ?_) (fun t ht => ?_)
    · have h := hw k hk
      rw [ew k 0 hk, ew k 1 hk, ew k 2 hk, ew k 3 hk, ew k 4 hk, ew k 5 hk, ew k 6 hk]
      simp only [zup]
      simp
      omega
    · obtain ⟨a0, a1, a2, a3, a4, a5, a6, a7, a8, a9, a10, a11, a12⟩ := sr
      refine ⟨?_, ?_, ?_, ?_, ?_, ?_, ?_, ?_, ?_, ?_, ?_, ?_, ?_⟩ <;> rw [er _ (by decide), e1] <;> simp [zup] <;> omega
    · rw [e1] at hk
      rw [zup_ne (by omega), zup_ne (by omega)] at hk
      rw [er _ (by omega), zup_ne (by omega), zup_ne (by omega), ew k i (by omega), zup_ne (by omega), zup_ne (by omega)]
      exact m.2.1 k hk i hi
    · rw [er _ (by omega)]
      rw [zup_ne (by omega), zup_ne (by omega), m.2.2 t ht, sE]
theorem st_setMarket {J J1 J3 : Nat → Nat → Int} {G G1 G3 : Nat → Nat → Int64} {F F2 : Nat → Nat → Option Nat} {b b1 : Nat → Nat} {u v p q : Int} (I : zInv J G F b) (sv : svR J G b J1 G1 b1) (hF : zFk F2) (hb : bOk F2 b1) (hu : 0 ≤ u ∧ u < J 1 1) (hv : 0 ≤ v ∧ v ≤ 1439) (hp : 1 ≤ p ∧ p ≤ 600) (hq : 0 ≤ q ∧ q ≤ 5) (hs : sameM J3 (upr (zup (zup (zup (zup (msJ (zup (zup (zup (zup (zup J1 1 5 u) 1 6 v) 1 7 p) 1 8 q) 50 4 0)) 51 4 u) 51 5 v) 51 6 p) 51 7 q) 51 (emR (zup (zup (zup (zup (msJ (zup (zup (zup (zup (zup J1 1 5 u) 1 6 v) 1 7 p) 1 8 q) 50 4 0)) 51 4 u) 51 5 v) 51 6 p) 51 7 q 51) 60))) (hG : ∀ x i, 9 ≤ x → x < 37 → G3 x i = zup G1 1 9 0 x i) (hG9 : G3 1 9 = 0) : zInv J3 G3 F2 b1 := by
  obtain ⟨i1, i2, i3, ⟨i4, i5, i6⟩, i7, ⟨i8, i9, i10⟩, i11, i12, i13, i14⟩ := I
  have I : zInv J G F b := ⟨i1, i2, i3, ⟨i4, i5, i6⟩, i7, ⟨i8, i9, i10⟩, i11, i12, i13, i14⟩
  obtain ⟨c, hd, z, m⟩ := i3
  have hf := cOk_f c
  have hw := fun k (hk : k < 5) => cOk_w1 c hk
  have sr := hR_sr m
  have E1 : ∀ x i, 1 ≤ x → x ≤ 8 → J1 x i = J x i := fun x i a d => sv.2.2.2.1 x i (by omega) (Or.inl d)
  have E : ∀ x i, x < 50 → J3 x i = (zup (zup (zup (zup J1 1 5 u) 1 6 v) 1 7 p) 1 8 q) x i := fun x i hx => (hs x i (by omega) (by omega) (by omega)).trans ((upr_ne (by omega)).trans ((zup_ne (by omega)).trans ((zup_ne (by omega)).trans ((zup_ne (by omega)).trans ((zup_ne (by omega)).trans ((msJ_o (by omega) (by omega)).trans (zup_ne (by omega))))))))
  have e1 : ∀ i, J3 1 i = (zup (zup (zup (zup J 1 5 u) 1 6 v) 1 7 p) 1 8 q) 1 i := fun i => by rw [E 1 i (by decide)]; exact zup_cg (zup_cg (zup_cg (zup_cg (E1 1 i (by decide) (by decide)))))
  have ew : ∀ k i, k < 5 → J3 (3 + k) i = (zup (zup (zup (zup J 1 5 u) 1 6 v) 1 7 p) 1 8 q) (3 + k) i := fun k i hk => by rw [E (3 + k) i (by omega)]; exact zup_cg (zup_cg (zup_cg (zup_cg (E1 (3 + k) i (by omega) (by omega)))))
  have er : ∀ i, i < 108 → J3 51 i = if 48 ≤ i ∧ i < 108 then 0 else (zup (zup (zup (zup J 51 4 u) 51 5 v) 51 6 p) 51 7 q) 51 i := fun i hi => by
    rw [hs 51 i (by decide) (by decide) (by omega)]
    have eb : ∀ j, msJ (zup (zup (zup (zup (zup J1 1 5 u) 1 6 v) 1 7 p) 1 8 q) 50 4 0) 51 j = J 51 j := fun j => by
      rw [ms51, zup_ne (by omega), zup_ne (by omega), zup_ne (by omega), zup_ne (by omega)]
      exact sv.2.2.2.1 51 j (by omega) (Or.inr (by decide))
    rw [upr_eq]
    unfold emR
    by_cases h48 : 48 ≤ i ∧ i < 48 + 60
    · rw [if_pos h48, if_pos (by omega)]
    · rw [if_neg h48, if_neg (by omega)]
      exact zup_cg (zup_cg (zup_cg (zup_cg (eb i))))
  refine zInv_mut (J2 := (zup (zup (zup (zup J1 1 5 u) 1 6 v) 1 7 p) 1 8 q)) I sv hF hb (fun x i q1 q2 => ?_) (fun x i q1 q2 => (hG x i q1 q2).trans (zup_ne (by omega))) (fun x i q1 q2 q3 q4 => ?_) ?_
  · rw [zup_ne (by omega), zup_ne (by omega), zup_ne (by omega), zup_ne (by omega)]
  · rw [hs x i q2 q3 (by omega)]; exact ((upr_ne (by omega)).trans ((zup_ne (by omega)).trans ((zup_ne (by omega)).trans ((zup_ne (by omega)).trans ((zup_ne (by omega)).trans rfl))))).trans (ms_z (by omega))
  · have sE : ∀ t, sbC G3 1 t = false := fun t => by
      unfold sbC
      rw [hG9]
      exact BitVec.getLsbD_zero
    refine hR_mk (by simp only [e1]; simp [zup]; omega) (by simp only [e1]; simp [zup]; omega) (fun k hk => ?_) (fun t ht => sE t) ?_ (fun k hk i hi => ?_) (fun t ht => ?_)
    · have h := hw k hk
      rw [ew k 0 hk, ew k 1 hk, ew k 2 hk, ew k 3 hk, ew k 4 hk, ew k 5 hk, ew k 6 hk]
      simp only [zup]
      simp
      omega
    · obtain ⟨a0, a1, a2, a3, a4, a5, a6, a7, a8, a9, a10, a11, a12⟩ := sr
      refine ⟨?_, ?_, ?_, ?_, ?_, ?_, ?_, ?_, ?_, ?_, ?_, ?_, ?_⟩ <;> rw [er _ (by decide), e1] <;> simp [zup] <;> omega
    · rw [e1] at hk
      rw [zup_ne (by omega), zup_ne (by omega), zup_ne (by omega), zup_ne (by omega)] at hk
      rw [er _ (by omega), if_neg (by omega), zup_ne (by omega), zup_ne (by omega), zup_ne (by omega), zup_ne (by omega), ew k i (by omega), zup_ne (by omega), zup_ne (by omega), zup_ne (by omega), zup_ne (by omega)]
      exact m.2.1 k hk i hi
    · rw [er _ (by omega)]
      rw [if_pos (by omega), sE]
      rfl
theorem st_addWheel {J J1 J3 : Nat → Nat → Int} {G G1 G3 : Nat → Nat → Int64} {F F2 : Nat → Nat → Option Nat} {b b1 : Nat → Nat} {n : Nat} {u v w2 : Int} (I : zInv J G F b) (sv : svR J G b J1 G1 b1) (hF : zFk F2) (hb : bOk F2 b1) (hn : J 1 1 = n) (hn5 : n < 5) (hu : 2 ≤ u ∧ u ≤ 60) (hv : 0 ≤ v ∧ v < u) (hw2 : 0 ≤ w2 ∧ w2 < u) (hs : sameM J3 (zup (zup (zup (zup (zup (zup (zup (zup (msJ (zup (zup (zup (zup (zup (zup (zup (zup (zup J1 (3 + n) 0 u) (3 + n) 1 v) (3 + n) 2 0) (3 + n) 3 (-1)) (3 + n) 4 (-1)) (3 + n) 5 0) (3 + n) 6 w2) 1 1 ((n : Int) + 1)) 50 4 0)) 51 (13 + 7 * n + 0) u) 51 (13 + 7 * n + 1) v) 51 (13 + 7 * n + 2) 0) 51 (13 + 7 * n + 3) (-1)) 51 (13 + 7 * n + 4) (-1)) 51 (13 + 7 * n + 5) 0) 51 (13 + 7 * n + 6) w2) 51 0 ((n : Int) + 1))) (hG : ∀ x i, x < 37 → G3 x i = G1 x i) : zInv J3 G3 F2 b1 := by
  obtain ⟨i1, i2, i3, ⟨i4, i5, i6⟩, i7, ⟨i8, i9, i10⟩, i11, i12, i13, i14⟩ := I
  have I : zInv J G F b := ⟨i1, i2, i3, ⟨i4, i5, i6⟩, i7, ⟨i8, i9, i10⟩, i11, i12, i13, i14⟩
  obtain ⟨c, hd, z, m⟩ := i3
  have hf := cOk_f c
  have hw := fun k (hk : k < 5) => cOk_w1 c hk
  have sr := hR_sr m
  have E1 : ∀ x i, 1 ≤ x → x ≤ 8 → J1 x i = J x i := fun x i a d => sv.2.2.2.1 x i (by omega) (Or.inl d)
  have E : ∀ x i, x < 50 → J3 x i = (zup (zup (zup (zup (zup (zup (zup (zup J1 (3 + n) 0 u) (3 + n) 1 v) (3 + n) 2 0) (3 + n) 3 (-1)) (3 + n) 4 (-1)) (3 + n) 5 0) (3 + n) 6 w2) 1 1 ((n : Int) + 1)) x i := fun x i hx => (hs x i (by omega) (by omega) (by omega)).trans ((zup_ne (by omega)).trans ((zup_ne (by omega)).trans ((zup_ne (by omega)).trans ((zup_ne (by omega)).trans ((zup_ne (by omega)).trans ((zup_ne (by omega)).trans ((zup_ne (by omega)).trans ((zup_ne (by omega)).trans (((msJ_o (by omega) (by omega)).trans (zup_ne (by omega))))))))))))
  have e1 : ∀ i, J3 1 i = (zup (zup (zup (zup (zup (zup (zup (zup J (3 + n) 0 u) (3 + n) 1 v) (3 + n) 2 0) (3 + n) 3 (-1)) (3 + n) 4 (-1)) (3 + n) 5 0) (3 + n) 6 w2) 1 1 ((n : Int) + 1)) 1 i := fun i => by rw [E 1 i (by decide)]; exact zup_cg (zup_cg (zup_cg (zup_cg (zup_cg (zup_cg (zup_cg (zup_cg (E1 1 i (by decide) (by decide)))))))))
  have ew : ∀ k i, k < 5 → J3 (3 + k) i = (zup (zup (zup (zup (zup (zup (zup (zup J (3 + n) 0 u) (3 + n) 1 v) (3 + n) 2 0) (3 + n) 3 (-1)) (3 + n) 4 (-1)) (3 + n) 5 0) (3 + n) 6 w2) 1 1 ((n : Int) + 1)) (3 + k) i := fun k i hk => by rw [E (3 + k) i (by omega)]; exact zup_cg (zup_cg (zup_cg (zup_cg (zup_cg (zup_cg (zup_cg (zup_cg (E1 (3 + k) i (by omega) (by omega)))))))))
  have er : ∀ i, i < 108 → J3 51 i = (zup (zup (zup (zup (zup (zup (zup (zup J 51 (13 + 7 * n + 0) u) 51 (13 + 7 * n + 1) v) 51 (13 + 7 * n + 2) 0) 51 (13 + 7 * n + 3) (-1)) 51 (13 + 7 * n + 4) (-1)) 51 (13 + 7 * n + 5) 0) 51 (13 + 7 * n + 6) w2) 51 0 ((n : Int) + 1)) 51 i := fun i hi => by
    rw [hs 51 i (by decide) (by decide) (by omega)]
    have eb : ∀ j, msJ (zup (zup (zup (zup (zup (zup (zup (zup (zup J1 (3 + n) 0 u) (3 + n) 1 v) (3 + n) 2 0) (3 + n) 3 (-1)) (3 + n) 4 (-1)) (3 + n) 5 0) (3 + n) 6 w2) 1 1 ((n : Int) + 1)) 50 4 0) 51 j = J 51 j := fun j => by
      rw [ms51, zup_ne (by omega), zup_ne (by omega), zup_ne (by omega), zup_ne (by omega), zup_ne (by omega), zup_ne (by omega), zup_ne (by omega), zup_ne (by omega)]
      exact sv.2.2.2.1 51 j (by omega) (Or.inr (by decide))
    exact zup_cg (zup_cg (zup_cg (zup_cg (zup_cg (zup_cg (zup_cg (zup_cg (eb i))))))))
  refine zInv_mut (J2 := (zup (zup (zup (zup (zup (zup (zup (zup J1 (3 + n) 0 u) (3 + n) 1 v) (3 + n) 2 0) (3 + n) 3 (-1)) (3 + n) 4 (-1)) (3 + n) 5 0) (3 + n) 6 w2) 1 1 ((n : Int) + 1))) I sv hF hb (fun x i q1 q2 => ?_) (fun x i q1 q2 => hG x i q2) (fun x i q1 q2 q3 q4 => ?_) ?_
  · rw [zup_ne (by omega), zup_ne (by omega), zup_ne (by omega), zup_ne (by omega), zup_ne (by omega), zup_ne (by omega), zup_ne (by omega), zup_ne (by omega)]
  · rw [hs x i q2 q3 (by omega)]; exact ((zup_ne (by omega)).trans ((zup_ne (by omega)).trans ((zup_ne (by omega)).trans ((zup_ne (by omega)).trans ((zup_ne (by omega)).trans ((zup_ne (by omega)).trans ((zup_ne (by omega)).trans ((zup_ne (by omega)).trans (rfl))))))))).trans (ms_z (by omega))
  · have sE : ∀ t, sbC G3 1 t = sbC G 1 t := fun t => by
      unfold sbC
      rw [hG 1 9 (by decide), sv.2.2.2.2 1 9 (by decide)]
    refine hR_mk (by simp only [e1]; simp [zup]; omega) (by simp only [e1]; simp [zup]; omega) (fun k hk => ?_) (fun t ht => by rw [sE]; exact z t ht) ?_ (fun k hk i hi => ?_) (fun t ht => ?_)
    · have h := hw k hk
      rw [ew k 0 hk, ew k 1 hk, ew k 2 hk, ew k 3 hk, ew k 4 hk, ew k 5 hk, ew k 6 hk]
      simp only [zup]
      by_cases q9 : k = n
      · subst q9; simp; omega
      · simp [q9]; omega
    · obtain ⟨a0, a1, a2, a3, a4, a5, a6, a7, a8, a9, a10, a11, a12⟩ := sr
      refine ⟨?_, ?_, ?_, ?_, ?_, ?_, ?_, ?_, ?_, ?_, ?_, ?_, ?_⟩ <;> rw [er _ (by decide), e1] <;> simp [zup] <;> omega
    · rw [e1] at hk
      have hkn : k < n + 1 := by
        rw [zup_eq] at hk
        omega
      have hk5 : k < 5 := by omega
      rw [er _ (by omega), zup_ne (by omega), zup_wr (by decide) hi, zup_wr (by decide) hi, zup_wr (by decide) hi, zup_wr (by decide) hi, zup_wr (by decide) hi, zup_wr (by decide) hi, zup_wr (by decide) hi, ew k i hk5, zup_ne (by omega), zup_wc, zup_wc, zup_wc, zup_wc, zup_wc, zup_wc, zup_wc]
      by_cases q9 : k = n
      · have hi7 : i = 0 ∨ i = 1 ∨ i = 2 ∨ i = 3 ∨ i = 4 ∨ i = 5 ∨ i = 6 := by omega
        rcases hi7 with rfl | rfl | rfl | rfl | rfl | rfl | rfl <;> simp [q9]
      · simp [q9]
        exact m.2.1 k (by show k < (J 1 1).toNat; omega) i hi
    · rw [er _ (by omega)]
      rw [zup_ne (by omega), zup_ne (by omega), zup_ne (by omega), zup_ne (by omega), zup_ne (by omega), zup_ne (by omega), zup_ne (by omega), zup_ne (by omega), m.2.2 t ht, sE]
