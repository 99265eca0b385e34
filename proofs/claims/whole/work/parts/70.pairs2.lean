/-! the pairs of append and undo; the text -/
theorem zInv_text {J J3 : Nat → Nat → Int} {G G3 : Nat → Nat → Int64} {F : Nat → Nat → Option Nat} {b : Nat → Nat} (I : zInv J G F b) (hJ : ∀ x i, ¬ (37 ≤ x ∧ x ≤ 42) → x ≠ 53 → x ≠ 55 → ¬ (x = 50 ∧ (i = 4 ∨ i = 6 ∨ 8 ≤ i)) → ¬ (x = 0 ∧ i = 7) → x ≠ 49 → x ≠ 54 → J3 x i = J x i) (h7 : 0 ≤ J3 0 7 ∧ J3 0 7 ≤ 90 ∧ J3 50 6 = J3 0 7) (h49 : ∀ i, 0 ≤ J3 49 i ∧ J3 49 i ≤ 127) (h54 : ∀ i, 0 ≤ J3 54 i ∧ J3 54 i ≤ 127) (he : ∀ i, i < (J3 0 7).toNat → J3 54 i = J3 49 i) (hG : ∀ x i, x < 37 → G3 x i = G x i) : zInv J3 G3 F b := by
  obtain ⟨i1, i2, i3, ⟨i4, i5, i6⟩, i7, ⟨i8, i9, i10⟩, i11, i12, i13, i14⟩ := I
  have e2 : J3 0 2 = J 0 2 := hJ 0 2 (by decide) (by decide) (by decide) (by decide) (by decide) (by decide) (by decide)
  have e3 : J3 50 3 = J 50 3 := hJ 50 3 (by decide) (by decide) (by decide) (by decide) (by decide) (by decide) (by decide)
  have eh : ∀ h, 1 ≤ h → h ≤ 30 → eqH J3 G3 h J G h := fun h h1 hh => eqH_c (fun x i a c => hJ x i (by omega) (by omega) (by omega) (by omega) (by omega) (by omega) (by omega)) (hG h 9 (by omega))
  refine ⟨i1, i2, hR_congr (eh 1 (by decide) (by decide)) (fun i hi => hJ 51 i (by decide) (by decide) (by decide) (by omega) (by omega) (by decide) (by decide)) i3, ⟨by omega, by omega, by omega⟩, fun i hi => ?_, h7, h49, h54, he, rwOk_eq i14 fun x i hx hx2 => hJ x i (by omega) (by omega) (by omega) (by omega) (by omega) (by omega) (by omega)⟩
  have hs := (i2.1 i (by omega)).2
  exact hR_congr (eh (b i) (by rcases hs with h | h | h | h <;> omega) (by rcases hs with h | h | h | h <;> omega)) (fun j hj => hJ 52 _ (by decide) (by decide) (by decide) (by omega) (by omega) (by decide) (by decide)) (i7 i (by omega))
theorem pe_append {lo : Nat} {J : Nat → Nat → Int} {G : Nat → Nat → Int64} {F : Nat → Nat → Option Nat} {b : Nat → Nat} (I : zInv J G F b) {u : Int} (hu : zr u) : zPair lo yL_append cL_append 4 [(0, 9, 12, 13), (0, 9, 15, 15)] yX5_append cX5_append 2 [.int (zI u)] J G F := by
  have hI := I
  obtain ⟨i1, i2, i3, ⟨i4, i5, i6⟩, i7, ⟨i8, i9, i10⟩, i11, i12, i13, i14⟩ := hI
  have eN : (if u < 0 ∨ 127 < u then 1 else if 90 ≤ J 50 6 then 2 else 0) = ((if u < 0 ∨ 127 < u then 1 else if 90 ≤ J 0 7 then 2 else 0) : Int) := by rw [i10]
  refine ⟨if u < 0 ∨ 127 < u then 1 else if 90 ≤ J 0 7 then 2 else 0, _, zr_2, k_L_append lo 10 (by decide) J G F (k_X4_append lo 9 (by decide) J G F i1 hu i8 i9), ?_⟩
  rintro v I2 G2 F2 ⟨rfl, h⟩
  refine ⟨rfl, ?_⟩
  rcases h with ⟨hr, rfl, rfl, rfl⟩ | ⟨hr, a, J2, G3, rfl, rfl, rfl, rfl, rfl, rfl⟩
  · refine ⟨_, k_X5_append lo 10 (by decide) J _ _ i1 (by omega) (by omega) hu, ?_⟩
    rintro v3 I3 G3 F3 ⟨rfl, rfl, aM, J3, rfl, rfl, h4, hA, hs⟩
    refine ⟨aM, J3, b, rfl, rfl, h4.trans eN, fun z => absurd z hr, ?_⟩
    rw [eN, if_neg hr] at hs
    exact iv_s I (fun x i _ q2 q3 q4 => hs x i q2 q3 (by omega)) (fun _ _ _ => rfl)
  · obtain ⟨r1, r2⟩ := ex_3 hr
    have e6 : zup (zup J 49 (J 0 7).toNat u) 0 7 (J 0 7 + 1) 50 6 = J 0 7 := (zup_ne (by decide)).trans ((zup_ne (by omega)).trans i10)
    refine ⟨_, k_X5_append lo 10 (by decide) (zup (zup J 49 (J 0 7).toNat u) 0 7 (J 0 7 + 1)) _ _ i1 (by omega) (by omega) hu, ?_⟩
    rintro v3 I3 G4 F3 ⟨rfl, rfl, aM, J3, rfl, rfl, h4, hA, hs⟩
    have e0 : (if u < 0 ∨ 127 < u then (1 : Int) else if 90 ≤ zup (zup J 49 (J 0 7).toNat u) 0 7 (J 0 7 + 1) 50 6 then 2 else 0) = 0 := by rw [e6]; exact hr
    rw [e0, if_pos rfl, e6] at hs
    refine ⟨aM, J3, b, rfl, rfl, (h4.trans e0).trans hr.symm, fun _ => by rw [zup_eq, hA e0, e6], ?_⟩
    have e07 : J3 0 7 = J 0 7 + 1 := (hs 0 7 (by decide) (by decide) (by decide)).trans ((zup_ne (by decide)).trans ((zup_ne (by omega)).trans ((zup_ne (by decide)).trans zup_eq)))
    have e506 : J3 50 6 = J 0 7 + 1 := (hs 50 6 (by decide) (by decide) (by decide)).trans zup_eq
    have e49 : ∀ i, J3 49 i = if i = (J 0 7).toNat then u else J 49 i := fun i => by
      rw [hs 49 i (by decide) (by decide) (by omega), zup_ne (by omega), zup_ne (by omega), zup_ne (by omega), zup_ne (by omega)]
      by_cases q : i = (J 0 7).toNat
      · rw [if_pos q, q, zup_eq]
      · rw [if_neg q, zup_ne (by omega)]
    have e54 : ∀ i, J3 54 i = if i = (J 0 7).toNat then u else J 54 i := fun i => by
      rw [hs 54 i (by decide) (by decide) (by omega), zup_ne (by omega)]
      by_cases q : i = (J 0 7).toNat
      · rw [if_pos q, q, zup_eq]
      · rw [if_neg q, zup_ne (by omega), zup_ne (by omega), zup_ne (by omega), zup_ne (by omega)]
    refine zInv_text I (fun x i q1 q2 q3 q4 q5 q6 q7 => ?_) (by omega) (fun i => ?_) (fun i => ?_) (fun i hi => ?_) (fun x i hx => zup_ne (by omega))
    · rw [hs x i q2 q3 (by omega), zup_ne (by omega), zup_ne (by omega), zup_ne (by omega), zup_ne (by omega), zup_ne (by omega)]
    · rw [e49]
      split
      · omega
      · exact i11 i
    · rw [e54]
      split
      · omega
      · exact i12 i
    · rw [e49, e54]
      by_cases q : i = (J 0 7).toNat
      · rw [if_pos q, if_pos q]
      · rw [if_neg q, if_neg q]
        exact i13 i (by omega)
theorem pe_undo {lo : Nat} {J : Nat → Nat → Int} {G : Nat → Nat → Int64} {F : Nat → Nat → Option Nat} {b : Nat → Nat} (I : zInv J G F b) : zPair lo yL_undo cL_undo 3 [(0, 8, 11, 15)] yX5_undo cX5_undo 2 [] J G F := by
  have hI := I
  obtain ⟨i1, i2, i3, ⟨i4, i5, i6⟩, i7, ⟨i8, i9, i10⟩, i11, i12, i13, i14⟩ := hI
  have eN : (if J 50 3 = 0 then 1 else 0) = ((if J 0 2 < 1 then 1 else 0) : Int) := by
    rw [i6]
    by_cases q : J 0 2 < 1
    · rw [if_pos q, if_pos (by omega)]
    · rw [if_neg q, if_neg (by omega)]
  refine ⟨if J 0 2 < 1 then 1 else 0, _, zr_1, k_L_undo lo 10 (by decide) J G F (hr2 := ne2_1) (k_X4_undo lo 9 (by decide) J G F i1 i2 i4 i5), ?_⟩
  rintro v I2 G2 F2 ⟨rfl, h⟩
  refine ⟨rfl, ?_⟩
  rcases h with ⟨hr, rfl, rfl, rfl⟩ | ⟨hr, a, J2, G3, rfl, rfl, rfl, rfl, rfl, rfl⟩
  · refine ⟨_, k_X5_undo lo 10 (by decide) J _ _ i1 (by omega) (by omega), ?_⟩
    rintro v3 I3 G3 F3 ⟨rfl, rfl, aM, J3, rfl, rfl, h4, hA, hs⟩
    refine ⟨aM, J3, b, rfl, rfl, h4.trans eN, fun z => absurd z hr, ?_⟩
    rw [eN, if_neg hr] at hs
    exact iv_s I (fun x i _ q2 q3 q4 => hs x i q2 q3 (by omega)) (fun _ _ _ => rfl)
  · have h1 : ¬ J 0 2 < 1 := fun q => by rw [if_pos q] at hr; exact absurd hr (by decide)
    have un : ∀ x i, 8 ≤ x → unJ J b x i = J x i := fun x i a => (cpH_ot (by omega)).trans (zup_ne (by omega))
    have e3 : unJ J b 50 3 = J 0 2 := (un 50 3 (by decide)).trans i6
    refine ⟨_, k_X5_undo lo 10 (by decide) (unJ J b) _ _ i1 (by omega) (by omega), ?_⟩
    rintro v3 I3 G4 F3 ⟨rfl, rfl, aM, J3, rfl, rfl, h4, hA, hs⟩
    have e0 : (if unJ J b 50 3 = 0 then (1 : Int) else 0) = 0 := by rw [e3, if_neg (by omega)]
    rw [e0, if_pos rfl, e3] at hs
    refine ⟨aM, J3, b, rfl, rfl, (h4.trans e0).trans hr.symm, fun _ => by rw [zup_eq, hA e0, e3], ?_⟩
    refine zInv_undo I h1 (fun x i hx => ?_) (fun x i hx => zup_ne (by omega)) (fun i hi => ?_) ?_ (fun x i hx => ?_)
    · rw [hs x i (by omega) (by omega) (by omega), upr_ne (by omega), zup_ne (by omega), zup_ne (by omega)]
    · rw [hs 51 i (by decide) (by decide) (by omega), upr_eq]
      unfold unR cpR
      rw [if_pos hi, e3]
      exact un 52 _ (by decide)
    · rw [hs 50 3 (by decide) (by decide) (by decide), upr_ne (by decide), zup_eq]
    · rw [hs x i (by omega) (by omega) (by omega), upr_ne (by omega), zup_ne (by omega), zup_ne (by omega)]
      exact un x i (by omega)
def zPairS {τ : Type} (mk : τ → Value) (lo : Nat) (yC : MethodName) (cC : ByteArray) (nC : Nat) (yM : MethodName) (cM : ByteArray) (nM : Nat) (ret : FieldType) (J : Nat → Nat → Int) (G : Nat → Nat → Int64) (F : Nat → Nat → Option Nat) : Prop :=
  ∃ PC : List Value → (Nat → Nat → Int32) → (Nat → Nat → Int64) → (Nat → Nat → Option Nat) → Prop, zCt lo yC cC nC (some ret) 10 0 0 [.ref (lo + 0)] 57 57 (zM J) G F PC ∧ ∀ v I2 G2 F2, PC v I2 G2 F2 → ∃ v0 : τ, v = [mk v0] ∧ ∃ PM : List Value → (Nat → Nat → Int32) → (Nat → Nat → Int64) → (Nat → Nat → Option Nat) → Prop, zCt lo yM cM nM (some ret) 10 0 0 [.ref (lo + 50)] 57 57 I2 G2 F2 PM ∧ ∀ v3 I3 G3 F3, PM v3 I3 G3 F3 → v3 = [mk v0] ∧ ∃ (J3 : Nat → Nat → Int) (b3 : Nat → Nat), I3 = zM J3 ∧ zInv J3 G3 F3 b3
theorem ps_kept {lo : Nat} {J : Nat → Nat → Int} {G : Nat → Nat → Int64} {F : Nat → Nat → Option Nat} {b : Nat → Nat} (I : zInv J G F b) : zPairS Value.double lo yX4_kept cX4_kept 2 yX5_kept cX5_kept 2 .double J G F := by
  have a0 := hR_sr I.2.2.1.2.2.2
  have hf := cOk_f I.2.2.1.1
  have e8 : J 51 8 = J 1 10 := a0.2.2.2.2.2.2.2.2.1
  have e10 : J 51 10 = J 1 12 := a0.2.2.2.2.2.2.2.2.2.2.1
  refine ⟨_, k_X4_kept lo 10 J G F I.1 (by omega) (by omega) (by omega), ?_⟩
  rintro v I2 G2 F2 ⟨rfl, rfl, rfl, rfl⟩
  refine ⟨_, rfl, _, k_X5_kept lo 10 J _ _ I.1 (by omega) (by omega) (by omega), ?_⟩
  rintro v3 I3 G3 F3 ⟨rfl, rfl, rfl, rfl⟩
  exact ⟨by rw [e8, e10], _, b, rfl, iv_s I (fun x i _ _ _ q => zup_ne (by omega)) (fun _ _ _ => rfl)⟩
theorem ps_clearText {lo : Nat} {J : Nat → Nat → Int} {G : Nat → Nat → Int64} {F : Nat → Nat → Option Nat} {b : Nat → Nat} (I : zInv J G F b) : zPairS Value.int lo yX4_clearText cX4_clearText 2 yX5_clearText cX5_clearText 2 .int J G F := by
  have i10 := I.2.2.2.2.2.1.2.2
  have hI := I
  obtain ⟨i1, i2, i3, ⟨i4, i5, i6⟩, i7, ⟨i8, i9, -⟩, i11, i12, i13, i14⟩ := hI
  refine ⟨_, k_X4_clearText lo 10 J G F, ?_⟩
  rintro v I2 G2 F2 ⟨rfl, rfl, rfl, rfl⟩
  refine ⟨_, rfl, _, k_X5_clearText lo 10 (zup J 0 7 0) _ _, ?_⟩
  rintro v3 I3 G3 F3 ⟨rfl, rfl, aM, J3, rfl, rfl, h4, hA, hs⟩
  rw [if_pos rfl] at hs
  have e6 : zup J 0 7 0 50 6 = J 0 7 := (zup_ne (by decide)).trans i10
  refine ⟨by rw [hA rfl, e6], J3, b, rfl, ?_⟩
  have e07 : J3 0 7 = 0 := (hs 0 7 (by decide) (by decide) (by decide)).trans ((zup_ne (by decide)).trans ((zup_ne (by decide)).trans zup_eq))
  have e506 : J3 50 6 = 0 := (hs 50 6 (by decide) (by decide) (by decide)).trans zup_eq
  have ee : ∀ x i, x = 49 ∨ x = 54 → J3 x i = J x i := fun x i hx => by
    rw [hs x i (by omega) (by omega) (by omega), zup_ne (by omega), zup_ne (by omega), zup_ne (by omega)]
  refine zInv_text I (fun x i q1 q2 q3 q4 q5 q6 q7 => ?_) (by omega) (fun i => ?_) (fun i => ?_) (fun i hi => ?_) (fun x i hx => rfl)
  · rw [hs x i q2 q3 (by omega), zup_ne (by omega), zup_ne (by omega), zup_ne (by omega)]
  · rw [ee 49 i (Or.inl rfl)]; exact i11 i
  · rw [ee 54 i (Or.inr rfl)]; exact i12 i
  · omega
theorem ps_print {lo : Nat} {J : Nat → Nat → Int} {G : Nat → Nat → Int64} {F : Nat → Nat → Option Nat} {b : Nat → Nat} (I : zInv J G F b) : zPairS Value.int lo yX4_print cX4_print 2 yX5_print cX5_print 1 .int J G F := by
  have a0 := hR_sr I.2.2.1.2.2.2
  refine ⟨_, k_X4_print lo 10 (by decide) J G F I.1 I.2.1 I.2.2.2.1.1 I.2.2.2.1.2.1 I.2.2.1.1, ?_⟩
  rintro v I2 G2 F2 ⟨rfl, J1, b1, rfl, hF2, hb2, -, sv⟩
  have EF : ∀ x i, 50 ≤ x → prA J1 x i = J x i := fun x i hx => by
    unfold prA
    rw [zup_ne (by omega)]
    unfold prW
    by_cases q : 3 ≤ x ∧ x < 3 + (J1 1 1).toNat ∧ i = 6
    · have := sv.2.2.2.1 1 1 (by decide) (Or.inl (by decide))
      have hf := cOk_f I.2.2.1.1
      omega
    · rw [if_neg q]
      exact sv.2.2.2.1 x i (by omega) (Or.inr (by omega))
  have M := iv_m I EF
  refine ⟨_, rfl, _, k_X5_print lo 10 (by decide) (prA J1) _ _ hF2 M.2.1 M.2.2.1.1 M.2.2.1.2, ?_⟩
  rintro v3 I3 G3 F3 ⟨rfl, rfl, aM, J3, rfl, rfl, h4, hA, hs⟩
  rw [if_pos rfl] at hs
  exact ⟨by rw [hA rfl, EF 51 12 (by decide), a0.2.2.2.2.2.2.2.2.2.2.2.2], J3, b1, rfl, st_print I sv hF2 hb2 hs (fun _ _ _ => rfl)⟩
theorem ps_nextMarket {lo : Nat} {J : Nat → Nat → Int} {G : Nat → Nat → Int64} {F : Nat → Nat → Option Nat} {b : Nat → Nat} (I : zInv J G F b) {N : Nat} (hN : N = 2001) : zPairS Value.int lo yX4_nextMarket cX4_nextMarket 2 yX5_nextMarket cX5_nextMarket 1 .int J G F := by
  refine ⟨_, k_X4_nextMarket lo 10 (by decide) J G F I.1 iv_v I.2.2.1.1 hN, ?_⟩
  rintro v I2 G2 F2 ⟨rfl, ⟨J2, rfl, hB⟩, rfl, rfl⟩
  have M := iv_m I (J' := J2) (fun x i hx => hB x i (by omega))
  refine ⟨_, rfl, _, k_X5_nextMarket lo 10 (by decide) J2 _ _ I.1 M.1 I.2.2.1.1 hN, ?_⟩
  rintro v3 I3 G3 F3 ⟨rfl, rfl, aM, J3, rfl, rfl, h4, hA, hs⟩
  rw [if_pos rfl] at hs
  exact ⟨by rw [hA rfl], J3, b, rfl, iv_s I (fun x i q1 q2 q3 q4 => (hs x i q2 q3 (by omega)).trans (hB x i (by omega))) (fun _ _ _ => rfl)⟩
theorem in_md1 {J J2 : Nat → Nat → Int} (e : ∀ x i, 50 ≤ x → J2 x i = J x i) {h : Int64} : ∀ n, md1 J2 h n = md1 J h n
  | 0 => rfl
  | n + 1 => by
    rw [md1_s, md1_s, in_md1 e n]
    unfold tvM
    rw [show J2 51 = J 51 from funext fun i => e 51 i (by decide)]
theorem in_md3 {J J2 : Nat → Nat → Int} (e : ∀ x i, 50 ≤ x → J2 x i = J x i) {h : Int64} : ∀ n, md3 J2 h n = md3 J h n
  | 0 => rfl
  | n + 1 => by
    rw [md3_s, md3_s, in_md3 e n]
    unfold twM
    rw [show J2 51 = J 51 from funext fun i => e 51 i (by decide)]
theorem in_md {J J2 : Nat → Nat → Int} (e : ∀ x i, 50 ≤ x → J2 x i = J x i) {hs : Nat → Int} {wd : Nat → Nat → Int} {sb : Nat → Bool} {N : Nat} : mdR hs wd sb N J = mdR hs wd sb N J2 := by
  unfold mdR
  rw [in_md1 e, in_md3 e, e 50 6 (by decide), e 50 3 (by decide)]
theorem ps_digest {lo : Nat} {J : Nat → Nat → Int} {G : Nat → Nat → Int64} {F : Nat → Nat → Option Nat} {b : Nat → Nat} (I : zInv J G F b) {N : Nat} (hN : N = 2001) : zPairS Value.long lo yX4_digest cX4_digest 5 yX5_digest cX5_digest 2 .long J G F := by
  have hI := I
  obtain ⟨i1, i2, i3, ⟨i4, i5, i6⟩, i7, ⟨i8, i9, i10⟩, i11, i12, i13, i14⟩ := hI
  refine ⟨_, k_X4_digest lo 10 (by decide) J G F i1 iv_v i3.1 i8 i9 i4 i5 hN, ?_⟩
  rintro v I2 G2 F2 ⟨rfl, ⟨J2, rfl, hB⟩, rfl, rfl⟩
  have e5 : ∀ x i, 50 ≤ x → J2 x i = J x i := fun x i hx => hB x i (by omega)
  have M := iv_m I e5
  refine ⟨_, rfl, _, k_X5_digest lo 10 (by decide) J2 _ _ i1 M.1 i3.1 (iv_p I) M.2.2.1.1 M.2.2.1.2 M.2.2.2.1.1 M.2.2.2.1.2 hN, ?_⟩
  rintro v3 I3 G3 F3 ⟨rfl, rfl, ⟨h, rfl⟩, J3, rfl, h4, hs⟩
  refine ⟨?_, J3, b, rfl, iv_s I (fun x i q1 q2 q3 q4 => (hs x i q2 q3 (by omega)).trans (hB x i (by omega))) (fun x i hx => zup_ne (by omega))⟩
  rw [in_dg i3 i10 i6, in_md e5]
theorem ps_parse {lo : Nat} {J : Nat → Nat → Int} {G : Nat → Nat → Int64} {F : Nat → Nat → Option Nat} {b : Nat → Nat} (I : zInv J G F b) : zPairS Value.int lo yX4_parse cX4_parse 2 yX5_parse cX5_parse 3 .int J G F := by
  have hI := I
  obtain ⟨i1, i2, i3, ⟨i4, i5, i6⟩, i7, ⟨i8, i9, i10⟩, i11, i12, i13, i14⟩ := hI
  have hc := rwR_c (J := J) (n := J 0 7)
  refine ⟨_, k_X4_parse lo 10 (by decide) J G F i1 i2 i4 i5 i11 i8 i9 i14, ?_⟩
  intro v I2 G2 F2 h
  unfold paP at h
  by_cases q : rwR J (J 0 7) 41 5 = -1
  · rw [if_pos q] at h
    obtain ⟨rfl, J1, G1, b1, rfl, rfl, hF2, hb2, -, sv⟩ := h
    have E9 : ∀ x i, 50 ≤ x → tkJ (rwR J (J 0 7) 41 1) J1 x i = J x i := fun x i a => (tk_o (Or.inr (by omega)) hc.2).trans ((sv.2.2.2.1 x i (by omega) (Or.inr (by omega))).trans (rwR_o (by omega) (by omega)))
    have M := iv_m I E9
    have hp := in_pa (Jc := tkJ (rwR J (J 0 7) 41 1) J1) I (E9 50 6 (by decide)) (fun i => E9 54 i (by decide)) (fun i _ => E9 51 i (by decide))
    refine ⟨_, rfl, _, k_X5_parse lo 10 (by decide) (tkJ (rwR J (J 0 7) 41 1) J1) _ _ hF2 (fun i => by rw [E9 54 i (by decide)]; exact i12 i) M.2.2.2.1.1 M.2.2.2.1.2 M.2.2.2.2.1.1 M.2.2.2.2.1.2 M.2.2.2.2.2.1.1 M.2.2.2.2.2.1.2 M.2.2.1.1 M.2.2.1.2, ?_⟩
    rintro v3 I3 G3 F3 ⟨rfl, rfl, aM, J3, rfl, rfl, h4, ⟨hy, hA, hs⟩ | ⟨hy, hA, hs⟩⟩
    · obtain ⟨n, n5, hS, p0, p1, -⟩ := hp.1 hy
      exact ⟨by rw [hA, p0, p1], J3, b1, rfl, st_parse I sv hF2 hb2 hy hs (fun _ _ _ => rfl)⟩
    · exact absurd q (hp.2 hy).2
  · rw [if_neg q] at h
    obtain ⟨rfl, rfl, rfl, rfl⟩ := h
    have E9 : ∀ x i, 50 ≤ x → rwR J (J 0 7) x i = J x i := fun x i a => rwR_o (by omega) (by omega)
    have M := iv_m I E9
    have hp := in_pa (Jc := rwR J (J 0 7)) I (E9 50 6 (by decide)) (fun i => E9 54 i (by decide)) (fun i _ => E9 51 i (by decide))
    refine ⟨_, rfl, _, k_X5_parse lo 10 (by decide) (rwR J (J 0 7)) _ _ (zFk41 i1) (fun i => by rw [E9 54 i (by decide)]; exact i12 i) M.2.2.2.1.1 M.2.2.2.1.2 M.2.2.2.2.1.1 M.2.2.2.2.1.2 M.2.2.2.2.2.1.1 M.2.2.2.2.2.1.2 M.2.2.1.1 M.2.2.1.2, ?_⟩
    rintro v3 I3 G3 F3 ⟨rfl, rfl, aM, J3, rfl, rfl, h4, ⟨hy, hA, hs⟩ | ⟨hy, hA, hs⟩⟩
    · obtain ⟨n, n5, hS, -⟩ := hp.1 hy
      exact absurd hS.1.1 q
    · refine ⟨by rw [hA, (hp.2 hy).1], J3, b, rfl, ?_⟩
      have IR := zInv_F (x := some 49) (zInv_R I)
      exact zInv_same IR (fun x i q1 q2 q3 q4 q5 q6 => hs x i q2 q3 q4 q5) (rwOk_eq IR.2.2.2.2.2.2.2.2.2 fun x i hx hx2 => hs x i (by omega) (by omega) (by omega) (by omega)) (fun _ _ _ => rfl)
