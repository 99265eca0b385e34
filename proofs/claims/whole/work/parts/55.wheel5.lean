/-! the Model reads a wheel; parse -/
def weE (J : Nat → Nat → Int) : (Nat → Nat → Int) × Int := if atP J 59 59 then (zup J 50 8 (J 50 8 + 1), 1) else (J, 0)
def weD (J : Nat → Nat → Int) (k : Nat) : (Nat → Nat → Int) × Int := if atP J 64 64 then (if (tsR (zup J 50 8 (J 50 8 + 1)) k).2 = 1 then weE (tsR (zup J 50 8 (J 50 8 + 1)) k).1 else ((tsR (zup J 50 8 (J 50 8 + 1)) k).1, 0)) else weE J
def weC (J : Nat → Nat → Int) (k : Nat) (te : Int) : (Nat → Nat → Int) × Int := if tnA J 0 (te - 1) (tnK J) = 1 then weD (comJ (tnW J 0 (te - 1) (tnK J)) k te (tnW J 0 (te - 1) (tnK J) 50 9)) k else (tnW J 0 (te - 1) (tnK J), 0)
def weB (J : Nat → Nat → Int) (k : Nat) (te : Int) : (Nat → Nat → Int) × Int := if atP J 44 44 then weC (zup J 50 8 (J 50 8 + 1)) k te else (J, 0)
def weR (J : Nat → Nat → Int) (k : Nat) : (Nat → Nat → Int) × Int := if k = 5 then (J, 0) else if tnA J 2 60 (tnK J) = 1 then weB (tnW J 2 60 (tnK J)) k (tnW J 2 60 (tnK J) 50 9) else (tnW J 2 60 (tnK J), 0)
theorem sk3_o {J : Nat → Nat → Int} {k x i : Nat} {a b c : Int} (h : x ≠ 51 ∨ i ≠ 13 + 7 * k + 3 ∧ i ≠ 13 + 7 * k + 4 ∧ i ≠ 13 + 7 * k + 5) : sk3 J k a b c x i = J x i := by
  unfold sk3
  rw [zup_ne (by omega), zup_ne (by omega), zup_ne (by omega)]
theorem comJ_o {J : Nat → Nat → Int} {k x i : Nat} {u v : Int} (h : x ≠ 51 ∨ i ≠ 0 ∧ ¬ (13 + 7 * k ≤ i ∧ i < 13 + 7 * k + 7)) : comJ J k u v x i = J x i := by
  unfold comJ
  rw [zup_ne (by omega), zup_ne (by omega), zup_ne (by omega), zup_ne (by omega), zup_ne (by omega), zup_ne (by omega), zup_ne (by omega), zup_ne (by omega)]
theorem psOk_sk {J : Nat → Nat → Int} {k : Nat} {a b c : Int} (h : psOk J) : psOk (sk3 J k a b c) := psOk_o (psOk_o (psOk_o h (by decide) (Or.inl (by decide))) (by decide) (Or.inl (by decide))) (by decide) (Or.inl (by decide))
theorem psOk_co {J : Nat → Nat → Int} {k : Nat} {u v : Int} (h : psOk J) : psOk (comJ J k u v) := psOk_o (psOk_o (psOk_o (psOk_o (psOk_o (psOk_o (psOk_o (psOk_o h (by decide) (Or.inl (by decide))) (by decide) (Or.inl (by decide))) (by decide) (Or.inl (by decide))) (by decide) (Or.inl (by decide))) (by decide) (Or.inl (by decide))) (by decide) (Or.inl (by decide))) (by decide) (Or.inl (by decide))) (by decide) (Or.inl (by decide))
theorem psOk_at {J : Nat → Nat → Int} {u v : Int} (h : psOk J) (ha : atP J u v) : psOk (zup J 50 8 (J 50 8 + 1)) := psOk_8 h (by have := h.1; omega) (by have := ha.1; omega)
/-- what a step of the reading keeps: the text's cells and all of the row but the wheel k -/
def keepK (J2 J : Nat → Nat → Int) (k : Nat) : Prop := psOk J2 ∧ ∀ x i, (x ≠ 50 ∨ i ≠ 8 ∧ i ≠ 9) → (x ≠ 51 ∨ i ≠ 0 ∧ ¬ (13 + 7 * k ≤ i ∧ i < 13 + 7 * k + 7)) → J2 x i = J x i
theorem keepK_rf {J : Nat → Nat → Int} {k : Nat} (h : psOk J) : keepK J J k := ⟨h, fun _ _ _ _ => rfl⟩
theorem keepK_tr {J J2 J3 : Nat → Nat → Int} {k : Nat} (h : keepK J3 J2 k) (h2 : keepK J2 J k) : keepK J3 J k := ⟨h.1, fun x i a b => (h.2 x i a b).trans (h2.2 x i a b)⟩
theorem keepK_8 {J : Nat → Nat → Int} {k : Nat} {u v : Int} (h : psOk J) (ha : atP J u v) : keepK (zup J 50 8 (J 50 8 + 1)) J k := ⟨psOk_at h ha, fun x i a _ => zup_ne (by omega)⟩
theorem keepK_tn {J : Nat → Nat → Int} {k : Nat} {a b : Int} (h : psOk J) : keepK (tnW J a b (tnK J)) J k := ⟨psOk_tn h, fun x i q _ => tnW_o (by omega)⟩
theorem keepK_sk {J : Nat → Nat → Int} {k : Nat} {a b c : Int} (h : psOk J) : keepK (sk3 J k a b c) J k := ⟨psOk_sk h, fun x i _ q => sk3_o (by omega)⟩
theorem keepK_co {J : Nat → Nat → Int} {k : Nat} {u v : Int} (h : psOk J) : keepK (comJ J k u v) J k := ⟨psOk_co h, fun x i _ q => comJ_o (by omega)⟩
theorem tsC_k {J : Nat → Nat → Int} {k : Nat} {dr to : Int} (h : psOk J) : keepK (tsC J k dr to).1 J k := by
  unfold tsC
  split
  · rename_i ha; exact keepK_tr (keepK_sk (psOk_at h ha)) (keepK_8 h ha)
  · split
    · rename_i ha; exact keepK_tr (keepK_sk (psOk_at h ha)) (keepK_8 h ha)
    · exact keepK_rf h
theorem tsR_k {J : Nat → Nat → Int} {k : Nat} (h : psOk J) : keepK (tsR J k).1 J k := by
  unfold tsR
  split
  · rename_i ha
    refine keepK_tr ?_ (keepK_8 h ha.1)
    have h2 := psOk_at h ha.1
    unfold tsA
    split
    · rename_i hb
      refine keepK_tr ?_ (keepK_8 h2 hb)
      have h3 := psOk_at h2 hb
      unfold tsB
      split
      · exact keepK_tr (tsC_k (psOk_tn h3)) (keepK_tn h3)
      · exact keepK_tn h3
    · exact keepK_rf h2
  · exact keepK_rf h
theorem weE_k {J : Nat → Nat → Int} {k : Nat} (h : psOk J) : keepK (weE J).1 J k := by
  unfold weE
  split
  · rename_i ha; exact keepK_8 h ha
  · exact keepK_rf h
theorem weD_k {J : Nat → Nat → Int} {k : Nat} (h : psOk J) : keepK (weD J k).1 J k := by
  unfold weD
  split
  · rename_i ha
    refine keepK_tr ?_ (keepK_8 h ha)
    have h2 := psOk_at h ha
    split
    · exact keepK_tr (weE_k (tsR_k h2).1) (tsR_k h2)
    · exact tsR_k h2
  · exact weE_k h
theorem weR_k {J : Nat → Nat → Int} {k : Nat} (h : psOk J) : keepK (weR J k).1 J k := by
  unfold weR
  split
  · exact keepK_rf h
  · split
    · refine keepK_tr ?_ (keepK_tn (a := 2) (b := 60) h)
      have h2 := psOk_tn (a := 2) (b := 60) h
      unfold weB
      split
      · rename_i ha
        refine keepK_tr ?_ (keepK_8 h2 ha)
        have h3 := psOk_at h2 ha
        unfold weC
        split
        · exact keepK_tr (weD_k (psOk_co (psOk_tn h3))) (keepK_tr (keepK_co (psOk_tn h3)) (keepK_tn h3))
        · exact keepK_tn h3
      · exact keepK_rf h2
    · exact keepK_tn h
theorem tsR_01 {J : Nat → Nat → Int} {k : Nat} : (tsR J k).2 = 0 ∨ (tsR J k).2 = 1 := by
  unfold tsR
  split
  · unfold tsA
    split
    · unfold tsB
      split
      · unfold tsC
        repeat' split
        all_goals simp
      · exact Or.inl rfl
    · exact Or.inl rfl
  · exact Or.inl rfl
theorem weE_01 {J : Nat → Nat → Int} : (weE J).2 = 0 ∨ (weE J).2 = 1 := by
  unfold weE
  split <;> simp
theorem weR_01 {J : Nat → Nat → Int} {k : Nat} : (weR J k).2 = 0 ∨ (weR J k).2 = 1 := by
  unfold weR
  split
  · exact Or.inl rfl
  · split
    · unfold weB
      split
      · unfold weC
        split
        · unfold weD
          split
          · split
            · exact weE_01
            · exact Or.inl rfl
          · exact weE_01
        · exact Or.inl rfl
      · exact Or.inl rfl
    · exact Or.inl rfl
def pwH (J : Nat → Nat → Int) (c : Nat) : Prop := psOk J ∧ J 51 0 = c ∧ c ≤ 5 ∧ (∀ j, j < c → 2 ≤ J 51 (13 + 7 * j + 0) ∧ J 51 (13 + 7 * j + 0) ≤ 60) ∧ 0 ≤ J 51 1 ∧ J 51 1 ≤ 1000000 ∧ 0 ≤ J 51 12 ∧ J 51 12 ≤ 1000000
theorem pwH_k {J J2 : Nat → Nat → Int} {c : Nat} (h : pwH J c) (k : keepK J2 J c) (h0 : J2 51 0 = J 51 0) : pwH J2 c := by
  obtain ⟨a1, a2, a3, a4, a5, a6, a7, a8⟩ := h
  refine ⟨k.1, h0.trans a2, a3, fun j hj => ?_, ?_⟩
  · rw [k.2 51 _ (Or.inl (by decide)) (by omega)]
    exact a4 j hj
  · rw [k.2 51 1 (Or.inl (by decide)) (by omega), k.2 51 12 (Or.inl (by decide)) (by omega)]
    exact ⟨a5, a6, a7, a8⟩
/-- behind a wheel that was read -/
theorem com_0 {J : Nat → Nat → Int} {k : Nat} {u v : Int} : comJ J k u v 51 0 = (k : Int) + 1 := zup_eq
theorem com_t {J : Nat → Nat → Int} {k : Nat} {u v : Int} : comJ J k u v 51 (13 + 7 * k + 0) = u := by
  unfold comJ
  rw [zup_ne (by omega), zup_ne (by omega), zup_ne (by omega), zup_ne (by omega), zup_ne (by omega), zup_ne (by omega), zup_ne (by omega), zup_eq]
theorem com_3 {J : Nat → Nat → Int} {k : Nat} {u v : Int} : comJ J k u v 51 (13 + 7 * k + 3) = -1 := by
  unfold comJ
  rw [zup_ne (by omega), zup_ne (by omega), zup_ne (by omega), zup_ne (by omega), zup_eq]
theorem tsC_0 {J : Nat → Nat → Int} {k i : Nat} {dr to : Int} (hi : i = 0 ∨ i = 13 + 7 * k + 0) : (tsC J k dr to).1 51 i = J 51 i := by
  unfold tsC
  split
  · dsimp only
    rw [sk3_o (by omega), zup_ne (by omega)]
  · split
    · dsimp only
      rw [sk3_o (by omega), zup_ne (by omega)]
    · rfl
theorem tsR_0 {J : Nat → Nat → Int} {k i : Nat} (hi : i = 0 ∨ i = 13 + 7 * k + 0) : (tsR J k).1 51 i = J 51 i := by
  unfold tsR
  split
  · unfold tsA
    split
    · unfold tsB
      split
      · rw [tsC_0 hi, tnW_o (by omega), zup_ne (by omega), zup_ne (by omega)]
      · dsimp only
        rw [tnW_o (by omega), zup_ne (by omega), zup_ne (by omega)]
    · dsimp only
      rw [zup_ne (by omega)]
  · rfl
theorem weD_0 {J : Nat → Nat → Int} {k i : Nat} (hi : i = 0 ∨ i = 13 + 7 * k + 0) : (weD J k).1 51 i = J 51 i := by
  have hE : ∀ Jx : Nat → Nat → Int, (weE Jx).1 51 i = Jx 51 i := fun Jx => by
    unfold weE
    split
    · dsimp only
      rw [zup_ne (by omega)]
    · rfl
  unfold weD
  split
  · split
    · rw [hE, tsR_0 hi, zup_ne (by omega)]
    · dsimp only
      rw [tsR_0 hi, zup_ne (by omega)]
  · exact hE J
theorem weR_y {J : Nat → Nat → Int} {c : Nat} (h : pwH J c) (hy : (weR J c).2 = 1) : pwH (weR J c).1 (c + 1) := by
  have hk := weR_k (k := c) h.1
  have e : ∃ (Jx : Nat → Nat → Int) (te v : Int), 2 ≤ te ∧ te ≤ 60 ∧ c ≠ 5 ∧ weR J c = weD (comJ Jx c te v) c := by
    unfold weR at hy ⊢
    split at hy
    · exact absurd hy (show ¬ ((0 : Int) = 1) by decide)
    · rename_i hc
      rw [if_neg hc]
      split at hy
      · rename_i ho
        rw [if_pos ho]
        have hn := tn_num ho
        have hr := (tn_yes ho).2.1
        unfold weB at hy ⊢
        split at hy
        · rename_i ha
          rw [if_pos ha]
          unfold weC at hy ⊢
          split at hy
          · rename_i ho2
            rw [if_pos ho2]
            exact ⟨_, _, _, by rw [hn]; exact hr.1, by rw [hn]; exact hr.2, hc, rfl⟩
          · exact absurd hy (show ¬ ((0 : Int) = 1) by decide)
        · exact absurd hy (show ¬ ((0 : Int) = 1) by decide)
      · exact absurd hy (show ¬ ((0 : Int) = 1) by decide)
  obtain ⟨Jx, te, v, t1, t2, hc, e⟩ := e
  obtain ⟨a1, a2, a3, a4, a5, a6, a7, a8⟩ := h
  refine ⟨hk.1, ?_, by omega, fun j hj => ?_, ?_⟩
  · rw [e, weD_0 (Or.inl rfl), com_0]
    omega
  · by_cases hjc : j = c
    · subst hjc
      rw [e, weD_0 (Or.inr rfl), com_t]
      exact ⟨t1, t2⟩
    · rw [hk.2 51 _ (Or.inl (by decide)) (by omega)]
      exact a4 j (by omega)
  · rw [hk.2 51 1 (Or.inl (by decide)) (by omega), hk.2 51 12 (Or.inl (by decide)) (by omega)]
    exact ⟨a5, a6, a7, a8⟩
set_option maxHeartbeats 4000000 in
set_option maxRecDepth 100000 in
theorem k_X5_takesWheel (lo d : Nat) (hd : 4 ≤ d) (J : Nat → Nat → Int) (G : Nat → Nat → Int64) (F : Nat → Nat → Option Nat) (hF : zFk F) {k : Nat} (hH : pwH J k) : zCt lo yX5_takesWheel cX5_takesWheel 3 (some .boolean) d 0 0 [.ref (lo + 50)] 57 57 (zM J) G F (zD [.int (zI (weR J k).2)] (weR J k).1 G F) := by
  refine zCt.mk (by decide) (mv_X5_takesWheel.2.2.2.1) (Nat.le_of_ble_eq_true rfl) ?_
  intro p l e s m args below meth c D cA X
  obtain ⟨s0, s1, s2, hT⟩ := hH.1
  have hk5 := hH.2.2.1
  have stE : ∀ (J1 : Nat → Nat → Int) (te : Int), psOk J1 → weR J k = weE J1 → zG p l e { frames := d, cells := 0, slots := 0, locals := 35 * d } s m args below meth c D cA lo 3 0 0 (MQ below (zQ D cA lo 57 (zD [.int (zI (weR J k).2)] (weR J k).1 G F)) args s 0 0 (fun q => lo ≤ q)) 57 (zM (J1)) G F [some (.ref (lo + 50)), some (.int (zI te)), some (.int (zI (k : Int)))] [] 76 := by
    intro J1 te hH hR
    refine zG_aload_n X dX5_takesWheel_76 rfl ?_
    refine zj_bipush X dX5_takesWheel_77 (by decide) ?_
    refine zj_callV1 (as2 := [_]) X (k_X5_takes lo (d - 1) (by omega) J1 G F hF hH (u := 59) (by decide)) dX5_takesWheel_79 mv_X5_takes ml_X5_154 (by first | rfl | assumption) rfl (by first | decide | omega) rfl rfl (by show d - 1 + 1 ≤ d; omega) (by show 19 + 3 + 35 * (d - 1) ≤ 35 * (d); omega) (Nat.le_of_ble_eq_true rfl) (Nat.le_of_ble_eq_true rfl) (Nat.le_of_ble_eq_true rfl) ?_
    by_cases hp : atP J1 59 59
    · rw [if_pos hp, show tkS J1 59 = zup J1 50 8 (J1 50 8 + 1) from if_pos hp]
      refine zj_if_eq X dX5_takesWheel_82 (tgt := 89) (by decide) (by first | decide | omega) (fun h_82 => ?_) (fun h_82 => ?_)
      · exact absurd h_82 (by first | decide | omega)
      · refine zj_iconst X dX5_takesWheel_85 ?_
        refine zG_goto X dX5_takesWheel_86 (tgt := 90) (by decide) ?_
        refine zG_zret X dX5_takesWheel_90 rfl (by first | rfl | assumption) ?_
        first
          | exact zD.of (by rw [hR, show weE J1 = _ from if_pos hp]) (by rw [hR, show weE J1 = _ from if_pos hp]) rfl rfl
          | exact zD.of (by rw [hR, show weE J1 = _ from if_neg hp]) (by rw [hR, show weE J1 = _ from if_neg hp]) rfl rfl
    · rw [if_neg hp, show tkS J1 59 = J1 from if_neg hp]
      refine zj_if_eq X dX5_takesWheel_82 (tgt := 89) (by decide) (by first | decide | omega) (fun h_82 => ?_) (fun h_82 => ?_)
      · refine zj_iconst X dX5_takesWheel_89 ?_
        refine zG_zret X dX5_takesWheel_90 rfl (by first | rfl | assumption) ?_
        first
          | exact zD.of (by rw [hR, show weE J1 = _ from if_pos hp]) (by rw [hR, show weE J1 = _ from if_pos hp]) rfl rfl
          | exact zD.of (by rw [hR, show weE J1 = _ from if_neg hp]) (by rw [hR, show weE J1 = _ from if_neg hp]) rfl rfl
      · exact absurd h_82 (by first | decide | omega)
  have stD : ∀ (J1 : Nat → Nat → Int) (te : Int) (hk4 : k < 5), tsH J1 k → weR J k = weD J1 k → zG p l e { frames := d, cells := 0, slots := 0, locals := 35 * d } s m args below meth c D cA lo 3 0 0 (MQ below (zQ D cA lo 57 (zD [.int (zI (weR J k).2)] (weR J k).1 G F)) args s 0 0 (fun q => lo ≤ q)) 57 (zM (J1)) G F [some (.ref (lo + 50)), some (.int (zI te)), some (.int (zI (k : Int)))] [] 59 := by
    intro J1 te hk4 hH hR
    refine zG_aload_n X dX5_takesWheel_59 rfl ?_
    refine zj_bipush X dX5_takesWheel_60 (by decide) ?_
    refine zj_callV1 (as2 := [_]) X (k_X5_takes lo (d - 1) (by omega) J1 G F hF hH.1 (u := 64) (by decide)) dX5_takesWheel_62 mv_X5_takes ml_X5_154 (by first | rfl | assumption) rfl (by first | decide | omega) rfl rfl (by show d - 1 + 1 ≤ d; omega) (by show 19 + 3 + 35 * (d - 1) ≤ 35 * (d); omega) (Nat.le_of_ble_eq_true rfl) (Nat.le_of_ble_eq_true rfl) (Nat.le_of_ble_eq_true rfl) ?_
    by_cases hp : atP J1 64 64
    · rw [if_pos hp, show tkS J1 64 = zup J1 50 8 (J1 50 8 + 1) from if_pos hp]
      refine zj_if_eq X dX5_takesWheel_65 (tgt := 76) (by decide) (by first | decide | omega) (fun h_65 => ?_) (fun h_65 => ?_)
      · exact absurd h_65 (by first | decide | omega)
      · refine zG_aload_n X dX5_takesWheel_68 rfl ?_
        refine zG_iload_n X dX5_takesWheel_69 rfl ?_
        refine zj_callV1 (as2 := [_]) X (k_X5_takesSkip lo (d - 1) (by omega) (zup J1 50 8 (J1 50 8 + 1)) G F hF (k := k) (by omega) (tsH_8 hH hp.1)) dX5_takesWheel_70 mv_X5_takesSkip ml_X5_160 (by first | rfl | assumption) rfl (by first | decide | omega) rfl rfl (by show d - 1 + 1 ≤ d; omega) (by show 19 + 6 + 35 * (d - 1) ≤ 35 * (d); omega) (Nat.le_of_ble_eq_true rfl) (Nat.le_of_ble_eq_true rfl) (Nat.le_of_ble_eq_true rfl) ?_
        by_cases hs : (tsR (zup J1 50 8 (J1 50 8 + 1)) k).2 = 1
        · rw [hs]
          refine zj_if_eq X dX5_takesWheel_73 (tgt := 89) (by decide) (by first | decide | omega) (fun h_73 => ?_) (fun h_73 => ?_)
          · exact absurd h_73 (by first | decide | omega)
          · first
              | exact stE _ te (tsR_k (tsH_8 hH hp.1).1).1 (by rw [hR]; exact (if_pos hp).trans (if_pos hs))
              | exact stE _ te hH.1 (by rw [hR]; exact if_neg hp)
        · rw [show (tsR (zup J1 50 8 (J1 50 8 + 1)) k).2 = 0 from by have := tsR_01 (J := (zup J1 50 8 (J1 50 8 + 1))) (k := k); omega]
          refine zj_if_eq X dX5_takesWheel_73 (tgt := 89) (by decide) (by first | decide | omega) (fun h_73 => ?_) (fun h_73 => ?_)
          · refine zj_iconst X dX5_takesWheel_89 ?_
            refine zG_zret X dX5_takesWheel_90 rfl (by first | rfl | assumption) ?_
            first
              | (exfalso; omega)
              | exact zD.of (by rw [hR, show weD J1 k = ((tsR (zup J1 50 8 (J1 50 8 + 1)) k).1, 0) from (if_pos hp).trans (if_neg hs)]) (by rw [hR, show weD J1 k = ((tsR (zup J1 50 8 (J1 50 8 + 1)) k).1, 0) from (if_pos hp).trans (if_neg hs)]) rfl rfl
          · exact absurd h_73 (by first | decide | omega)
    · rw [if_neg hp, show tkS J1 64 = J1 from if_neg hp]
      refine zj_if_eq X dX5_takesWheel_65 (tgt := 76) (by decide) (by first | decide | omega) (fun h_65 => ?_) (fun h_65 => ?_)
      · first
          | exact stE _ te (tsR_k (tsH_8 hH hp.1).1).1 (by rw [hR]; exact (if_pos hp).trans (if_pos hs))
          | exact stE _ te hH.1 (by rw [hR]; exact if_neg hp)
      · exact absurd h_65 (by first | decide | omega)
  have stC : ∀ (J1 : Nat → Nat → Int) (te : Int) (hk4 : k < 5) (t1 : 2 ≤ te) (t2 : te ≤ 60), pwH J1 k → weR J k = weC J1 k te → zG p l e { frames := d, cells := 0, slots := 0, locals := 35 * d } s m args below meth c D cA lo 3 0 0 (MQ below (zQ D cA lo 57 (zD [.int (zI (weR J k).2)] (weR J k).1 G F)) args s 0 0 (fun q => lo ≤ q)) 57 (zM (J1)) G F [some (.ref (lo + 50)), some (.int (zI te)), none] [] 36 := by
    intro J1 te hk4 t1 t2 hH hR
    have hcw := pwH_k hH (keepK_tn (a := 0) (b := te - 1) hH.1) (tnW_o (by omega))
    have hkin := tnK_in hH.1
    refine zG_aload_n X dX5_takesWheel_36 rfl ?_
    refine zj_iconst X dX5_takesWheel_37 ?_
    refine zG_iload_n X dX5_takesWheel_38 rfl ?_
    refine zj_iconst X dX5_takesWheel_39 ?_
    refine zj_isub X dX5_takesWheel_40 ?_
    refine zj_callV1 (as2 := [_, _]) X (k_X5_takesNumber lo (d - 1) (by omega) J1 G F hF hH.1 (a := 0) (b := te - 1) (by decide) (by unfold zr; omega)) dX5_takesWheel_41 mv_X5_takesNumber ml_X5_157 (by first | rfl | assumption) rfl (by first | decide | omega) rfl rfl (by show d - 1 + 1 ≤ d; omega) (by show 19 + 6 + 35 * (d - 1) ≤ 35 * (d); omega) (Nat.le_of_ble_eq_true rfl) (Nat.le_of_ble_eq_true rfl) (Nat.le_of_ble_eq_true rfl) ?_
    by_cases ho : tnA J1 0 (te - 1) (tnK J1) = 1
    · rw [ho]
      refine zj_if_ne X dX5_takesWheel_44 (tgt := 49) (by decide) (by first | decide | omega) (fun h_44 => ?_) (fun h_44 => ?_)
      · refine zG_aload_n X dX5_takesWheel_49 rfl ?_
        refine zG_iload_n X dX5_takesWheel_50 rfl ?_
        refine zG_aload_n X dX5_takesWheel_51 rfl ?_
        refine zj_get X dX5_takesWheel_52 fl_X5_151 (by first | rfl | assumption) (by first | decide | omega) (by decide) rfl ?_
        refine zj_callV1 (as2 := [_, _]) X (k_X5_comes lo (d - 1) (by omega) (tnW J1 0 (te - 1) (tnK J1)) G F hF (k := k) (by omega) hcw.2.1 (u := te) (v := (tnW J1 0 (te - 1) (tnK J1)) 50 9) (by omega) (by unfold zr; omega) (by rw [tn_num ho]; omega) (by rw [tn_num ho]; omega) hcw.2.2.2.2.1 hcw.2.2.2.2.2.1 hcw.2.2.2.2.2.2.1 hcw.2.2.2.2.2.2.2) dX5_takesWheel_55 mv_X5_comes ml_X5_58 (by first | rfl | assumption) rfl (by first | decide | omega) rfl rfl (by show d - 1 + 1 ≤ d; omega) (by show 19 + 4 + 35 * (d - 1) ≤ 35 * (d); omega) (Nat.le_of_ble_eq_true rfl) (Nat.le_of_ble_eq_true rfl) (Nat.le_of_ble_eq_true rfl) ?_
        refine zG_istore_n X dX5_takesWheel_58 (by decide) rfl ?_
        exact stD _ te hk4 ⟨psOk_co hcw.1, fun j hj => by rw [comJ_o (by omega)]; exact hcw.2.2.2.1 j hj, by rw [com_3]; decide⟩ (by rw [hR]; exact if_pos ho)
      · exact absurd h_44 (by first | decide | omega)
    · rw [show tnA J1 0 (te - 1) (tnK J1) = 0 from by have := tnA_01 (J := J1) (a := 0) (b := te - 1) (c := tnK J1); omega]
      refine zj_if_ne X dX5_takesWheel_44 (tgt := 49) (by decide) (by first | decide | omega) (fun h_44 => ?_) (fun h_44 => ?_)
      · exact absurd h_44 (by first | decide | omega)
      · refine zj_iconst X dX5_takesWheel_47 ?_
        refine zG_zret X dX5_takesWheel_48 rfl (by first | rfl | assumption) ?_
        first
          | (exfalso; omega)
          | exact zD.of (by rw [hR, show weC J1 k te = ((tnW J1 0 (te - 1) (tnK J1)), 0) from if_neg ho]) (by rw [hR, show weC J1 k te = ((tnW J1 0 (te - 1) (tnK J1)), 0) from if_neg ho]) rfl rfl
  have stB : ∀ (J1 : Nat → Nat → Int) (te : Int) (hk4 : k < 5) (t1 : 2 ≤ te) (t2 : te ≤ 60), pwH J1 k → weR J k = weB J1 k te → zG p l e { frames := d, cells := 0, slots := 0, locals := 35 * d } s m args below meth c D cA lo 3 0 0 (MQ below (zQ D cA lo 57 (zD [.int (zI (weR J k).2)] (weR J k).1 G F)) args s 0 0 (fun q => lo ≤ q)) 57 (zM (J1)) G F [some (.ref (lo + 50)), some (.int (zI te)), none] [] 27 := by
    intro J1 te hk4 t1 t2 hH hR
    refine zG_aload_n X dX5_takesWheel_27 rfl ?_
    refine zj_bipush X dX5_takesWheel_28 (by decide) ?_
    refine zj_callV1 (as2 := [_]) X (k_X5_takes lo (d - 1) (by omega) J1 G F hF hH.1 (u := 44) (by decide)) dX5_takesWheel_30 mv_X5_takes ml_X5_154 (by first | rfl | assumption) rfl (by first | decide | omega) rfl rfl (by show d - 1 + 1 ≤ d; omega) (by show 19 + 3 + 35 * (d - 1) ≤ 35 * (d); omega) (Nat.le_of_ble_eq_true rfl) (Nat.le_of_ble_eq_true rfl) (Nat.le_of_ble_eq_true rfl) ?_
    by_cases hp : atP J1 44 44
    · rw [if_pos hp, show tkS J1 44 = zup J1 50 8 (J1 50 8 + 1) from if_pos hp]
      refine zj_if_eq X dX5_takesWheel_33 (tgt := 47) (by decide) (by first | decide | omega) (fun h_33 => ?_) (fun h_33 => ?_)
      · exact absurd h_33 (by first | decide | omega)
      · exact stC _ te hk4 t1 t2 (pwH_k hH (keepK_8 hH.1 hp) (zup_ne (by decide))) (by rw [hR]; exact if_pos hp)
    · rw [if_neg hp, show tkS J1 44 = J1 from if_neg hp]
      refine zj_if_eq X dX5_takesWheel_33 (tgt := 47) (by decide) (by first | decide | omega) (fun h_33 => ?_) (fun h_33 => ?_)
      · refine zj_iconst X dX5_takesWheel_47 ?_
        refine zG_zret X dX5_takesWheel_48 rfl (by first | rfl | assumption) ?_
        first
          | (exfalso; omega)
          | exact zD.of (by rw [hR, show weB J1 k te = (J1, 0) from if_neg hp]) (by rw [hR, show weB J1 k te = (J1, 0) from if_neg hp]) rfl rfl
      · exact absurd h_33 (by first | decide | omega)
  refine zG_aload_n X dX5_takesWheel_0 rfl ?_
  refine zG_getR X dX5_takesWheel_1 fl_X5_7 (by first | rfl | assumption) (by first | decide | omega) (by decide) rfl (by first | exact zF_at hF rfl rfl | assumption) ?_
  refine zj_iconst X dX5_takesWheel_4 ?_
  refine zj_ialoadv (v := (k : Int)) X dX5_takesWheel_5 (by first | rfl | assumption) (by first | decide | omega) (0) (by decide) (by decide) (hH.2.1) ?_
  refine zj_iconst X dX5_takesWheel_6 ?_
  refine zj_icmp_eq X dX5_takesWheel_7 (tgt := 20) (by decide) (by first | decide | omega) (by first | decide | omega) (fun h_7 => ?_) (fun h_7 => ?_)
  · refine zj_iconst X dX5_takesWheel_20 ?_
    refine zG_zret X dX5_takesWheel_21 rfl (by first | rfl | assumption) ?_
    first
      | exact zD.of (by rw [show weR J k = (J, 0) from if_pos (by omega)]) (by rw [show weR J k = (J, 0) from if_pos (by omega)]) rfl rfl
      | exact zD.of (by rw [show weR J k = ((tnW J 2 60 (tnK J)), 0) from (if_neg (by omega)).trans (if_neg ho)]) (by rw [show weR J k = ((tnW J 2 60 (tnK J)), 0) from (if_neg (by omega)).trans (if_neg ho)]) rfl rfl
  · refine zG_aload_n X dX5_takesWheel_10 rfl ?_
    refine zj_iconst X dX5_takesWheel_11 ?_
    refine zj_bipush X dX5_takesWheel_12 (by decide) ?_
    refine zj_callV1 (as2 := [_, _]) X (k_X5_takesNumber lo (d - 1) (by omega) J G F hF hH.1 (a := 2) (b := 60) (by decide) (by decide)) dX5_takesWheel_14 mv_X5_takesNumber ml_X5_157 (by first | rfl | assumption) rfl (by first | decide | omega) rfl rfl (by show d - 1 + 1 ≤ d; omega) (by show 19 + 6 + 35 * (d - 1) ≤ 35 * (d); omega) (Nat.le_of_ble_eq_true rfl) (Nat.le_of_ble_eq_true rfl) (Nat.le_of_ble_eq_true rfl) ?_
    by_cases ho : tnA J 2 60 (tnK J) = 1
    · rw [ho]
      have hr := (tn_yes ho).2.1
      have hn := tn_num ho
      refine zj_if_ne X dX5_takesWheel_17 (tgt := 22) (by decide) (by first | decide | omega) (fun h_17 => ?_) (fun h_17 => ?_)
      · refine zG_aload_n X dX5_takesWheel_22 rfl ?_
        refine zj_get X dX5_takesWheel_23 fl_X5_151 (by first | rfl | assumption) (by first | decide | omega) (by decide) rfl ?_
        refine zG_istore_n X dX5_takesWheel_26 (by decide) rfl ?_
        exact stB _ _ (by omega) (by rw [hn]; exact hr.1) (by rw [hn]; exact hr.2) (pwH_k hH (keepK_tn hH.1) (tnW_o (by omega))) ((if_neg (by omega)).trans (if_pos ho))
      · exact absurd h_17 (by first | decide | omega)
    · rw [show tnA J 2 60 (tnK J) = 0 from by have := tnA_01 (J := J) (a := 2) (b := 60) (c := tnK J); omega]
      refine zj_if_ne X dX5_takesWheel_17 (tgt := 22) (by decide) (by first | decide | omega) (fun h_17 => ?_) (fun h_17 => ?_)
      · exact absurd h_17 (by first | decide | omega)
      · refine zj_iconst X dX5_takesWheel_20 ?_
        refine zG_zret X dX5_takesWheel_21 rfl (by first | rfl | assumption) ?_
        first
          | exact zD.of (by rw [show weR J k = (J, 0) from if_pos (by omega)]) (by rw [show weR J k = (J, 0) from if_pos (by omega)]) rfl rfl
          | exact zD.of (by rw [show weR J k = ((tnW J 2 60 (tnK J)), 0) from (if_neg (by omega)).trans (if_neg ho)]) (by rw [show weR J k = ((tnW J 2 60 (tnK J)), 0) from (if_neg (by omega)).trans (if_neg ho)]) rfl rfl
