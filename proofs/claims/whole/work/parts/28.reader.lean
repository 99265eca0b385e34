/-! the Reader: text in cell 49, its places in cell 41 (3 length, 4 at, 5 error) -/
def rdOk (J : Nat → Nat → Int) (F : Nat → Nat → Option Nat) : Prop := F 41 2 = some 49 ∧ (∀ i, 0 ≤ J 49 i ∧ J 49 i ≤ 127) ∧ 0 ≤ J 41 4 ∧ J 41 4 ≤ 90 ∧ 0 ≤ J 41 3 ∧ J 41 3 ≤ 90 ∧ -1 ≤ J 41 5 ∧ J 41 5 ≤ 90
abbrev isDg (J : Nat → Nat → Int) : Prop := J 41 4 < J 41 3 ∧ 48 ≤ J 49 (J 41 4).toNat ∧ J 49 (J 41 4).toNat ≤ 57
abbrev isNx (J : Nat → Nat → Int) (u : Int) : Prop := J 41 4 < J 41 3 ∧ J 49 (J 41 4).toNat = u
def dgV (J : Nat → Nat → Int) : Int := if J 41 4 < J 41 3 then J 49 (J 41 4).toNat - 48 else 0
def rdF (J : Nat → Nat → Int) (u : Int) : Nat → Nat → Int := if J 41 5 = -1 then zup J 41 5 u else J
def rdS (J : Nat → Nat → Int) (u : Int) : Nat → Nat → Int := if isNx J u then zup J 41 4 (J 41 4 + 1) else rdF J (J 41 4)
def drV (J : Nat → Nat → Int) (u : Int) : Int := if isDg J then dgV J else u
def drJ (J : Nat → Nat → Int) (u : Int) : Nat → Nat → Int := if drV J u < u then zup J 41 4 (J 41 4 + 1) else rdF J (J 41 4)
def drR (J : Nat → Nat → Int) (u : Int) : Int := if drV J u < u then drV J u else 0
set_option maxHeartbeats 4000000 in
set_option maxRecDepth 100000 in
theorem k_X1_isDigitNext (lo d : Nat) (J : Nat → Nat → Int) (G : Nat → Nat → Int64) (F : Nat → Nat → Option Nat) (hF : zFk F) (hr : rdOk J F) : zCt lo yX1_isDigitNext cX1_isDigitNext 1 (some .boolean) d 0 0 [.ref (lo + 41)] 57 57 (zM J) G F (zD [.int (zI (if isDg J then 1 else 0))] J G F) := by
  refine zCt.mk (by decide) (mv_X1_isDigitNext.2.2.2.1) (Nat.le_of_ble_eq_true rfl) ?_
  intro p l e s m args below meth c D cA X
  obtain ⟨ht, htx, ha1, ha2, hl1, hl2, he1, he2⟩ := hr
  have htx1 := htx (J 41 4).toNat
  refine zG_aload_n X dX1_isDigitNext_0 rfl ?_
  refine zj_get X dX1_isDigitNext_1 fl_X1_33 (by first | rfl | assumption) (by first | decide | omega) (by decide) rfl ?_
  refine zG_aload_n X dX1_isDigitNext_4 rfl ?_
  refine zj_get X dX1_isDigitNext_5 fl_X1_29 (by first | rfl | assumption) (by first | decide | omega) (by decide) rfl ?_
  refine zj_icmp_ge X dX1_isDigitNext_8 (tgt := 43) (by decide) (by first | decide | omega) (by first | decide | omega) (fun h_8 => ?_) (fun h_8 => ?_)
  · refine zj_iconst X dX1_isDigitNext_43 ?_
    refine zG_zret X dX1_isDigitNext_44 rfl (by first | rfl | assumption) ?_
    first
      | exact zD.of (congrArg (fun z => [Value.int (zI z)]) (if_pos (show isDg J by unfold isDg; omega)).symm) rfl rfl rfl
      | exact zD.of (congrArg (fun z => [Value.int (zI z)]) (if_neg (show ¬ isDg J by unfold isDg; omega)).symm) rfl rfl rfl
  · refine zG_aload_n X dX1_isDigitNext_11 rfl ?_
    refine zG_getR X dX1_isDigitNext_12 fl_X1_19 (by first | rfl | assumption) (by first | decide | omega) (by decide) rfl (by first | exact zF_at hF rfl rfl | assumption) ?_
    refine zG_aload_n X dX1_isDigitNext_15 rfl ?_
    refine zj_get X dX1_isDigitNext_16 fl_X1_33 (by first | rfl | assumption) (by first | decide | omega) (by decide) rfl ?_
    refine zj_baload X dX1_isDigitNext_19 (by first | rfl | assumption) (by first | decide | omega) ((J 41 4).toNat) (by omega) (by omega) ?_
    refine zj_bipush X dX1_isDigitNext_20 (by decide) ?_
    refine zj_icmp_lt X dX1_isDigitNext_22 (tgt := 43) (by decide) (by first | decide | omega) (by first | decide | omega) (fun h_22 => ?_) (fun h_22 => ?_)
    · refine zj_iconst X dX1_isDigitNext_43 ?_
      refine zG_zret X dX1_isDigitNext_44 rfl (by first | rfl | assumption) ?_
      first
        | exact zD.of (congrArg (fun z => [Value.int (zI z)]) (if_pos (show isDg J by unfold isDg; omega)).symm) rfl rfl rfl
        | exact zD.of (congrArg (fun z => [Value.int (zI z)]) (if_neg (show ¬ isDg J by unfold isDg; omega)).symm) rfl rfl rfl
    · refine zG_aload_n X dX1_isDigitNext_25 rfl ?_
      refine zG_getR X dX1_isDigitNext_26 fl_X1_19 (by first | rfl | assumption) (by first | decide | omega) (by decide) rfl (by first | exact zF_at hF rfl rfl | assumption) ?_
      refine zG_aload_n X dX1_isDigitNext_29 rfl ?_
      refine zj_get X dX1_isDigitNext_30 fl_X1_33 (by first | rfl | assumption) (by first | decide | omega) (by decide) rfl ?_
      refine zj_baload X dX1_isDigitNext_33 (by first | rfl | assumption) (by first | decide | omega) ((J 41 4).toNat) (by omega) (by omega) ?_
      refine zj_bipush X dX1_isDigitNext_34 (by decide) ?_
      refine zj_icmp_gt X dX1_isDigitNext_36 (tgt := 43) (by decide) (by first | decide | omega) (by first | decide | omega) (fun h_36 => ?_) (fun h_36 => ?_)
      · refine zj_iconst X dX1_isDigitNext_43 ?_
        refine zG_zret X dX1_isDigitNext_44 rfl (by first | rfl | assumption) ?_
        first
          | exact zD.of (congrArg (fun z => [Value.int (zI z)]) (if_pos (show isDg J by unfold isDg; omega)).symm) rfl rfl rfl
          | exact zD.of (congrArg (fun z => [Value.int (zI z)]) (if_neg (show ¬ isDg J by unfold isDg; omega)).symm) rfl rfl rfl
      · refine zj_iconst X dX1_isDigitNext_39 ?_
        refine zG_goto X dX1_isDigitNext_40 (tgt := 44) (by decide) ?_
        refine zG_zret X dX1_isDigitNext_44 rfl (by first | rfl | assumption) ?_
        first
          | exact zD.of (congrArg (fun z => [Value.int (zI z)]) (if_pos (show isDg J by unfold isDg; omega)).symm) rfl rfl rfl
          | exact zD.of (congrArg (fun z => [Value.int (zI z)]) (if_neg (show ¬ isDg J by unfold isDg; omega)).symm) rfl rfl rfl
set_option maxHeartbeats 4000000 in
set_option maxRecDepth 100000 in
theorem k_X1_digitNext (lo d : Nat) (J : Nat → Nat → Int) (G : Nat → Nat → Int64) (F : Nat → Nat → Option Nat) (hF : zFk F) (hr : rdOk J F) : zCt lo yX1_digitNext cX1_digitNext 1 (some .int) d 0 0 [.ref (lo + 41)] 57 57 (zM J) G F (zD [.int (zI (dgV J))] J G F) := by
  refine zCt.mk (by decide) (mv_X1_digitNext.2.2.2.1) (Nat.le_of_ble_eq_true rfl) ?_
  intro p l e s m args below meth c D cA X
  obtain ⟨ht, htx, ha1, ha2, hl1, hl2, he1, he2⟩ := hr
  have htx1 := htx (J 41 4).toNat
  refine zG_aload_n X dX1_digitNext_0 rfl ?_
  refine zj_get X dX1_digitNext_1 fl_X1_33 (by first | rfl | assumption) (by first | decide | omega) (by decide) rfl ?_
  refine zG_aload_n X dX1_digitNext_4 rfl ?_
  refine zj_get X dX1_digitNext_5 fl_X1_29 (by first | rfl | assumption) (by first | decide | omega) (by decide) rfl ?_
  refine zj_icmp_ge X dX1_digitNext_8 (tgt := 26) (by decide) (by first | decide | omega) (by first | decide | omega) (fun h_8 => ?_) (fun h_8 => ?_)
  · refine zj_iconst X dX1_digitNext_26 ?_
    refine zG_iret X dX1_digitNext_27 rfl ?_
    first
      | exact zD.of (congrArg (fun z => [Value.int (zI z)]) (if_pos (by omega)).symm) rfl rfl rfl
      | exact zD.of (congrArg (fun z => [Value.int (zI z)]) (if_neg (by omega)).symm) rfl rfl rfl
  · refine zG_aload_n X dX1_digitNext_11 rfl ?_
    refine zG_getR X dX1_digitNext_12 fl_X1_19 (by first | rfl | assumption) (by first | decide | omega) (by decide) rfl (by first | exact zF_at hF rfl rfl | assumption) ?_
    refine zG_aload_n X dX1_digitNext_15 rfl ?_
    refine zj_get X dX1_digitNext_16 fl_X1_33 (by first | rfl | assumption) (by first | decide | omega) (by decide) rfl ?_
    refine zj_baload X dX1_digitNext_19 (by first | rfl | assumption) (by first | decide | omega) ((J 41 4).toNat) (by omega) (by omega) ?_
    refine zj_bipush X dX1_digitNext_20 (by decide) ?_
    refine zj_isub X dX1_digitNext_22 ?_
    refine zG_goto X dX1_digitNext_23 (tgt := 27) (by decide) ?_
    refine zG_iret X dX1_digitNext_27 rfl ?_
    first
      | exact zD.of (congrArg (fun z => [Value.int (zI z)]) (if_pos (by omega)).symm) rfl rfl rfl
      | exact zD.of (congrArg (fun z => [Value.int (zI z)]) (if_neg (by omega)).symm) rfl rfl rfl
set_option maxHeartbeats 4000000 in
set_option maxRecDepth 100000 in
theorem k_X1_isNext (lo d : Nat) (J : Nat → Nat → Int) (G : Nat → Nat → Int64) (F : Nat → Nat → Option Nat) (hF : zFk F) (hr : rdOk J F) {u : Int} (hu : zr u) : zCt lo yX1_isNext cX1_isNext 2 (some .boolean) d 0 0 [.ref (lo + 41), .int (zI u)] 57 57 (zM J) G F (zD [.int (zI (if isNx J u then 1 else 0))] J G F) := by
  refine zCt.mk (by decide) (mv_X1_isNext.2.2.2.1) (Nat.le_of_ble_eq_true rfl) ?_
  intro p l e s m args below meth c D cA X
  obtain ⟨ht, htx, ha1, ha2, hl1, hl2, he1, he2⟩ := hr
  have htx1 := htx (J 41 4).toNat
  refine zG_aload_n X dX1_isNext_0 rfl ?_
  refine zj_get X dX1_isNext_1 fl_X1_33 (by first | rfl | assumption) (by first | decide | omega) (by decide) rfl ?_
  refine zG_aload_n X dX1_isNext_4 rfl ?_
  refine zj_get X dX1_isNext_5 fl_X1_29 (by first | rfl | assumption) (by first | decide | omega) (by decide) rfl ?_
  refine zj_icmp_ge X dX1_isNext_8 (tgt := 28) (by decide) (by first | decide | omega) (by first | decide | omega) (fun h_8 => ?_) (fun h_8 => ?_)
  · refine zj_iconst X dX1_isNext_28 ?_
    refine zG_zret X dX1_isNext_29 rfl (by first | rfl | assumption) ?_
    first
      | exact zD.of (congrArg (fun z => [Value.int (zI z)]) (if_pos (show isNx J u by unfold isNx; omega)).symm) rfl rfl rfl
      | exact zD.of (congrArg (fun z => [Value.int (zI z)]) (if_neg (show ¬ isNx J u by unfold isNx; omega)).symm) rfl rfl rfl
  · refine zG_aload_n X dX1_isNext_11 rfl ?_
    refine zG_getR X dX1_isNext_12 fl_X1_19 (by first | rfl | assumption) (by first | decide | omega) (by decide) rfl (by first | exact zF_at hF rfl rfl | assumption) ?_
    refine zG_aload_n X dX1_isNext_15 rfl ?_
    refine zj_get X dX1_isNext_16 fl_X1_33 (by first | rfl | assumption) (by first | decide | omega) (by decide) rfl ?_
    refine zj_baload X dX1_isNext_19 (by first | rfl | assumption) (by first | decide | omega) ((J 41 4).toNat) (by omega) (by omega) ?_
    refine zG_iload_n X dX1_isNext_20 rfl ?_
    refine zj_icmp_ne X dX1_isNext_21 (tgt := 28) (by decide) (by first | decide | omega) (by first | decide | omega) (fun h_21 => ?_) (fun h_21 => ?_)
    · refine zj_iconst X dX1_isNext_28 ?_
      refine zG_zret X dX1_isNext_29 rfl (by first | rfl | assumption) ?_
      first
        | exact zD.of (congrArg (fun z => [Value.int (zI z)]) (if_pos (show isNx J u by unfold isNx; omega)).symm) rfl rfl rfl
        | exact zD.of (congrArg (fun z => [Value.int (zI z)]) (if_neg (show ¬ isNx J u by unfold isNx; omega)).symm) rfl rfl rfl
    · refine zj_iconst X dX1_isNext_24 ?_
      refine zG_goto X dX1_isNext_25 (tgt := 29) (by decide) ?_
      refine zG_zret X dX1_isNext_29 rfl (by first | rfl | assumption) ?_
      first
        | exact zD.of (congrArg (fun z => [Value.int (zI z)]) (if_pos (show isNx J u by unfold isNx; omega)).symm) rfl rfl rfl
        | exact zD.of (congrArg (fun z => [Value.int (zI z)]) (if_neg (show ¬ isNx J u by unfold isNx; omega)).symm) rfl rfl rfl
set_option maxHeartbeats 4000000 in
set_option maxRecDepth 100000 in
theorem k_X1_fail (lo d : Nat) (J : Nat → Nat → Int) (G : Nat → Nat → Int64) (F : Nat → Nat → Option Nat) {u : Int} (he : zr (J 41 5)) : zCt lo yX1_fail cX1_fail 2 none d 0 0 [.ref (lo + 41), .int (zI u)] 57 57 (zM J) G F (zD [] (rdF J u) G F) := by
  refine zCt.mk (by decide) (mv_X1_fail.2.2.2.1) (Nat.le_of_ble_eq_true rfl) ?_
  intro p l e s m args below meth c D cA X
  refine zG_aload_n X dX1_fail_0 rfl ?_
  refine zj_get X dX1_fail_1 fl_X1_36 (by first | rfl | assumption) (by first | decide | omega) (by decide) rfl ?_
  refine zj_iconst X dX1_fail_4 ?_
  refine zj_icmp_ne X dX1_fail_5 (tgt := 13) (by decide) (by first | decide | omega) (by first | decide | omega) (fun h_5 => ?_) (fun h_5 => ?_)
  · refine zG_vret X dX1_fail_13 rfl ?_
    first
      | exact zD.of rfl (if_pos (by omega)).symm rfl rfl
      | exact zD.of rfl (if_neg (by omega)).symm rfl rfl
  · refine zG_aload_n X dX1_fail_8 rfl ?_
    refine zG_iload_n X dX1_fail_9 rfl ?_
    refine zj_put X dX1_fail_10 fl_X1_36 (by first | rfl | assumption) (by first | decide | omega) (by decide) rfl rfl ?_
    refine zG_vret X dX1_fail_13 rfl ?_
    first
      | exact zD.of rfl (if_pos (by omega)).symm rfl rfl
      | exact zD.of rfl (if_neg (by omega)).symm rfl rfl
set_option maxHeartbeats 4000000 in
set_option maxRecDepth 100000 in
theorem k_X1_readSign (lo d : Nat) (hd : 1 ≤ d) (J : Nat → Nat → Int) (G : Nat → Nat → Int64) (F : Nat → Nat → Option Nat) (hF : zFk F) (hr : rdOk J F) {u : Int} (h1 : 0 ≤ u) (h2 : u ≤ 127) : zCt lo yX1_readSign cX1_readSign 2 none d 0 0 [.ref (lo + 41), .int (zI u)] 57 57 (zM J) G F (zD [] (rdS J u) G F) := by
  refine zCt.mk (by decide) (mv_X1_readSign.2.2.2.1) (Nat.le_of_ble_eq_true rfl) ?_
  intro p l e s m args below meth c D cA X
  have hr0 := hr
  obtain ⟨ht, htx, ha1, ha2, hl1, hl2, he1, he2⟩ := hr
  have htx1 := htx (J 41 4).toNat
  refine zG_aload_n X dX1_readSign_0 rfl ?_
  refine zG_iload_n X dX1_readSign_1 rfl ?_
  refine zj_callV1 (as2 := [_]) X (k_X1_isNext lo (d - 1) J G F hF hr0 (u := u) (by unfold zr; omega)) dX1_readSign_2 mv_X1_isNext ml_X1_63 (by first | rfl | assumption) rfl (by first | decide | omega) rfl rfl (by show d - 1 + 1 ≤ d; omega) (by show 19 + 2 + 35 * (d - 1) ≤ 35 * (d); omega) (Nat.le_of_ble_eq_true rfl) (Nat.le_of_ble_eq_true rfl) (Nat.le_of_ble_eq_true rfl) ?_
  by_cases hb : isNx J u
  · rw [if_pos hb]
    refine zj_if_eq X dX1_readSign_5 (tgt := 21) (by decide) (by first | decide | omega) (fun h_5 => ?_) (fun h_5 => ?_)
    · exact absurd h_5 (by first | decide | omega)
    · refine zG_aload_n X dX1_readSign_8 rfl ?_
      refine zG_dup X dX1_readSign_9 rfl ?_
      refine zj_get X dX1_readSign_10 fl_X1_33 (by first | rfl | assumption) (by first | decide | omega) (by decide) rfl ?_
      refine zj_iconst X dX1_readSign_13 ?_
      refine zj_iadd X dX1_readSign_14 ?_
      refine zj_put X dX1_readSign_15 fl_X1_33 (by first | rfl | assumption) (by first | decide | omega) (by decide) rfl rfl ?_
      refine zG_goto X dX1_readSign_18 (tgt := 29) (by decide) ?_
      refine zG_vret X dX1_readSign_29 rfl ?_
      first
        | exact zD.of rfl (if_pos hb).symm rfl rfl
        | exact zD.of rfl (if_neg hb).symm rfl rfl
  · rw [if_neg hb]
    refine zj_if_eq X dX1_readSign_5 (tgt := 21) (by decide) (by first | decide | omega) (fun h_5 => ?_) (fun h_5 => ?_)
    · refine zG_aload_n X dX1_readSign_21 rfl ?_
      refine zG_aload_n X dX1_readSign_22 rfl ?_
      refine zj_get X dX1_readSign_23 fl_X1_33 (by first | rfl | assumption) (by first | decide | omega) (by decide) rfl ?_
      refine zj_callV0 (as2 := [_]) X (k_X1_fail lo (d - 1) J G F (by unfold zr; omega)) dX1_readSign_26 mv_X1_fail ml_X1_46 (by first | rfl | assumption) rfl (by first | decide | omega) rfl rfl (by show d - 1 + 1 ≤ d; omega) (by show 19 + 2 + 35 * (d - 1) ≤ 35 * (d); omega) (Nat.le_of_ble_eq_true rfl) (Nat.le_of_ble_eq_true rfl) (Nat.le_of_ble_eq_true rfl) ?_
      refine zG_vret X dX1_readSign_29 rfl ?_
      first
        | exact zD.of rfl (if_pos hb).symm rfl rfl
        | exact zD.of rfl (if_neg hb).symm rfl rfl
    · exact absurd h_5 (by first | decide | omega)
set_option maxHeartbeats 4000000 in
set_option maxRecDepth 100000 in
theorem k_X1_readDriver (lo d : Nat) (hd : 1 ≤ d) (J : Nat → Nat → Int) (G : Nat → Nat → Int64) (F : Nat → Nat → Option Nat) (hF : zFk F) (hr : rdOk J F) {u : Int} (h1 : 0 ≤ u) (h2 : u ≤ 5) : zCt lo yX1_readDriver cX1_readDriver 3 (some .int) d 0 0 [.ref (lo + 41), .int (zI u)] 57 57 (zM J) G F (zD [.int (zI (drR J u))] (drJ J u) G F) := by
  refine zCt.mk (by decide) (mv_X1_readDriver.2.2.2.1) (Nat.le_of_ble_eq_true rfl) ?_
  intro p l e s m args below meth c D cA X
  have hr0 := hr
  obtain ⟨ht, htx, ha1, ha2, hl1, hl2, he1, he2⟩ := hr
  have htx1 := htx (J 41 4).toNat
  refine zG_aload_n X dX1_readDriver_0 rfl ?_
  refine zj_callV1 (as2 := []) X (k_X1_isDigitNext lo (d - 1) J G F hF hr0) dX1_readDriver_1 mv_X1_isDigitNext ml_X1_81 (by first | rfl | assumption) rfl (by first | decide | omega) rfl rfl (by show d - 1 + 1 ≤ d; omega) (by show 19 + 1 + 35 * (d - 1) ≤ 35 * (d); omega) (Nat.le_of_ble_eq_true rfl) (Nat.le_of_ble_eq_true rfl) (Nat.le_of_ble_eq_true rfl) ?_
  by_cases hb : isDg J
  · rw [if_pos hb]
    have hv : drV J u = dgV J := if_pos hb
    have hdv : dgV J = J 49 (J 41 4).toNat - 48 := if_pos hb.1
    refine zj_if_eq X dX1_readDriver_4 (tgt := 14) (by decide) (by first | decide | omega) (fun h_4 => ?_) (fun h_4 => ?_)
    · exact absurd h_4 (by first | decide | omega)
    · refine zG_aload_n X dX1_readDriver_7 rfl ?_
      refine zj_callV1 (as2 := []) X (k_X1_digitNext lo (d - 1) J G F hF hr0) dX1_readDriver_8 mv_X1_digitNext ml_X1_85 (by first | rfl | assumption) rfl (by first | decide | omega) rfl rfl (by show d - 1 + 1 ≤ d; omega) (by show 19 + 1 + 35 * (d - 1) ≤ 35 * (d); omega) (Nat.le_of_ble_eq_true rfl) (Nat.le_of_ble_eq_true rfl) (Nat.le_of_ble_eq_true rfl) ?_
      refine zG_goto X dX1_readDriver_11 (tgt := 15) (by decide) ?_
      refine zG_istore_n X dX1_readDriver_15 (by decide) rfl ?_
      refine zG_iload_n X dX1_readDriver_16 rfl ?_
      refine zG_iload_n X dX1_readDriver_17 rfl ?_
      refine zj_icmp_lt X dX1_readDriver_18 (tgt := 31) (by decide) (by first | decide | omega) (by first | decide | omega) (fun h_18 => ?_) (fun h_18 => ?_)
      · refine zG_aload_n X dX1_readDriver_31 rfl ?_
        refine zG_dup X dX1_readDriver_32 rfl ?_
        refine zj_get X dX1_readDriver_33 fl_X1_33 (by first | rfl | assumption) (by first | decide | omega) (by decide) rfl ?_
        refine zj_iconst X dX1_readDriver_36 ?_
        refine zj_iadd X dX1_readDriver_37 ?_
        refine zj_put X dX1_readDriver_38 fl_X1_33 (by first | rfl | assumption) (by first | decide | omega) (by decide) rfl rfl ?_
        refine zG_iload_n X dX1_readDriver_41 rfl ?_
        refine zG_iret X dX1_readDriver_42 rfl ?_
        first
          | exact zD.of (congrArg (fun z => [Value.int (zI z)]) (((if_pos (by omega)).trans hv).symm)) (if_pos (by omega)).symm rfl rfl
          | exact zD.of (congrArg (fun z => [Value.int (zI z)]) (if_neg (by omega)).symm) (if_neg (by omega)).symm rfl rfl
      · refine zG_aload_n X dX1_readDriver_21 rfl ?_
        refine zG_aload_n X dX1_readDriver_22 rfl ?_
        refine zj_get X dX1_readDriver_23 fl_X1_33 (by first | rfl | assumption) (by first | decide | omega) (by decide) rfl ?_
        refine zj_callV0 (as2 := [_]) X (k_X1_fail lo (d - 1) J G F (by unfold zr; omega)) dX1_readDriver_26 mv_X1_fail ml_X1_46 (by first | rfl | assumption) rfl (by first | decide | omega) rfl rfl (by show d - 1 + 1 ≤ d; omega) (by show 19 + 2 + 35 * (d - 1) ≤ 35 * (d); omega) (Nat.le_of_ble_eq_true rfl) (Nat.le_of_ble_eq_true rfl) (Nat.le_of_ble_eq_true rfl) ?_
        refine zj_iconst X dX1_readDriver_29 ?_
        refine zG_iret X dX1_readDriver_30 rfl ?_
        first
          | exact zD.of (congrArg (fun z => [Value.int (zI z)]) (((if_pos (by omega)).trans hv).symm)) (if_pos (by omega)).symm rfl rfl
          | exact zD.of (congrArg (fun z => [Value.int (zI z)]) (if_neg (by omega)).symm) (if_neg (by omega)).symm rfl rfl
  · rw [if_neg hb]
    have hv : drV J u = u := if_neg hb
    refine zj_if_eq X dX1_readDriver_4 (tgt := 14) (by decide) (by first | decide | omega) (fun h_4 => ?_) (fun h_4 => ?_)
    · refine zG_iload_n X dX1_readDriver_14 rfl ?_
      refine zG_istore_n X dX1_readDriver_15 (by decide) rfl ?_
      refine zG_iload_n X dX1_readDriver_16 rfl ?_
      refine zG_iload_n X dX1_readDriver_17 rfl ?_
      refine zj_icmp_lt X dX1_readDriver_18 (tgt := 31) (by decide) (by first | decide | omega) (by first | decide | omega) (fun h_18 => ?_) (fun h_18 => ?_)
      · refine zG_aload_n X dX1_readDriver_31 rfl ?_
        refine zG_dup X dX1_readDriver_32 rfl ?_
        refine zj_get X dX1_readDriver_33 fl_X1_33 (by first | rfl | assumption) (by first | decide | omega) (by decide) rfl ?_
        refine zj_iconst X dX1_readDriver_36 ?_
        refine zj_iadd X dX1_readDriver_37 ?_
        refine zj_put X dX1_readDriver_38 fl_X1_33 (by first | rfl | assumption) (by first | decide | omega) (by decide) rfl rfl ?_
        refine zG_iload_n X dX1_readDriver_41 rfl ?_
        refine zG_iret X dX1_readDriver_42 rfl ?_
        first
          | exact zD.of (congrArg (fun z => [Value.int (zI z)]) (((if_pos (by omega)).trans hv).symm)) (if_pos (by omega)).symm rfl rfl
          | exact zD.of (congrArg (fun z => [Value.int (zI z)]) (if_neg (by omega)).symm) (if_neg (by omega)).symm rfl rfl
      · refine zG_aload_n X dX1_readDriver_21 rfl ?_
        refine zG_aload_n X dX1_readDriver_22 rfl ?_
        refine zj_get X dX1_readDriver_23 fl_X1_33 (by first | rfl | assumption) (by first | decide | omega) (by decide) rfl ?_
        refine zj_callV0 (as2 := [_]) X (k_X1_fail lo (d - 1) J G F (by unfold zr; omega)) dX1_readDriver_26 mv_X1_fail ml_X1_46 (by first | rfl | assumption) rfl (by first | decide | omega) rfl rfl (by show d - 1 + 1 ≤ d; omega) (by show 19 + 2 + 35 * (d - 1) ≤ 35 * (d); omega) (Nat.le_of_ble_eq_true rfl) (Nat.le_of_ble_eq_true rfl) (Nat.le_of_ble_eq_true rfl) ?_
        refine zj_iconst X dX1_readDriver_29 ?_
        refine zG_iret X dX1_readDriver_30 rfl ?_
        first
          | exact zD.of (congrArg (fun z => [Value.int (zI z)]) (((if_pos (by omega)).trans hv).symm)) (if_pos (by omega)).symm rfl rfl
          | exact zD.of (congrArg (fun z => [Value.int (zI z)]) (if_neg (by omega)).symm) (if_neg (by omega)).symm rfl rfl
    · exact absurd h_4 (by first | decide | omega)
