set_option maxHeartbeats 4000000 in
set_option maxRecDepth 100000 in
theorem k_X4_clearSkip (lo d : Nat) (hd : 6 ≤ d) (J : Nat → Nat → Int) (G : Nat → Nat → Int64) (F : Nat → Nat → Option Nat) (hF : zFk F) (hc : cOk J 1) {b : Nat → Nat} (hb : bOk F b) (hs1 : 0 ≤ J 0 2) (hs2 : J 0 2 ≤ 4) {u : Int} (hu : zr u) : zCtX lo yX4_clearSkip cX4_clearSkip 4 (some .int) d 1 6 [.ref (lo + 0), .int (zI u)] (zM J) G F (zPI (if ¬ (0 ≤ u ∧ u < J 1 1) then 1 else 0) (fV (if J (3 + u.toNat) 3 = -1 then 0 else 1) J G F b (fun J => zup (zup (zup J (3 + u.toNat) 3 (-1)) (3 + u.toNat) 4 (-1)) (3 + u.toNat) 5 0) (fun G => G))) (zPX (if ¬ (0 ≤ u ∧ u < J 1 1) then 1 else 0) "java/lang/IndexOutOfBoundsException" "java/lang/IndexOutOfBoundsException" (zM J) G F) := by
  refine zCtX.mk (by decide) (mv_X4_clearSkip.2.2.2.1) (Nat.le_of_ble_eq_true rfl) ?_
  intro p l e s m args below meth c D cA X Y hx
  have hcf := cOk_f hc
  unfold zr at *
  refine zG_aload_n X dX4_clearSkip_0 rfl ?_
  refine zG_getR X dX4_clearSkip_1 fl_X4_10 (by first | rfl | assumption) (by first | decide | omega) (by decide) rfl (by first | exact zF_at hF rfl rfl | exact zF_at hF1 rfl rfl | assumption) ?_
  refine zG_iload_n X dX4_clearSkip_4 rfl ?_
  refine zj_callV1 (as2 := [_]) X (k_X0_has lo (d - 1) J G F (k := u) (by unfold zr; omega) (by unfold zr; omega)) dX4_clearSkip_5 mv_X0_has ml_X4_85 (by first | rfl | assumption) rfl (by first | decide | omega) rfl rfl (by show d - 1 + 1 ≤ d; omega) (by show 19 + 2 + 35 * (d - 1) ≤ 35 * (d); omega) (Nat.le_of_ble_eq_true rfl) (Nat.le_of_ble_eq_true rfl) (Nat.le_of_ble_eq_true rfl) ?_
  by_cases hb0 : 0 ≤ u ∧ u < J 1 1
  · rw [if_pos hb0]
    have hku : u.toNat < 5 := by omega
    have hw1 := cOk_w1 hc hku
    have hsw := zSh_w hku
    have hnw : 3 + u.toNat < 57 := by omega
    refine zj_if_ne X dX4_clearSkip_8 (tgt := 21) (by decide) (by first | decide | omega) (fun h_8 => ?_) (fun h_8 => ?_)
    · refine zG_aload_n X dX4_clearSkip_21 rfl ?_
      refine zG_callV (as2 := []) rfl X (k_X4_save lo (d - 1) (by omega) J G F hF hb hs1 hs2) dX4_clearSkip_22 mv_X4_save ml_X4_59 (by first | rfl | assumption) rfl (by first | decide | omega) rfl (by show d - 1 + 1 ≤ d; omega) (by show 19 + 1 + 35 * (d - 1) ≤ 35 * (d); omega) (Nat.le_of_ble_eq_true rfl) (Nat.le_of_ble_eq_true rfl) (Nat.le_of_ble_eq_true rfl) ?_
      rintro v9 I3 G1 F1 ⟨rfl, J1, b1, rfl, hF1, hb1, h41, hsv⟩
      have hq := hsv.2.2.2.1
      have hqg := hsv.2.2.2.2
      have hfw := zF_w1 hF1 hku
      have hqw : ∀ i, J1 (3 + u.toNat) i = J (3 + u.toNat) i := fun i => hq _ i (by omega) (Or.inl (by omega))
      refine zG_aload_n X dX4_clearSkip_25 rfl ?_
      refine zG_getR X dX4_clearSkip_26 fl_X4_10 (by first | rfl | assumption) (by first | decide | omega) (by decide) rfl (by first | exact zF_at hF rfl rfl | exact zF_at hF1 rfl rfl | assumption) ?_
      refine zG_getR X dX4_clearSkip_29 fl_X4_62 (by first | rfl | assumption) (by first | decide | omega) (by decide) rfl (by first | exact zF_at hF rfl rfl | exact zF_at hF1 rfl rfl | assumption) ?_
      refine zG_iload_n X dX4_clearSkip_32 rfl ?_
      refine zj_aaload5 X dX4_clearSkip_33 (by first | rfl | assumption) (by first | decide | omega) (u.toNat) (by omega) (by omega) (hfw) ?_
      refine zG_astore_n X dX4_clearSkip_34 (by decide) rfl ?_
      refine zG_aload_n X dX4_clearSkip_35 rfl ?_
      refine zj_callV1 (as2 := []) X (k_X3_hasSkip lo (d - 1) J1 G1 F1 hsw hnw (by rw [hqw]; unfold zr; omega)) dX4_clearSkip_36 mv_X3_hasSkip ml_X4_100 (by first | rfl | assumption) rfl (by first | decide | omega) rfl rfl (by show d - 1 + 1 ≤ d; omega) (by show 19 + 1 + 35 * (d - 1) ≤ 35 * (d); omega) (Nat.le_of_ble_eq_true rfl) (Nat.le_of_ble_eq_true rfl) (Nat.le_of_ble_eq_true rfl) ?_
      by_cases hb2 : J1 (3 + u.toNat) 3 = -1
      · rw [if_pos hb2]
        refine zj_if_eq X dX4_clearSkip_39 (tgt := 46) (by decide) (by first | decide | omega) (fun h_39 => ?_) (fun h_39 => ?_)
        · refine zj_iconst X dX4_clearSkip_46 ?_
          refine zG_istore_n X dX4_clearSkip_47 (by decide) rfl ?_
          refine zG_aload_n X dX4_clearSkip_48 rfl ?_
          refine zj_callV0 (as2 := []) X (k_X3_skipNever lo (d - 1) (by omega) J1 G1 F1 hsw hnw) dX4_clearSkip_49 mv_X3_skipNever ml_X4_108 (by first | rfl | assumption) rfl (by first | decide | omega) rfl rfl (by show d - 1 + 1 ≤ d; omega) (by show 19 + 1 + 35 * (d - 1) ≤ 35 * (d); omega) (Nat.le_of_ble_eq_true rfl) (Nat.le_of_ble_eq_true rfl) (Nat.le_of_ble_eq_true rfl) ?_
          refine zG_iload_n X dX4_clearSkip_52 rfl ?_
          refine zG_iretX X dX4_clearSkip_53 rfl (Nat.le_of_ble_eq_true rfl) (Nat.le_of_ble_eq_true rfl) ?_
          exact ⟨if_neg (by omega), _, _, rfl, rfl, (by rw [← hqw]; first | exact (if_pos hb2).symm | exact (if_neg hb2).symm), J1, G1, b1, rfl, rfl, hF1, hb1, h41, hsv⟩
        · exact absurd h_39 (by first | decide | omega)
      · rw [if_neg hb2]
        refine zj_if_eq X dX4_clearSkip_39 (tgt := 46) (by decide) (by first | decide | omega) (fun h_39 => ?_) (fun h_39 => ?_)
        · exact absurd h_39 (by first | decide | omega)
        · refine zj_iconst X dX4_clearSkip_42 ?_
          refine zG_goto X dX4_clearSkip_43 (tgt := 47) (by decide) ?_
          refine zG_istore_n X dX4_clearSkip_47 (by decide) rfl ?_
          refine zG_aload_n X dX4_clearSkip_48 rfl ?_
          refine zj_callV0 (as2 := []) X (k_X3_skipNever lo (d - 1) (by omega) J1 G1 F1 hsw hnw) dX4_clearSkip_49 mv_X3_skipNever ml_X4_108 (by first | rfl | assumption) rfl (by first | decide | omega) rfl rfl (by show d - 1 + 1 ≤ d; omega) (by show 19 + 1 + 35 * (d - 1) ≤ 35 * (d); omega) (Nat.le_of_ble_eq_true rfl) (Nat.le_of_ble_eq_true rfl) (Nat.le_of_ble_eq_true rfl) ?_
          refine zG_iload_n X dX4_clearSkip_52 rfl ?_
          refine zG_iretX X dX4_clearSkip_53 rfl (Nat.le_of_ble_eq_true rfl) (Nat.le_of_ble_eq_true rfl) ?_
          exact ⟨if_neg (by omega), _, _, rfl, rfl, (by rw [← hqw]; first | exact (if_pos hb2).symm | exact (if_neg hb2).symm), J1, G1, b1, rfl, rfl, hF1, hb1, h41, hsv⟩
    · exact absurd h_8 (by first | decide | omega)
  · rw [if_neg hb0]
    refine zj_if_ne X dX4_clearSkip_8 (tgt := 21) (by decide) (by first | decide | omega) (fun h_8 => ?_) (fun h_8 => ?_)
    · exact absurd h_8 (by first | decide | omega)
    · exact zG_throwS X Y hx rfl xE_i (by decide) dX4_clearSkip_11 dX4_clearSkip_14 dX4_clearSkip_15 dX4_clearSkip_17 dX4_clearSkip_20 (by show 6 ≤ d; omega) (by show 0 + 82 ≤ 35 * d; omega) (Nat.le_of_ble_eq_true rfl) (Nat.le_of_ble_eq_true rfl) (Nat.le_of_ble_eq_true rfl) (Nat.le_of_ble_eq_true rfl) (⟨Or.inl ⟨if_pos (by omega), rfl⟩, rfl, rfl, rfl⟩)
set_option maxHeartbeats 4000000 in
set_option maxRecDepth 100000 in
theorem k_X4_setMoon (lo d : Nat) (hd : 6 ≤ d) (J : Nat → Nat → Int) (G : Nat → Nat → Int64) (F : Nat → Nat → Option Nat) (hF : zFk F) (hc : cOk J 1) {b : Nat → Nat} (hb : bOk F b) (hs1 : 0 ≤ J 0 2) (hs2 : J 0 2 ≤ 4) {u v : Int} (hu : zr u) (hv : zr v) : zCtX lo yX4_setMoon cX4_setMoon 4 (some .int) d 1 6 [.ref (lo + 0), .int (zI u), .int (zI v)] (zM J) G F (zPI (if ¬ (0 ≤ u ∧ u < J 1 1) then 1 else if ¬ (0 ≤ v ∧ v < 720) then 2 else 0) (fV (J 1 3) J G F b (fun J => zup (zup J 1 3 u) 1 4 v) (fun G => G))) (zPX (if ¬ (0 ≤ u ∧ u < J 1 1) then 1 else if ¬ (0 ≤ v ∧ v < 720) then 2 else 0) "java/lang/IndexOutOfBoundsException" "java/lang/IllegalArgumentException" (zM J) G F) := by
  refine zCtX.mk (by decide) (mv_X4_setMoon.2.2.2.1) (Nat.le_of_ble_eq_true rfl) ?_
  intro p l e s m args below meth c D cA X Y hx
  have hcf := cOk_f hc
  unfold zr at *
  refine zG_aload_n X dX4_setMoon_0 rfl ?_
  refine zG_getR X dX4_setMoon_1 fl_X4_10 (by first | rfl | assumption) (by first | decide | omega) (by decide) rfl (by first | exact zF_at hF rfl rfl | exact zF_at hF1 rfl rfl | assumption) ?_
  refine zG_iload_n X dX4_setMoon_4 rfl ?_
  refine zj_callV1 (as2 := [_]) X (k_X0_has lo (d - 1) J G F (k := u) (by unfold zr; omega) (by unfold zr; omega)) dX4_setMoon_5 mv_X0_has ml_X4_85 (by first | rfl | assumption) rfl (by first | decide | omega) rfl rfl (by show d - 1 + 1 ≤ d; omega) (by show 19 + 2 + 35 * (d - 1) ≤ 35 * (d); omega) (Nat.le_of_ble_eq_true rfl) (Nat.le_of_ble_eq_true rfl) (Nat.le_of_ble_eq_true rfl) ?_
  by_cases hb0 : 0 ≤ u ∧ u < J 1 1
  · rw [if_pos hb0]
    have hku : u.toNat < 5 := by omega
    have hw1 := cOk_w1 hc hku
    have hsw := zSh_w hku
    have hnw : 3 + u.toNat < 57 := by omega
    refine zj_if_ne X dX4_setMoon_8 (tgt := 21) (by decide) (by first | decide | omega) (fun h_8 => ?_) (fun h_8 => ?_)
    · refine zG_iload_n X dX4_setMoon_21 rfl ?_
      refine zj_if_lt X dX4_setMoon_22 (tgt := 32) (by decide) (by first | decide | omega) (fun h_22 => ?_) (fun h_22 => ?_)
      · exact zG_throwS X Y hx rfl xE_a (by decide) dX4_setMoon_32 dX4_setMoon_35 dX4_setMoon_36 dX4_setMoon_38 dX4_setMoon_41 (by show 6 ≤ d; omega) (by show 0 + 82 ≤ 35 * d; omega) (Nat.le_of_ble_eq_true rfl) (Nat.le_of_ble_eq_true rfl) (Nat.le_of_ble_eq_true rfl) (Nat.le_of_ble_eq_true rfl) (⟨Or.inr ⟨(if_neg (by omega)).trans (if_pos (by omega)), rfl⟩, rfl, rfl, rfl⟩)
      · refine zG_iload_n X dX4_setMoon_25 rfl ?_
        refine zj_sipush X dX4_setMoon_26 (by decide) ?_
        refine zj_icmp_lt X dX4_setMoon_29 (tgt := 42) (by decide) (by first | decide | omega) (by first | decide | omega) (fun h_29 => ?_) (fun h_29 => ?_)
        · refine zG_aload_n X dX4_setMoon_42 rfl ?_
          refine zG_callV (as2 := []) rfl X (k_X4_save lo (d - 1) (by omega) J G F hF hb hs1 hs2) dX4_setMoon_43 mv_X4_save ml_X4_59 (by first | rfl | assumption) rfl (by first | decide | omega) rfl (by show d - 1 + 1 ≤ d; omega) (by show 19 + 1 + 35 * (d - 1) ≤ 35 * (d); omega) (Nat.le_of_ble_eq_true rfl) (Nat.le_of_ble_eq_true rfl) (Nat.le_of_ble_eq_true rfl) ?_
          rintro v9 I3 G1 F1 ⟨rfl, J1, b1, rfl, hF1, hb1, h41, hsv⟩
          have hq := hsv.2.2.2.1
          have hqg := hsv.2.2.2.2
          refine zG_aload_n X dX4_setMoon_46 rfl ?_
          refine zG_getR X dX4_setMoon_47 fl_X4_10 (by first | rfl | assumption) (by first | decide | omega) (by decide) rfl (by first | exact zF_at hF rfl rfl | exact zF_at hF1 rfl rfl | assumption) ?_
          refine zj_getv (v := J 1 3) X dX4_setMoon_50 fl_X4_121 (by first | rfl | assumption) (by first | decide | omega) (by decide) rfl (by exact hq 1 3 (by decide) (Or.inl (by decide))) ?_
          refine zG_istore_n X dX4_setMoon_53 (by decide) rfl ?_
          refine zG_aload_n X dX4_setMoon_54 rfl ?_
          refine zG_getR X dX4_setMoon_55 fl_X4_10 (by first | rfl | assumption) (by first | decide | omega) (by decide) rfl (by first | exact zF_at hF rfl rfl | exact zF_at hF1 rfl rfl | assumption) ?_
          refine zG_iload_n X dX4_setMoon_58 rfl ?_
          refine zj_put X dX4_setMoon_59 fl_X4_121 (by first | rfl | assumption) (by first | decide | omega) (by decide) rfl rfl ?_
          refine zG_aload_n X dX4_setMoon_62 rfl ?_
          refine zG_getR X dX4_setMoon_63 fl_X4_10 (by first | rfl | assumption) (by first | decide | omega) (by decide) rfl (by first | exact zF_at hF rfl rfl | exact zF_at hF1 rfl rfl | assumption) ?_
          refine zG_iload_n X dX4_setMoon_66 rfl ?_
          refine zj_put X dX4_setMoon_67 fl_X4_124 (by first | rfl | assumption) (by first | decide | omega) (by decide) rfl rfl ?_
          refine zG_iload_n X dX4_setMoon_70 rfl ?_
          refine zG_iretX X dX4_setMoon_71 rfl (Nat.le_of_ble_eq_true rfl) (Nat.le_of_ble_eq_true rfl) ?_
          exact ⟨(if_neg (by omega)).trans (if_neg (by omega)), _, _, rfl, rfl, rfl, J1, G1, b1, rfl, rfl, hF1, hb1, h41, hsv⟩
        · exact zG_throwS X Y hx rfl xE_a (by decide) dX4_setMoon_32 dX4_setMoon_35 dX4_setMoon_36 dX4_setMoon_38 dX4_setMoon_41 (by show 6 ≤ d; omega) (by show 0 + 82 ≤ 35 * d; omega) (Nat.le_of_ble_eq_true rfl) (Nat.le_of_ble_eq_true rfl) (Nat.le_of_ble_eq_true rfl) (Nat.le_of_ble_eq_true rfl) (⟨Or.inr ⟨(if_neg (by omega)).trans (if_pos (by omega)), rfl⟩, rfl, rfl, rfl⟩)
    · exact absurd h_8 (by first | decide | omega)
  · rw [if_neg hb0]
    refine zj_if_ne X dX4_setMoon_8 (tgt := 21) (by decide) (by first | decide | omega) (fun h_8 => ?_) (fun h_8 => ?_)
    · exact absurd h_8 (by first | decide | omega)
    · exact zG_throwS X Y hx rfl xE_i (by decide) dX4_setMoon_11 dX4_setMoon_14 dX4_setMoon_15 dX4_setMoon_17 dX4_setMoon_20 (by show 6 ≤ d; omega) (by show 0 + 82 ≤ 35 * d; omega) (Nat.le_of_ble_eq_true rfl) (Nat.le_of_ble_eq_true rfl) (Nat.le_of_ble_eq_true rfl) (Nat.le_of_ble_eq_true rfl) (⟨Or.inl ⟨if_pos (by omega), rfl⟩, rfl, rfl, rfl⟩)
set_option maxHeartbeats 4000000 in
set_option maxRecDepth 100000 in
theorem k_X4_setMarket (lo d : Nat) (hd : 6 ≤ d) (J : Nat → Nat → Int) (G : Nat → Nat → Int64) (F : Nat → Nat → Option Nat) (hF : zFk F) (hc : cOk J 1) {b : Nat → Nat} (hb : bOk F b) (hs1 : 0 ≤ J 0 2) (hs2 : J 0 2 ≤ 4) {u v w2 z : Int} (hu : zr u) (hv : zr v) (hw2 : zr w2) (hz : zr z) : zCtX lo yX4_setMarket cX4_setMarket 6 (some .int) d 1 6 [.ref (lo + 0), .int (zI u), .int (zI v), .int (zI w2), .int (zI z)] (zM J) G F (zPI (if ¬ (0 ≤ u ∧ u < J 1 1) then 1 else if ¬ (0 ≤ v ∧ v ≤ 1439 ∧ 1 ≤ w2 ∧ w2 ≤ 600 ∧ 0 ≤ z ∧ z ≤ 5) then 2 else 0) (fV (J 1 5) J G F b (fun J => zup (zup (zup (zup J 1 5 u) 1 6 v) 1 7 w2) 1 8 z) (fun G => zup G 1 9 0))) (zPX (if ¬ (0 ≤ u ∧ u < J 1 1) then 1 else if ¬ (0 ≤ v ∧ v ≤ 1439 ∧ 1 ≤ w2 ∧ w2 ≤ 600 ∧ 0 ≤ z ∧ z ≤ 5) then 2 else 0) "java/lang/IndexOutOfBoundsException" "java/lang/IllegalArgumentException" (zM J) G F) := by
  refine zCtX.mk (by decide) (mv_X4_setMarket.2.2.2.1) (Nat.le_of_ble_eq_true rfl) ?_
  intro p l e s m args below meth c D cA X Y hx
  have hcf := cOk_f hc
  unfold zr at *
  refine zG_aload_n X dX4_setMarket_0 rfl ?_
  refine zG_getR X dX4_setMarket_1 fl_X4_10 (by first | rfl | assumption) (by first | decide | omega) (by decide) rfl (by first | exact zF_at hF rfl rfl | exact zF_at hF1 rfl rfl | assumption) ?_
  refine zG_iload_n X dX4_setMarket_4 rfl ?_
  refine zj_callV1 (as2 := [_]) X (k_X0_has lo (d - 1) J G F (k := u) (by unfold zr; omega) (by unfold zr; omega)) dX4_setMarket_5 mv_X0_has ml_X4_85 (by first | rfl | assumption) rfl (by first | decide | omega) rfl rfl (by show d - 1 + 1 ≤ d; omega) (by show 19 + 2 + 35 * (d - 1) ≤ 35 * (d); omega) (Nat.le_of_ble_eq_true rfl) (Nat.le_of_ble_eq_true rfl) (Nat.le_of_ble_eq_true rfl) ?_
  by_cases hb0 : 0 ≤ u ∧ u < J 1 1
  · rw [if_pos hb0]
    have hku : u.toNat < 5 := by omega
    have hw1 := cOk_w1 hc hku
    have hsw := zSh_w hku
    have hnw : 3 + u.toNat < 57 := by omega
    refine zj_if_ne X dX4_setMarket_8 (tgt := 21) (by decide) (by first | decide | omega) (fun h_8 => ?_) (fun h_8 => ?_)
    · refine zG_iload_n X dX4_setMarket_21 rfl ?_
      refine zj_if_lt X dX4_setMarket_22 (tgt := 55) (by decide) (by first | decide | omega) (fun h_22 => ?_) (fun h_22 => ?_)
      · exact zG_throwS X Y hx rfl xE_a (by decide) dX4_setMarket_55 dX4_setMarket_58 dX4_setMarket_59 dX4_setMarket_61 dX4_setMarket_64 (by show 6 ≤ d; omega) (by show 0 + 82 ≤ 35 * d; omega) (Nat.le_of_ble_eq_true rfl) (Nat.le_of_ble_eq_true rfl) (Nat.le_of_ble_eq_true rfl) (Nat.le_of_ble_eq_true rfl) (⟨Or.inr ⟨(if_neg (by omega)).trans (if_pos (by omega)), rfl⟩, rfl, rfl, rfl⟩)
      · refine zG_iload_n X dX4_setMarket_25 rfl ?_
        refine zj_sipush X dX4_setMarket_26 (by decide) ?_
        refine zj_icmp_gt X dX4_setMarket_29 (tgt := 55) (by decide) (by first | decide | omega) (by first | decide | omega) (fun h_29 => ?_) (fun h_29 => ?_)
        · exact zG_throwS X Y hx rfl xE_a (by decide) dX4_setMarket_55 dX4_setMarket_58 dX4_setMarket_59 dX4_setMarket_61 dX4_setMarket_64 (by show 6 ≤ d; omega) (by show 0 + 82 ≤ 35 * d; omega) (Nat.le_of_ble_eq_true rfl) (Nat.le_of_ble_eq_true rfl) (Nat.le_of_ble_eq_true rfl) (Nat.le_of_ble_eq_true rfl) (⟨Or.inr ⟨(if_neg (by omega)).trans (if_pos (by omega)), rfl⟩, rfl, rfl, rfl⟩)
        · refine zG_iload_n X dX4_setMarket_32 rfl ?_
          refine zj_iconst X dX4_setMarket_33 ?_
          refine zj_icmp_lt X dX4_setMarket_34 (tgt := 55) (by decide) (by first | decide | omega) (by first | decide | omega) (fun h_34 => ?_) (fun h_34 => ?_)
          · exact zG_throwS X Y hx rfl xE_a (by decide) dX4_setMarket_55 dX4_setMarket_58 dX4_setMarket_59 dX4_setMarket_61 dX4_setMarket_64 (by show 6 ≤ d; omega) (by show 0 + 82 ≤ 35 * d; omega) (Nat.le_of_ble_eq_true rfl) (Nat.le_of_ble_eq_true rfl) (Nat.le_of_ble_eq_true rfl) (Nat.le_of_ble_eq_true rfl) (⟨Or.inr ⟨(if_neg (by omega)).trans (if_pos (by omega)), rfl⟩, rfl, rfl, rfl⟩)
          · refine zG_iload_n X dX4_setMarket_37 rfl ?_
            refine zj_sipush X dX4_setMarket_38 (by decide) ?_
            refine zj_icmp_gt X dX4_setMarket_41 (tgt := 55) (by decide) (by first | decide | omega) (by first | decide | omega) (fun h_41 => ?_) (fun h_41 => ?_)
            · exact zG_throwS X Y hx rfl xE_a (by decide) dX4_setMarket_55 dX4_setMarket_58 dX4_setMarket_59 dX4_setMarket_61 dX4_setMarket_64 (by show 6 ≤ d; omega) (by show 0 + 82 ≤ 35 * d; omega) (Nat.le_of_ble_eq_true rfl) (Nat.le_of_ble_eq_true rfl) (Nat.le_of_ble_eq_true rfl) (Nat.le_of_ble_eq_true rfl) (⟨Or.inr ⟨(if_neg (by omega)).trans (if_pos (by omega)), rfl⟩, rfl, rfl, rfl⟩)
            · refine zG_iload X dX4_setMarket_44 rfl ?_
              refine zj_if_lt X dX4_setMarket_46 (tgt := 55) (by decide) (by first | decide | omega) (fun h_46 => ?_) (fun h_46 => ?_)
              · exact zG_throwS X Y hx rfl xE_a (by decide) dX4_setMarket_55 dX4_setMarket_58 dX4_setMarket_59 dX4_setMarket_61 dX4_setMarket_64 (by show 6 ≤ d; omega) (by show 0 + 82 ≤ 35 * d; omega) (Nat.le_of_ble_eq_true rfl) (Nat.le_of_ble_eq_true rfl) (Nat.le_of_ble_eq_true rfl) (Nat.le_of_ble_eq_true rfl) (⟨Or.inr ⟨(if_neg (by omega)).trans (if_pos (by omega)), rfl⟩, rfl, rfl, rfl⟩)
              · refine zG_iload X dX4_setMarket_49 rfl ?_
                refine zj_iconst X dX4_setMarket_51 ?_
                refine zj_icmp_le X dX4_setMarket_52 (tgt := 65) (by decide) (by first | decide | omega) (by first | decide | omega) (fun h_52 => ?_) (fun h_52 => ?_)
                · refine zG_aload_n X dX4_setMarket_65 rfl ?_
                  refine zG_callV (as2 := []) rfl X (k_X4_save lo (d - 1) (by omega) J G F hF hb hs1 hs2) dX4_setMarket_66 mv_X4_save ml_X4_59 (by first | rfl | assumption) rfl (by first | decide | omega) rfl (by show d - 1 + 1 ≤ d; omega) (by show 19 + 1 + 35 * (d - 1) ≤ 35 * (d); omega) (Nat.le_of_ble_eq_true rfl) (Nat.le_of_ble_eq_true rfl) (Nat.le_of_ble_eq_true rfl) ?_
                  rintro v9 I3 G1 F1 ⟨rfl, J1, b1, rfl, hF1, hb1, h41, hsv⟩
                  have hq := hsv.2.2.2.1
                  have hqg := hsv.2.2.2.2
                  refine zG_aload_n X dX4_setMarket_69 rfl ?_
                  refine zG_getR X dX4_setMarket_70 fl_X4_10 (by first | rfl | assumption) (by first | decide | omega) (by decide) rfl (by first | exact zF_at hF rfl rfl | exact zF_at hF1 rfl rfl | assumption) ?_
                  refine zj_getv (v := J 1 5) X dX4_setMarket_73 fl_X4_129 (by first | rfl | assumption) (by first | decide | omega) (by decide) rfl (by exact hq 1 5 (by decide) (Or.inl (by decide))) ?_
                  refine zG_istore X dX4_setMarket_76 (by decide) rfl ?_
                  refine zG_aload_n X dX4_setMarket_78 rfl ?_
                  refine zG_getR X dX4_setMarket_79 fl_X4_10 (by first | rfl | assumption) (by first | decide | omega) (by decide) rfl (by first | exact zF_at hF rfl rfl | exact zF_at hF1 rfl rfl | assumption) ?_
                  refine zG_iload_n X dX4_setMarket_82 rfl ?_
                  refine zj_put X dX4_setMarket_83 fl_X4_129 (by first | rfl | assumption) (by first | decide | omega) (by decide) rfl rfl ?_
                  refine zG_aload_n X dX4_setMarket_86 rfl ?_
                  refine zG_getR X dX4_setMarket_87 fl_X4_10 (by first | rfl | assumption) (by first | decide | omega) (by decide) rfl (by first | exact zF_at hF rfl rfl | exact zF_at hF1 rfl rfl | assumption) ?_
                  refine zG_iload_n X dX4_setMarket_90 rfl ?_
                  refine zj_put X dX4_setMarket_91 fl_X4_132 (by first | rfl | assumption) (by first | decide | omega) (by decide) rfl rfl ?_
                  refine zG_aload_n X dX4_setMarket_94 rfl ?_
                  refine zG_getR X dX4_setMarket_95 fl_X4_10 (by first | rfl | assumption) (by first | decide | omega) (by decide) rfl (by first | exact zF_at hF rfl rfl | exact zF_at hF1 rfl rfl | assumption) ?_
                  refine zG_iload_n X dX4_setMarket_98 rfl ?_
                  refine zj_put X dX4_setMarket_99 fl_X4_135 (by first | rfl | assumption) (by first | decide | omega) (by decide) rfl rfl ?_
                  refine zG_aload_n X dX4_setMarket_102 rfl ?_
                  refine zG_getR X dX4_setMarket_103 fl_X4_10 (by first | rfl | assumption) (by first | decide | omega) (by decide) rfl (by first | exact zF_at hF rfl rfl | exact zF_at hF1 rfl rfl | assumption) ?_
                  refine zG_iload X dX4_setMarket_106 rfl ?_
                  refine zj_put X dX4_setMarket_108 fl_X4_138 (by first | rfl | assumption) (by first | decide | omega) (by decide) rfl rfl ?_
                  refine zG_aload_n X dX4_setMarket_111 rfl ?_
                  refine zG_getR X dX4_setMarket_112 fl_X4_10 (by first | rfl | assumption) (by first | decide | omega) (by decide) rfl (by first | exact zF_at hF rfl rfl | exact zF_at hF1 rfl rfl | assumption) ?_
                  refine zj_lconst0 X dX4_setMarket_115 ?_
                  refine zG_putL X dX4_setMarket_116 fl_X4_141 (by first | rfl | assumption) (by first | decide | omega) (by decide) rfl rfl rfl rfl ?_
                  refine zG_iload X dX4_setMarket_119 rfl ?_
                  refine zG_iretX X dX4_setMarket_121 rfl (Nat.le_of_ble_eq_true rfl) (Nat.le_of_ble_eq_true rfl) ?_
                  exact ⟨(if_neg (by omega)).trans (if_neg (by omega)), _, _, rfl, rfl, rfl, J1, G1, b1, rfl, rfl, hF1, hb1, h41, hsv⟩
                · exact zG_throwS X Y hx rfl xE_a (by decide) dX4_setMarket_55 dX4_setMarket_58 dX4_setMarket_59 dX4_setMarket_61 dX4_setMarket_64 (by show 6 ≤ d; omega) (by show 0 + 82 ≤ 35 * d; omega) (Nat.le_of_ble_eq_true rfl) (Nat.le_of_ble_eq_true rfl) (Nat.le_of_ble_eq_true rfl) (Nat.le_of_ble_eq_true rfl) (⟨Or.inr ⟨(if_neg (by omega)).trans (if_pos (by omega)), rfl⟩, rfl, rfl, rfl⟩)
    · exact absurd h_8 (by first | decide | omega)
  · rw [if_neg hb0]
    refine zj_if_ne X dX4_setMarket_8 (tgt := 21) (by decide) (by first | decide | omega) (fun h_8 => ?_) (fun h_8 => ?_)
    · exact absurd h_8 (by first | decide | omega)
    · exact zG_throwS X Y hx rfl xE_i (by decide) dX4_setMarket_11 dX4_setMarket_14 dX4_setMarket_15 dX4_setMarket_17 dX4_setMarket_20 (by show 6 ≤ d; omega) (by show 0 + 82 ≤ 35 * d; omega) (Nat.le_of_ble_eq_true rfl) (Nat.le_of_ble_eq_true rfl) (Nat.le_of_ble_eq_true rfl) (Nat.le_of_ble_eq_true rfl) (⟨Or.inl ⟨if_pos (by omega), rfl⟩, rfl, rfl, rfl⟩)
set_option maxHeartbeats 4000000 in
set_option maxRecDepth 100000 in
theorem k_X4_setWheel (lo d : Nat) (hd : 6 ≤ d) (J : Nat → Nat → Int) (G : Nat → Nat → Int64) (F : Nat → Nat → Option Nat) (hF : zFk F) (hc : cOk J 1) {b : Nat → Nat} (hb : bOk F b) (hs1 : 0 ≤ J 0 2) (hs2 : J 0 2 ≤ 4) {u v w2 : Int} (hu : zr u) (hv : zr v) (hw2 : zr w2) : zCtX lo yX4_setWheel cX4_setWheel 6 (some .int) d 1 6 [.ref (lo + 0), .int (zI u), .int (zI v), .int (zI w2)] (zM J) G F (zPI (if ¬ (0 ≤ u ∧ u < J 1 1) then 1 else if ¬ (0 ≤ v ∧ v < J (3 + u.toNat) 0 ∧ 0 ≤ w2 ∧ w2 < J (3 + u.toNat) 0) then 2 else 0) (fV (J (3 + u.toNat) 1) J G F b (fun J => zup (zup J (3 + u.toNat) 1 v) (3 + u.toNat) 2 w2) (fun G => G))) (zPX (if ¬ (0 ≤ u ∧ u < J 1 1) then 1 else if ¬ (0 ≤ v ∧ v < J (3 + u.toNat) 0 ∧ 0 ≤ w2 ∧ w2 < J (3 + u.toNat) 0) then 2 else 0) "java/lang/IndexOutOfBoundsException" "java/lang/IllegalArgumentException" (zM J) G F) := by
  refine zCtX.mk (by decide) (mv_X4_setWheel.2.2.2.1) (Nat.le_of_ble_eq_true rfl) ?_
  intro p l e s m args below meth c D cA X Y hx
  have hcf := cOk_f hc
  unfold zr at *
  refine zG_aload_n X dX4_setWheel_0 rfl ?_
  refine zG_getR X dX4_setWheel_1 fl_X4_10 (by first | rfl | assumption) (by first | decide | omega) (by decide) rfl (by first | exact zF_at hF rfl rfl | exact zF_at hF1 rfl rfl | assumption) ?_
  refine zG_iload_n X dX4_setWheel_4 rfl ?_
  refine zj_callV1 (as2 := [_]) X (k_X0_has lo (d - 1) J G F (k := u) (by unfold zr; omega) (by unfold zr; omega)) dX4_setWheel_5 mv_X0_has ml_X4_85 (by first | rfl | assumption) rfl (by first | decide | omega) rfl rfl (by show d - 1 + 1 ≤ d; omega) (by show 19 + 2 + 35 * (d - 1) ≤ 35 * (d); omega) (Nat.le_of_ble_eq_true rfl) (Nat.le_of_ble_eq_true rfl) (Nat.le_of_ble_eq_true rfl) ?_
  by_cases hb0 : 0 ≤ u ∧ u < J 1 1
  · rw [if_pos hb0]
    have hku : u.toNat < 5 := by omega
    have hw1 := cOk_w1 hc hku
    have hsw := zSh_w hku
    have hnw : 3 + u.toNat < 57 := by omega
    refine zj_if_ne X dX4_setWheel_8 (tgt := 21) (by decide) (by first | decide | omega) (fun h_8 => ?_) (fun h_8 => ?_)
    · refine zG_aload_n X dX4_setWheel_21 rfl ?_
      refine zG_getR X dX4_setWheel_22 fl_X4_10 (by first | rfl | assumption) (by first | decide | omega) (by decide) rfl (by first | exact zF_at hF rfl rfl | exact zF_at hF1 rfl rfl | assumption) ?_
      refine zG_iload_n X dX4_setWheel_25 rfl ?_
      refine zG_iload_n X dX4_setWheel_26 rfl ?_
      refine zj_callV1 (as2 := [_, _]) X (k_X0_hasTooth lo (d - 1) (by omega) J G F hF (k := u) (t := v) (by unfold zr; omega) (by unfold zr; omega) hc) dX4_setWheel_27 mv_X0_hasTooth ml_X4_94 (by first | rfl | assumption) rfl (by first | decide | omega) rfl rfl (by show d - 1 + 1 ≤ d; omega) (by show 19 + 3 + 35 * (d - 1) ≤ 35 * (d); omega) (Nat.le_of_ble_eq_true rfl) (Nat.le_of_ble_eq_true rfl) (Nat.le_of_ble_eq_true rfl) ?_
      by_cases hb2 : (0 ≤ u ∧ u < J 1 1) ∧ 0 ≤ v ∧ v < J (3 + (u).toNat) 0
      · rw [if_pos hb2]
        refine zj_if_eq X dX4_setWheel_30 (tgt := 45) (by decide) (by first | decide | omega) (fun h_30 => ?_) (fun h_30 => ?_)
        · exact absurd h_30 (by first | decide | omega)
        · refine zG_aload_n X dX4_setWheel_33 rfl ?_
          refine zG_getR X dX4_setWheel_34 fl_X4_10 (by first | rfl | assumption) (by first | decide | omega) (by decide) rfl (by first | exact zF_at hF rfl rfl | exact zF_at hF1 rfl rfl | assumption) ?_
          refine zG_iload_n X dX4_setWheel_37 rfl ?_
          refine zG_iload_n X dX4_setWheel_38 rfl ?_
          refine zj_callV1 (as2 := [_, _]) X (k_X0_hasTooth lo (d - 1) (by omega) J G F hF (k := u) (t := w2) (by unfold zr; omega) (by unfold zr; omega) hc) dX4_setWheel_39 mv_X0_hasTooth ml_X4_94 (by first | rfl | assumption) rfl (by first | decide | omega) rfl rfl (by show d - 1 + 1 ≤ d; omega) (by show 19 + 3 + 35 * (d - 1) ≤ 35 * (d); omega) (Nat.le_of_ble_eq_true rfl) (Nat.le_of_ble_eq_true rfl) (Nat.le_of_ble_eq_true rfl) ?_
          by_cases hb3 : (0 ≤ u ∧ u < J 1 1) ∧ 0 ≤ w2 ∧ w2 < J (3 + (u).toNat) 0
          · rw [if_pos hb3]
            refine zj_if_ne X dX4_setWheel_42 (tgt := 55) (by decide) (by first | decide | omega) (fun h_42 => ?_) (fun h_42 => ?_)
            · refine zG_aload_n X dX4_setWheel_55 rfl ?_
              refine zG_callV (as2 := []) rfl X (k_X4_save lo (d - 1) (by omega) J G F hF hb hs1 hs2) dX4_setWheel_56 mv_X4_save ml_X4_59 (by first | rfl | assumption) rfl (by first | decide | omega) rfl (by show d - 1 + 1 ≤ d; omega) (by show 19 + 1 + 35 * (d - 1) ≤ 35 * (d); omega) (Nat.le_of_ble_eq_true rfl) (Nat.le_of_ble_eq_true rfl) (Nat.le_of_ble_eq_true rfl) ?_
              rintro v9 I3 G1 F1 ⟨rfl, J1, b1, rfl, hF1, hb1, h41, hsv⟩
              have hq := hsv.2.2.2.1
              have hqg := hsv.2.2.2.2
              have hfw := zF_w1 hF1 hku
              have hqw : ∀ i, J1 (3 + u.toNat) i = J (3 + u.toNat) i := fun i => hq _ i (by omega) (Or.inl (by omega))
              refine zG_aload_n X dX4_setWheel_59 rfl ?_
              refine zG_getR X dX4_setWheel_60 fl_X4_10 (by first | rfl | assumption) (by first | decide | omega) (by decide) rfl (by first | exact zF_at hF rfl rfl | exact zF_at hF1 rfl rfl | assumption) ?_
              refine zG_getR X dX4_setWheel_63 fl_X4_62 (by first | rfl | assumption) (by first | decide | omega) (by decide) rfl (by first | exact zF_at hF rfl rfl | exact zF_at hF1 rfl rfl | assumption) ?_
              refine zG_iload_n X dX4_setWheel_66 rfl ?_
              refine zj_aaload5 X dX4_setWheel_67 (by first | rfl | assumption) (by first | decide | omega) (u.toNat) (by omega) (by omega) (hfw) ?_
              refine zG_astore X dX4_setWheel_68 (by decide) rfl ?_
              refine zG_aload X dX4_setWheel_70 rfl ?_
              refine zj_getv (v := J (3 + u.toNat) 1) X dX4_setWheel_72 fl_X4_113 (by first | rfl | assumption) (by first | decide | omega) (by decide) rfl (by exact hqw 1) ?_
              refine zG_istore X dX4_setWheel_75 (by decide) rfl ?_
              refine zG_aload X dX4_setWheel_77 rfl ?_
              refine zG_iload_n X dX4_setWheel_79 rfl ?_
              refine zj_put X dX4_setWheel_80 fl_X4_113 (by first | rfl | assumption) (by first | decide | omega) (by decide) rfl rfl ?_
              refine zG_aload X dX4_setWheel_83 rfl ?_
              refine zG_iload_n X dX4_setWheel_85 rfl ?_
              refine zj_put X dX4_setWheel_86 fl_X4_116 (by first | rfl | assumption) (by first | decide | omega) (by decide) rfl rfl ?_
              refine zG_iload X dX4_setWheel_89 rfl ?_
              refine zG_iretX X dX4_setWheel_91 rfl (Nat.le_of_ble_eq_true rfl) (Nat.le_of_ble_eq_true rfl) ?_
              exact ⟨(if_neg (by omega)).trans (if_neg (by omega)), _, _, rfl, rfl, rfl, J1, G1, b1, rfl, rfl, hF1, hb1, h41, hsv⟩
            · exact absurd h_42 (by first | decide | omega)
          · rw [if_neg hb3]
            refine zj_if_ne X dX4_setWheel_42 (tgt := 55) (by decide) (by first | decide | omega) (fun h_42 => ?_) (fun h_42 => ?_)
            · exact absurd h_42 (by first | decide | omega)
            · exact zG_throwS X Y hx rfl xE_a (by decide) dX4_setWheel_45 dX4_setWheel_48 dX4_setWheel_49 dX4_setWheel_51 dX4_setWheel_54 (by show 6 ≤ d; omega) (by show 0 + 82 ≤ 35 * d; omega) (Nat.le_of_ble_eq_true rfl) (Nat.le_of_ble_eq_true rfl) (Nat.le_of_ble_eq_true rfl) (Nat.le_of_ble_eq_true rfl) (⟨Or.inr ⟨(if_neg (by omega)).trans (if_pos (by omega)), rfl⟩, rfl, rfl, rfl⟩)
      · rw [if_neg hb2]
        refine zj_if_eq X dX4_setWheel_30 (tgt := 45) (by decide) (by first | decide | omega) (fun h_30 => ?_) (fun h_30 => ?_)
        · exact zG_throwS X Y hx rfl xE_a (by decide) dX4_setWheel_45 dX4_setWheel_48 dX4_setWheel_49 dX4_setWheel_51 dX4_setWheel_54 (by show 6 ≤ d; omega) (by show 0 + 82 ≤ 35 * d; omega) (Nat.le_of_ble_eq_true rfl) (Nat.le_of_ble_eq_true rfl) (Nat.le_of_ble_eq_true rfl) (Nat.le_of_ble_eq_true rfl) (⟨Or.inr ⟨(if_neg (by omega)).trans (if_pos (by omega)), rfl⟩, rfl, rfl, rfl⟩)
        · exact absurd h_30 (by first | decide | omega)
    · exact absurd h_8 (by first | decide | omega)
  · rw [if_neg hb0]
    refine zj_if_ne X dX4_setWheel_8 (tgt := 21) (by decide) (by first | decide | omega) (fun h_8 => ?_) (fun h_8 => ?_)
    · exact absurd h_8 (by first | decide | omega)
    · exact zG_throwS X Y hx rfl xE_i (by decide) dX4_setWheel_11 dX4_setWheel_14 dX4_setWheel_15 dX4_setWheel_17 dX4_setWheel_20 (by show 6 ≤ d; omega) (by show 0 + 82 ≤ 35 * d; omega) (Nat.le_of_ble_eq_true rfl) (Nat.le_of_ble_eq_true rfl) (Nat.le_of_ble_eq_true rfl) (Nat.le_of_ble_eq_true rfl) (⟨Or.inl ⟨if_pos (by omega), rfl⟩, rfl, rfl, rfl⟩)
set_option maxHeartbeats 4000000 in
set_option maxRecDepth 100000 in
theorem k_X4_setSkip (lo d : Nat) (hd : 6 ≤ d) (J : Nat → Nat → Int) (G : Nat → Nat → Int64) (F : Nat → Nat → Option Nat) (hF : zFk F) (hc : cOk J 1) {b : Nat → Nat} (hb : bOk F b) (hs1 : 0 ≤ J 0 2) (hs2 : J 0 2 ≤ 4) {u v w2 z : Int} (hu : zr u) (hv : zr v) (hw2 : zr w2) (hz : zr z) : zCtX lo yX4_setSkip cX4_setSkip 7 (some .int) d 1 6 [.ref (lo + 0), .int (zI u), .int (zI v), .int (zI w2), .int (zI z)] (zM J) G F (zPI (if ¬ (0 ≤ u ∧ u < J 1 1) then 1 else if ¬ (0 ≤ v ∧ v < u ∧ (0 ≤ w2 ∧ w2 < J (3 + v.toNat) 0) ∧ (z = -1 ∨ z = 1)) then 2 else 0) (fV (if J (3 + u.toNat) 3 = -1 then 0 else 1) J G F b (fun J => zup (zup (zup J (3 + u.toNat) 3 v) (3 + u.toNat) 4 w2) (3 + u.toNat) 5 z) (fun G => G))) (zPX (if ¬ (0 ≤ u ∧ u < J 1 1) then 1 else if ¬ (0 ≤ v ∧ v < u ∧ (0 ≤ w2 ∧ w2 < J (3 + v.toNat) 0) ∧ (z = -1 ∨ z = 1)) then 2 else 0) "java/lang/IndexOutOfBoundsException" "java/lang/IllegalArgumentException" (zM J) G F) := by
  refine zCtX.mk (by decide) (mv_X4_setSkip.2.2.2.1) (Nat.le_of_ble_eq_true rfl) ?_
  intro p l e s m args below meth c D cA X Y hx
  have hcf := cOk_f hc
  unfold zr at *
  refine zG_aload_n X dX4_setSkip_0 rfl ?_
  refine zG_getR X dX4_setSkip_1 fl_X4_10 (by first | rfl | assumption) (by first | decide | omega) (by decide) rfl (by first | exact zF_at hF rfl rfl | exact zF_at hF1 rfl rfl | assumption) ?_
  refine zG_iload_n X dX4_setSkip_4 rfl ?_
  refine zj_callV1 (as2 := [_]) X (k_X0_has lo (d - 1) J G F (k := u) (by unfold zr; omega) (by unfold zr; omega)) dX4_setSkip_5 mv_X0_has ml_X4_85 (by first | rfl | assumption) rfl (by first | decide | omega) rfl rfl (by show d - 1 + 1 ≤ d; omega) (by show 19 + 2 + 35 * (d - 1) ≤ 35 * (d); omega) (Nat.le_of_ble_eq_true rfl) (Nat.le_of_ble_eq_true rfl) (Nat.le_of_ble_eq_true rfl) ?_
  by_cases hb0 : 0 ≤ u ∧ u < J 1 1
  · rw [if_pos hb0]
    have hku : u.toNat < 5 := by omega
    have hw1 := cOk_w1 hc hku
    have hsw := zSh_w hku
    have hnw : 3 + u.toNat < 57 := by omega
    refine zj_if_ne X dX4_setSkip_8 (tgt := 21) (by decide) (by first | decide | omega) (fun h_8 => ?_) (fun h_8 => ?_)
    · refine zG_iload_n X dX4_setSkip_21 rfl ?_
      refine zj_if_lt X dX4_setSkip_22 (tgt := 54) (by decide) (by first | decide | omega) (fun h_22 => ?_) (fun h_22 => ?_)
      · exact zG_throwS X Y hx rfl xE_a (by decide) dX4_setSkip_54 dX4_setSkip_57 dX4_setSkip_58 dX4_setSkip_60 dX4_setSkip_63 (by show 6 ≤ d; omega) (by show 0 + 82 ≤ 35 * d; omega) (Nat.le_of_ble_eq_true rfl) (Nat.le_of_ble_eq_true rfl) (Nat.le_of_ble_eq_true rfl) (Nat.le_of_ble_eq_true rfl) (⟨Or.inr ⟨(if_neg (by omega)).trans (if_pos (by omega)), rfl⟩, rfl, rfl, rfl⟩)
      · refine zG_iload_n X dX4_setSkip_25 rfl ?_
        refine zG_iload_n X dX4_setSkip_26 rfl ?_
        refine zj_icmp_ge X dX4_setSkip_27 (tgt := 54) (by decide) (by first | decide | omega) (by first | decide | omega) (fun h_27 => ?_) (fun h_27 => ?_)
        · exact zG_throwS X Y hx rfl xE_a (by decide) dX4_setSkip_54 dX4_setSkip_57 dX4_setSkip_58 dX4_setSkip_60 dX4_setSkip_63 (by show 6 ≤ d; omega) (by show 0 + 82 ≤ 35 * d; omega) (Nat.le_of_ble_eq_true rfl) (Nat.le_of_ble_eq_true rfl) (Nat.le_of_ble_eq_true rfl) (Nat.le_of_ble_eq_true rfl) (⟨Or.inr ⟨(if_neg (by omega)).trans (if_pos (by omega)), rfl⟩, rfl, rfl, rfl⟩)
        · refine zG_aload_n X dX4_setSkip_30 rfl ?_
          refine zG_getR X dX4_setSkip_31 fl_X4_10 (by first | rfl | assumption) (by first | decide | omega) (by decide) rfl (by first | exact zF_at hF rfl rfl | exact zF_at hF1 rfl rfl | assumption) ?_
          refine zG_iload_n X dX4_setSkip_34 rfl ?_
          refine zG_iload_n X dX4_setSkip_35 rfl ?_
          refine zj_callV1 (as2 := [_, _]) X (k_X0_hasTooth lo (d - 1) (by omega) J G F hF (k := v) (t := w2) (by unfold zr; omega) (by unfold zr; omega) hc) dX4_setSkip_36 mv_X0_hasTooth ml_X4_94 (by first | rfl | assumption) rfl (by first | decide | omega) rfl rfl (by show d - 1 + 1 ≤ d; omega) (by show 19 + 3 + 35 * (d - 1) ≤ 35 * (d); omega) (Nat.le_of_ble_eq_true rfl) (Nat.le_of_ble_eq_true rfl) (Nat.le_of_ble_eq_true rfl) ?_
          by_cases hb3 : (0 ≤ v ∧ v < J 1 1) ∧ 0 ≤ w2 ∧ w2 < J (3 + (v).toNat) 0
          · rw [if_pos hb3]
            refine zj_if_eq X dX4_setSkip_39 (tgt := 54) (by decide) (by first | decide | omega) (fun h_39 => ?_) (fun h_39 => ?_)
            · exact absurd h_39 (by first | decide | omega)
            · refine zG_iload X dX4_setSkip_42 rfl ?_
              refine zj_iconst X dX4_setSkip_44 ?_
              refine zj_icmp_eq X dX4_setSkip_45 (tgt := 64) (by decide) (by first | decide | omega) (by first | decide | omega) (fun h_45 => ?_) (fun h_45 => ?_)
              · refine zG_aload_n X dX4_setSkip_64 rfl ?_
                refine zG_callV (as2 := []) rfl X (k_X4_save lo (d - 1) (by omega) J G F hF hb hs1 hs2) dX4_setSkip_65 mv_X4_save ml_X4_59 (by first | rfl | assumption) rfl (by first | decide | omega) rfl (by show d - 1 + 1 ≤ d; omega) (by show 19 + 1 + 35 * (d - 1) ≤ 35 * (d); omega) (Nat.le_of_ble_eq_true rfl) (Nat.le_of_ble_eq_true rfl) (Nat.le_of_ble_eq_true rfl) ?_
                rintro v9 I3 G1 F1 ⟨rfl, J1, b1, rfl, hF1, hb1, h41, hsv⟩
                have hq := hsv.2.2.2.1
                have hqg := hsv.2.2.2.2
                have hfw := zF_w1 hF1 hku
                have hqw : ∀ i, J1 (3 + u.toNat) i = J (3 + u.toNat) i := fun i => hq _ i (by omega) (Or.inl (by omega))
                refine zG_aload_n X dX4_setSkip_68 rfl ?_
                refine zG_getR X dX4_setSkip_69 fl_X4_10 (by first | rfl | assumption) (by first | decide | omega) (by decide) rfl (by first | exact zF_at hF rfl rfl | exact zF_at hF1 rfl rfl | assumption) ?_
                refine zG_getR X dX4_setSkip_72 fl_X4_62 (by first | rfl | assumption) (by first | decide | omega) (by decide) rfl (by first | exact zF_at hF rfl rfl | exact zF_at hF1 rfl rfl | assumption) ?_
                refine zG_iload_n X dX4_setSkip_75 rfl ?_
                refine zj_aaload5 X dX4_setSkip_76 (by first | rfl | assumption) (by first | decide | omega) (u.toNat) (by omega) (by omega) (hfw) ?_
                refine zG_astore X dX4_setSkip_77 (by decide) rfl ?_
                refine zG_aload X dX4_setSkip_79 rfl ?_
                refine zj_callV1 (as2 := []) X (k_X3_hasSkip lo (d - 1) J1 G1 F1 hsw hnw (by rw [hqw]; unfold zr; omega)) dX4_setSkip_81 mv_X3_hasSkip ml_X4_100 (by first | rfl | assumption) rfl (by first | decide | omega) rfl rfl (by show d - 1 + 1 ≤ d; omega) (by show 19 + 1 + 35 * (d - 1) ≤ 35 * (d); omega) (Nat.le_of_ble_eq_true rfl) (Nat.le_of_ble_eq_true rfl) (Nat.le_of_ble_eq_true rfl) ?_
                by_cases hb2 : J1 (3 + u.toNat) 3 = -1
                · rw [if_pos hb2]
                  refine zj_if_eq X dX4_setSkip_84 (tgt := 91) (by decide) (by first | decide | omega) (fun h_84 => ?_) (fun h_84 => ?_)
                  · refine zj_iconst X dX4_setSkip_91 ?_
                    refine zG_istore X dX4_setSkip_92 (by decide) rfl ?_
                    refine zG_aload X dX4_setSkip_94 rfl ?_
                    refine zG_iload_n X dX4_setSkip_96 rfl ?_
                    refine zG_iload_n X dX4_setSkip_97 rfl ?_
                    refine zG_iload X dX4_setSkip_98 rfl ?_
                    refine zj_callV0 (as2 := [_, _, _]) X (k_X3_skipAt lo (d - 1) J1 G1 F1 hsw hnw) dX4_setSkip_100 mv_X3_skipAt ml_X4_104 (by first | rfl | assumption) rfl (by first | decide | omega) rfl rfl (by show d - 1 + 1 ≤ d; omega) (by show 19 + 4 + 35 * (d - 1) ≤ 35 * (d); omega) (Nat.le_of_ble_eq_true rfl) (Nat.le_of_ble_eq_true rfl) (Nat.le_of_ble_eq_true rfl) ?_
                    refine zG_iload X dX4_setSkip_103 rfl ?_
                    refine zG_iretX X dX4_setSkip_105 rfl (Nat.le_of_ble_eq_true rfl) (Nat.le_of_ble_eq_true rfl) ?_
                    exact ⟨(if_neg (by omega)).trans (if_neg (by omega)), _, _, rfl, rfl, (by rw [← hqw]; first | exact (if_pos hb2).symm | exact (if_neg hb2).symm), J1, G1, b1, rfl, rfl, hF1, hb1, h41, hsv⟩
                  · exact absurd h_84 (by first | decide | omega)
                · rw [if_neg hb2]
                  refine zj_if_eq X dX4_setSkip_84 (tgt := 91) (by decide) (by first | decide | omega) (fun h_84 => ?_) (fun h_84 => ?_)
                  · exact absurd h_84 (by first | decide | omega)
                  · refine zj_iconst X dX4_setSkip_87 ?_
                    refine zG_goto X dX4_setSkip_88 (tgt := 92) (by decide) ?_
                    refine zG_istore X dX4_setSkip_92 (by decide) rfl ?_
                    refine zG_aload X dX4_setSkip_94 rfl ?_
                    refine zG_iload_n X dX4_setSkip_96 rfl ?_
                    refine zG_iload_n X dX4_setSkip_97 rfl ?_
                    refine zG_iload X dX4_setSkip_98 rfl ?_
                    refine zj_callV0 (as2 := [_, _, _]) X (k_X3_skipAt lo (d - 1) J1 G1 F1 hsw hnw) dX4_setSkip_100 mv_X3_skipAt ml_X4_104 (by first | rfl | assumption) rfl (by first | decide | omega) rfl rfl (by show d - 1 + 1 ≤ d; omega) (by show 19 + 4 + 35 * (d - 1) ≤ 35 * (d); omega) (Nat.le_of_ble_eq_true rfl) (Nat.le_of_ble_eq_true rfl) (Nat.le_of_ble_eq_true rfl) ?_
                    refine zG_iload X dX4_setSkip_103 rfl ?_
                    refine zG_iretX X dX4_setSkip_105 rfl (Nat.le_of_ble_eq_true rfl) (Nat.le_of_ble_eq_true rfl) ?_
                    exact ⟨(if_neg (by omega)).trans (if_neg (by omega)), _, _, rfl, rfl, (by rw [← hqw]; first | exact (if_pos hb2).symm | exact (if_neg hb2).symm), J1, G1, b1, rfl, rfl, hF1, hb1, h41, hsv⟩
              · refine zG_iload X dX4_setSkip_48 rfl ?_
                refine zj_iconst X dX4_setSkip_50 ?_
                refine zj_icmp_eq X dX4_setSkip_51 (tgt := 64) (by decide) (by first | decide | omega) (by first | decide | omega) (fun h_51 => ?_) (fun h_51 => ?_)
                · refine zG_aload_n X dX4_setSkip_64 rfl ?_
                  refine zG_callV (as2 := []) rfl X (k_X4_save lo (d - 1) (by omega) J G F hF hb hs1 hs2) dX4_setSkip_65 mv_X4_save ml_X4_59 (by first | rfl | assumption) rfl (by first | decide | omega) rfl (by show d - 1 + 1 ≤ d; omega) (by show 19 + 1 + 35 * (d - 1) ≤ 35 * (d); omega) (Nat.le_of_ble_eq_true rfl) (Nat.le_of_ble_eq_true rfl) (Nat.le_of_ble_eq_true rfl) ?_
                  rintro v9 I3 G1 F1 ⟨rfl, J1, b1, rfl, hF1, hb1, h41, hsv⟩
                  have hq := hsv.2.2.2.1
                  have hqg := hsv.2.2.2.2
                  have hfw := zF_w1 hF1 hku
                  have hqw : ∀ i, J1 (3 + u.toNat) i = J (3 + u.toNat) i := fun i => hq _ i (by omega) (Or.inl (by omega))
                  refine zG_aload_n X dX4_setSkip_68 rfl ?_
                  refine zG_getR X dX4_setSkip_69 fl_X4_10 (by first | rfl | assumption) (by first | decide | omega) (by decide) rfl (by first | exact zF_at hF rfl rfl | exact zF_at hF1 rfl rfl | assumption) ?_
                  refine zG_getR X dX4_setSkip_72 fl_X4_62 (by first | rfl | assumption) (by first | decide | omega) (by decide) rfl (by first | exact zF_at hF rfl rfl | exact zF_at hF1 rfl rfl | assumption) ?_
                  refine zG_iload_n X dX4_setSkip_75 rfl ?_
                  refine zj_aaload5 X dX4_setSkip_76 (by first | rfl | assumption) (by first | decide | omega) (u.toNat) (by omega) (by omega) (hfw) ?_
                  refine zG_astore X dX4_setSkip_77 (by decide) rfl ?_
                  refine zG_aload X dX4_setSkip_79 rfl ?_
                  refine zj_callV1 (as2 := []) X (k_X3_hasSkip lo (d - 1) J1 G1 F1 hsw hnw (by rw [hqw]; unfold zr; omega)) dX4_setSkip_81 mv_X3_hasSkip ml_X4_100 (by first | rfl | assumption) rfl (by first | decide | omega) rfl rfl (by show d - 1 + 1 ≤ d; omega) (by show 19 + 1 + 35 * (d - 1) ≤ 35 * (d); omega) (Nat.le_of_ble_eq_true rfl) (Nat.le_of_ble_eq_true rfl) (Nat.le_of_ble_eq_true rfl) ?_
                  by_cases hb2 : J1 (3 + u.toNat) 3 = -1
                  · rw [if_pos hb2]
                    refine zj_if_eq X dX4_setSkip_84 (tgt := 91) (by decide) (by first | decide | omega) (fun h_84 => ?_) (fun h_84 => ?_)
                    · refine zj_iconst X dX4_setSkip_91 ?_
                      refine zG_istore X dX4_setSkip_92 (by decide) rfl ?_
                      refine zG_aload X dX4_setSkip_94 rfl ?_
                      refine zG_iload_n X dX4_setSkip_96 rfl ?_
                      refine zG_iload_n X dX4_setSkip_97 rfl ?_
                      refine zG_iload X dX4_setSkip_98 rfl ?_
                      refine zj_callV0 (as2 := [_, _, _]) X (k_X3_skipAt lo (d - 1) J1 G1 F1 hsw hnw) dX4_setSkip_100 mv_X3_skipAt ml_X4_104 (by first | rfl | assumption) rfl (by first | decide | omega) rfl rfl (by show d - 1 + 1 ≤ d; omega) (by show 19 + 4 + 35 * (d - 1) ≤ 35 * (d); omega) (Nat.le_of_ble_eq_true rfl) (Nat.le_of_ble_eq_true rfl) (Nat.le_of_ble_eq_true rfl) ?_
                      refine zG_iload X dX4_setSkip_103 rfl ?_
                      refine zG_iretX X dX4_setSkip_105 rfl (Nat.le_of_ble_eq_true rfl) (Nat.le_of_ble_eq_true rfl) ?_
                      exact ⟨(if_neg (by omega)).trans (if_neg (by omega)), _, _, rfl, rfl, (by rw [← hqw]; first | exact (if_pos hb2).symm | exact (if_neg hb2).symm), J1, G1, b1, rfl, rfl, hF1, hb1, h41, hsv⟩
                    · exact absurd h_84 (by first | decide | omega)
                  · rw [if_neg hb2]
                    refine zj_if_eq X dX4_setSkip_84 (tgt := 91) (by decide) (by first | decide | omega) (fun h_84 => ?_) (fun h_84 => ?_)
                    · exact absurd h_84 (by first | decide | omega)
                    · refine zj_iconst X dX4_setSkip_87 ?_
                      refine zG_goto X dX4_setSkip_88 (tgt := 92) (by decide) ?_
                      refine zG_istore X dX4_setSkip_92 (by decide) rfl ?_
                      refine zG_aload X dX4_setSkip_94 rfl ?_
                      refine zG_iload_n X dX4_setSkip_96 rfl ?_
                      refine zG_iload_n X dX4_setSkip_97 rfl ?_
                      refine zG_iload X dX4_setSkip_98 rfl ?_
                      refine zj_callV0 (as2 := [_, _, _]) X (k_X3_skipAt lo (d - 1) J1 G1 F1 hsw hnw) dX4_setSkip_100 mv_X3_skipAt ml_X4_104 (by first | rfl | assumption) rfl (by first | decide | omega) rfl rfl (by show d - 1 + 1 ≤ d; omega) (by show 19 + 4 + 35 * (d - 1) ≤ 35 * (d); omega) (Nat.le_of_ble_eq_true rfl) (Nat.le_of_ble_eq_true rfl) (Nat.le_of_ble_eq_true rfl) ?_
                      refine zG_iload X dX4_setSkip_103 rfl ?_
                      refine zG_iretX X dX4_setSkip_105 rfl (Nat.le_of_ble_eq_true rfl) (Nat.le_of_ble_eq_true rfl) ?_
                      exact ⟨(if_neg (by omega)).trans (if_neg (by omega)), _, _, rfl, rfl, (by rw [← hqw]; first | exact (if_pos hb2).symm | exact (if_neg hb2).symm), J1, G1, b1, rfl, rfl, hF1, hb1, h41, hsv⟩
                · exact zG_throwS X Y hx rfl xE_a (by decide) dX4_setSkip_54 dX4_setSkip_57 dX4_setSkip_58 dX4_setSkip_60 dX4_setSkip_63 (by show 6 ≤ d; omega) (by show 0 + 82 ≤ 35 * d; omega) (Nat.le_of_ble_eq_true rfl) (Nat.le_of_ble_eq_true rfl) (Nat.le_of_ble_eq_true rfl) (Nat.le_of_ble_eq_true rfl) (⟨Or.inr ⟨(if_neg (by omega)).trans (if_pos (by omega)), rfl⟩, rfl, rfl, rfl⟩)
          · rw [if_neg hb3]
            refine zj_if_eq X dX4_setSkip_39 (tgt := 54) (by decide) (by first | decide | omega) (fun h_39 => ?_) (fun h_39 => ?_)
            · exact zG_throwS X Y hx rfl xE_a (by decide) dX4_setSkip_54 dX4_setSkip_57 dX4_setSkip_58 dX4_setSkip_60 dX4_setSkip_63 (by show 6 ≤ d; omega) (by show 0 + 82 ≤ 35 * d; omega) (Nat.le_of_ble_eq_true rfl) (Nat.le_of_ble_eq_true rfl) (Nat.le_of_ble_eq_true rfl) (Nat.le_of_ble_eq_true rfl) (⟨Or.inr ⟨(if_neg (by omega)).trans (if_pos (by omega)), rfl⟩, rfl, rfl, rfl⟩)
            · exact absurd h_39 (by first | decide | omega)
    · exact absurd h_8 (by first | decide | omega)
  · rw [if_neg hb0]
    refine zj_if_ne X dX4_setSkip_8 (tgt := 21) (by decide) (by first | decide | omega) (fun h_8 => ?_) (fun h_8 => ?_)
    · exact absurd h_8 (by first | decide | omega)
    · exact zG_throwS X Y hx rfl xE_i (by decide) dX4_setSkip_11 dX4_setSkip_14 dX4_setSkip_15 dX4_setSkip_17 dX4_setSkip_20 (by show 6 ≤ d; omega) (by show 0 + 82 ≤ 35 * d; omega) (Nat.le_of_ble_eq_true rfl) (Nat.le_of_ble_eq_true rfl) (Nat.le_of_ble_eq_true rfl) (Nat.le_of_ble_eq_true rfl) (⟨Or.inl ⟨if_pos (by omega), rfl⟩, rfl, rfl, rfl⟩)
def sdG (G : Nat → Nat → Int64) (u f : Int) : Int64 := if f = 0 then G 1 9 &&& ((lI 1 <<< ((zI u).toInt64 &&& 63)) ^^^ (-1)) else G 1 9 ||| (lI 1 <<< ((zI u).toInt64 &&& 63))
set_option maxHeartbeats 4000000 in
set_option maxRecDepth 100000 in
theorem k_X4_setDay (lo d : Nat) (hd : 6 ≤ d) (J : Nat → Nat → Int) (G : Nat → Nat → Int64) (F : Nat → Nat → Option Nat) (hF : zFk F) (hc : cOk J 1) {b : Nat → Nat} (hb : bOk F b) (hs1 : 0 ≤ J 0 2) (hs2 : J 0 2 ≤ 4) {u : Int} (hu : zr u) {f : Int} (hf : f = 0 ∨ f = 1) : zCtX lo yX4_setDay cX4_setDay 5 (some .int) d 1 6 [.ref (lo + 0), .int (zI u), .int (zI f)] (zM J) G F (zPI (if ¬ ((0 ≤ J 1 5 ∧ J 1 5 < J 1 1) ∧ 0 ≤ u ∧ u < J (3 + (J 1 5).toNat) 0) then 1 else 0) (fV (zpop (sdG G u f)) J G F b (fun J => J) (fun G => zup G 1 9 (sdG G u f)))) (zPX (if ¬ ((0 ≤ J 1 5 ∧ J 1 5 < J 1 1) ∧ 0 ≤ u ∧ u < J (3 + (J 1 5).toNat) 0) then 1 else 0) "java/lang/IllegalArgumentException" "java/lang/IllegalArgumentException" (zM J) G F) := by
  refine zCtX.mk (by decide) (mv_X4_setDay.2.2.2.1) (Nat.le_of_ble_eq_true rfl) ?_
  intro p l e s m args below meth c D cA X Y hx
  have hcf := cOk_f hc
  unfold zr at *
  refine zG_aload_n X dX4_setDay_0 rfl ?_
  refine zG_getR X dX4_setDay_1 fl_X4_10 (by first | rfl | assumption) (by first | decide | omega) (by decide) rfl (by first | exact zF_at hF rfl rfl | exact zF_at hF1 rfl rfl | assumption) ?_
  refine zG_aload_n X dX4_setDay_4 rfl ?_
  refine zG_getR X dX4_setDay_5 fl_X4_10 (by first | rfl | assumption) (by first | decide | omega) (by decide) rfl (by first | exact zF_at hF rfl rfl | exact zF_at hF1 rfl rfl | assumption) ?_
  refine zj_get X dX4_setDay_8 fl_X4_129 (by first | rfl | assumption) (by first | decide | omega) (by decide) rfl ?_
  refine zG_iload_n X dX4_setDay_11 rfl ?_
  refine zj_callV1 (as2 := [_, _]) X (k_X0_hasTooth lo (d - 1) (by omega) J G F hF (k := J 1 5) (t := u) (by unfold zr; omega) (by unfold zr; omega) hc) dX4_setDay_12 mv_X0_hasTooth ml_X4_94 (by first | rfl | assumption) rfl (by first | decide | omega) rfl rfl (by show d - 1 + 1 ≤ d; omega) (by show 19 + 3 + 35 * (d - 1) ≤ 35 * (d); omega) (Nat.le_of_ble_eq_true rfl) (Nat.le_of_ble_eq_true rfl) (Nat.le_of_ble_eq_true rfl) ?_
  by_cases hb3 : (0 ≤ J 1 5 ∧ J 1 5 < J 1 1) ∧ 0 ≤ u ∧ u < J (3 + (J 1 5).toNat) 0
  · rw [if_pos hb3]
    refine zj_if_ne X dX4_setDay_15 (tgt := 28) (by decide) (by first | decide | omega) (fun h_15 => ?_) (fun h_15 => ?_)
    · refine zG_aload_n X dX4_setDay_28 rfl ?_
      refine zG_callV (as2 := []) rfl X (k_X4_save lo (d - 1) (by omega) J G F hF hb hs1 hs2) dX4_setDay_29 mv_X4_save ml_X4_59 (by first | rfl | assumption) rfl (by first | decide | omega) rfl (by show d - 1 + 1 ≤ d; omega) (by show 19 + 1 + 35 * (d - 1) ≤ 35 * (d); omega) (Nat.le_of_ble_eq_true rfl) (Nat.le_of_ble_eq_true rfl) (Nat.le_of_ble_eq_true rfl) ?_
      rintro v9 I3 G1 F1 ⟨rfl, J1, b1, rfl, hF1, hb1, h41, hsv⟩
      have hq := hsv.2.2.2.1
      have hqg := hsv.2.2.2.2
      have hg9 : G1 1 9 = G 1 9 := hqg 1 9 (Or.inl (by decide))
      refine zj_lconst1 X dX4_setDay_32 ?_
      refine zG_iload_n X dX4_setDay_33 rfl ?_
      refine zG_lshl X dX4_setDay_34 ?_
      refine zG_lstore_n X dX4_setDay_35 (by decide) rfl ?_
      refine zG_aload_n X dX4_setDay_36 rfl ?_
      refine zG_getR X dX4_setDay_37 fl_X4_10 (by first | rfl | assumption) (by first | decide | omega) (by decide) rfl (by first | exact zF_at hF rfl rfl | exact zF_at hF1 rfl rfl | assumption) ?_
      refine zG_iload_n X dX4_setDay_40 rfl ?_
      refine zj_if_eq X dX4_setDay_41 (tgt := 56) (by decide) (by first | decide | omega) (fun h_41 => ?_) (fun h_41 => ?_)
      · refine zG_aload_n X dX4_setDay_56 rfl ?_
        refine zG_getR X dX4_setDay_57 fl_X4_10 (by first | rfl | assumption) (by first | decide | omega) (by decide) rfl (by first | exact zF_at hF rfl rfl | exact zF_at hF1 rfl rfl | assumption) ?_
        refine zG_getL X dX4_setDay_60 fl_X4_141 (by first | rfl | assumption) (by first | decide | omega) (by decide) rfl ?_
        refine zG_lload_n X dX4_setDay_63 rfl ?_
        refine zG_ldc2 (v := -1) X dX4_setDay_64 (by decide +kernel) ?_
        refine zG_lxor X dX4_setDay_67 ?_
        refine zG_land X dX4_setDay_68 ?_
        refine zG_putL X dX4_setDay_69 fl_X4_141 (by first | rfl | assumption) (by first | decide | omega) (by decide) rfl rfl rfl rfl ?_
        refine zG_aload_n X dX4_setDay_72 rfl ?_
        refine zG_getR X dX4_setDay_73 fl_X4_10 (by first | rfl | assumption) (by first | decide | omega) (by decide) rfl (by first | exact zF_at hF rfl rfl | exact zF_at hF1 rfl rfl | assumption) ?_
        refine zG_getL X dX4_setDay_76 fl_X4_141 (by first | rfl | assumption) (by first | decide | omega) (by decide) rfl ?_
        refine zj_callS1 (as2 := [_]) X (k_bitCount lo (d - 1) _ _ _) dX4_setDay_79 ms_J13_bitCount_95d88 ml_X4_149 rfl rfl (by show d - 1 + 1 ≤ d; omega) (by show 19 + 2 + 35 * (d - 1) ≤ 35 * (d); omega) (Nat.le_of_ble_eq_true rfl) (Nat.le_of_ble_eq_true rfl) (Nat.le_of_ble_eq_true rfl) ?_
        refine zG_iretX X dX4_setDay_82 rfl (Nat.le_of_ble_eq_true rfl) (Nat.le_of_ble_eq_true rfl) ?_
        refine ⟨if_neg (by omega), _, _, rfl, rfl, ?_, J1, G1, b1, rfl, ?_, hF1, hb1, h41, hsv⟩
        · unfold sdG; simp [zup, hg9, h_41]
        · unfold sdG; simp [h_41]
      · refine zG_aload_n X dX4_setDay_44 rfl ?_
        refine zG_getR X dX4_setDay_45 fl_X4_10 (by first | rfl | assumption) (by first | decide | omega) (by decide) rfl (by first | exact zF_at hF rfl rfl | exact zF_at hF1 rfl rfl | assumption) ?_
        refine zG_getL X dX4_setDay_48 fl_X4_141 (by first | rfl | assumption) (by first | decide | omega) (by decide) rfl ?_
        refine zG_lload_n X dX4_setDay_51 rfl ?_
        refine zG_lor X dX4_setDay_52 ?_
        refine zG_goto X dX4_setDay_53 (tgt := 69) (by decide) ?_
        refine zG_putL X dX4_setDay_69 fl_X4_141 (by first | rfl | assumption) (by first | decide | omega) (by decide) rfl rfl rfl rfl ?_
        refine zG_aload_n X dX4_setDay_72 rfl ?_
        refine zG_getR X dX4_setDay_73 fl_X4_10 (by first | rfl | assumption) (by first | decide | omega) (by decide) rfl (by first | exact zF_at hF rfl rfl | exact zF_at hF1 rfl rfl | assumption) ?_
        refine zG_getL X dX4_setDay_76 fl_X4_141 (by first | rfl | assumption) (by first | decide | omega) (by decide) rfl ?_
        refine zj_callS1 (as2 := [_]) X (k_bitCount lo (d - 1) _ _ _) dX4_setDay_79 ms_J13_bitCount_95d88 ml_X4_149 rfl rfl (by show d - 1 + 1 ≤ d; omega) (by show 19 + 2 + 35 * (d - 1) ≤ 35 * (d); omega) (Nat.le_of_ble_eq_true rfl) (Nat.le_of_ble_eq_true rfl) (Nat.le_of_ble_eq_true rfl) ?_
        refine zG_iretX X dX4_setDay_82 rfl (Nat.le_of_ble_eq_true rfl) (Nat.le_of_ble_eq_true rfl) ?_
        refine ⟨if_neg (by omega), _, _, rfl, rfl, ?_, J1, G1, b1, rfl, ?_, hF1, hb1, h41, hsv⟩
        · unfold sdG; simp [zup, hg9, h_41]
        · unfold sdG; simp [h_41]
    · exact absurd h_15 (by first | decide | omega)
  · rw [if_neg hb3]
    refine zj_if_ne X dX4_setDay_15 (tgt := 28) (by decide) (by first | decide | omega) (fun h_15 => ?_) (fun h_15 => ?_)
    · exact absurd h_15 (by first | decide | omega)
    · exact zG_throwS X Y hx rfl xE_a (by decide) dX4_setDay_18 dX4_setDay_21 dX4_setDay_22 dX4_setDay_24 dX4_setDay_27 (by show 6 ≤ d; omega) (by show 0 + 82 ≤ 35 * d; omega) (Nat.le_of_ble_eq_true rfl) (Nat.le_of_ble_eq_true rfl) (Nat.le_of_ble_eq_true rfl) (Nat.le_of_ble_eq_true rfl) (⟨Or.inl ⟨if_pos (by omega), rfl⟩, rfl, rfl, rfl⟩)
def adJ (c : Nat) (u v w2 : Int) (J : Nat → Nat → Int) : Nat → Nat → Int := zup (zup (zup (zup (zup (zup (zup (zup J (3 + c) 0 u) (3 + c) 1 v) (3 + c) 2 0) (3 + c) 3 (-1)) (3 + c) 4 (-1)) (3 + c) 5 0) (3 + c) 6 w2) 1 1 ((c : Int) + 1)
theorem zup6_ot {J : Nat → Nat → Int} {a x i i1 i2 i3 i4 i5 i6 : Nat} {v1 v2 v3 v4 v5 v6 : Int} (q : x ≠ a) : zup (zup (zup (zup (zup (zup J a i1 v1) a i2 v2) a i3 v3) a i4 v4) a i5 v5) a i6 v6 x i = J x i := by
  rw [zup_ot q, zup_ot q, zup_ot q, zup_ot q, zup_ot q, zup_ot q]
set_option maxHeartbeats 4000000 in
set_option maxRecDepth 100000 in
theorem k_X4_addWheel (lo d : Nat) (hd : 6 ≤ d) (J : Nat → Nat → Int) (G : Nat → Nat → Int64) (F : Nat → Nat → Option Nat) (hF : zFk F) (hc : cOk J 1) {b : Nat → Nat} (hb : bOk F b) (hs1 : 0 ≤ J 0 2) (hs2 : J 0 2 ≤ 4) {u v : Int} (hu : zr u) (hv : zr v) : zCtX lo yX4_addWheel cX4_addWheel 4 (some .int) d 1 6 [.ref (lo + 0), .int (zI u), .int (zI v)] (zM J) G F (zPI (if ¬ (2 ≤ u ∧ u ≤ 60 ∧ 0 ≤ v ∧ v < u) then 1 else if J 1 1 = 5 then 2 else 0) (fV (J 1 1) J G F b (adJ (J 1 1).toNat u v ((v - (J 1 2 - J 1 14)) % u)) (fun G => G))) (zPX (if ¬ (2 ≤ u ∧ u ≤ 60 ∧ 0 ≤ v ∧ v < u) then 1 else if J 1 1 = 5 then 2 else 0) "java/lang/IllegalArgumentException" "java/lang/IllegalStateException" (zM J) G F) := by
  refine zCtX.mk (by decide) (mv_X4_addWheel.2.2.2.1) (Nat.le_of_ble_eq_true rfl) ?_
  intro p l e s m args below meth c D cA X Y hx
  have hcf := cOk_f hc
  unfold zr at *
  refine zG_iload_n X dX4_addWheel_0 rfl ?_
  refine zj_iconst X dX4_addWheel_1 ?_
  refine zj_icmp_lt X dX4_addWheel_2 (tgt := 20) (by decide) (by first | decide | omega) (by first | decide | omega) (fun h_2 => ?_) (fun h_2 => ?_)
  · exact zG_throwS X Y hx rfl xE_a (by decide) dX4_addWheel_20 dX4_addWheel_23 dX4_addWheel_24 dX4_addWheel_26 dX4_addWheel_29 (by show 6 ≤ d; omega) (by show 0 + 82 ≤ 35 * d; omega) (Nat.le_of_ble_eq_true rfl) (Nat.le_of_ble_eq_true rfl) (Nat.le_of_ble_eq_true rfl) (Nat.le_of_ble_eq_true rfl) (⟨Or.inl ⟨if_pos (by omega), rfl⟩, rfl, rfl, rfl⟩)
  · refine zG_iload_n X dX4_addWheel_5 rfl ?_
    refine zj_bipush X dX4_addWheel_6 (by decide) ?_
    refine zj_icmp_gt X dX4_addWheel_8 (tgt := 20) (by decide) (by first | decide | omega) (by first | decide | omega) (fun h_8 => ?_) (fun h_8 => ?_)
    · exact zG_throwS X Y hx rfl xE_a (by decide) dX4_addWheel_20 dX4_addWheel_23 dX4_addWheel_24 dX4_addWheel_26 dX4_addWheel_29 (by show 6 ≤ d; omega) (by show 0 + 82 ≤ 35 * d; omega) (Nat.le_of_ble_eq_true rfl) (Nat.le_of_ble_eq_true rfl) (Nat.le_of_ble_eq_true rfl) (Nat.le_of_ble_eq_true rfl) (⟨Or.inl ⟨if_pos (by omega), rfl⟩, rfl, rfl, rfl⟩)
    · refine zG_iload_n X dX4_addWheel_11 rfl ?_
      refine zj_if_lt X dX4_addWheel_12 (tgt := 20) (by decide) (by first | decide | omega) (fun h_12 => ?_) (fun h_12 => ?_)
      · exact zG_throwS X Y hx rfl xE_a (by decide) dX4_addWheel_20 dX4_addWheel_23 dX4_addWheel_24 dX4_addWheel_26 dX4_addWheel_29 (by show 6 ≤ d; omega) (by show 0 + 82 ≤ 35 * d; omega) (Nat.le_of_ble_eq_true rfl) (Nat.le_of_ble_eq_true rfl) (Nat.le_of_ble_eq_true rfl) (Nat.le_of_ble_eq_true rfl) (⟨Or.inl ⟨if_pos (by omega), rfl⟩, rfl, rfl, rfl⟩)
      · refine zG_iload_n X dX4_addWheel_15 rfl ?_
        refine zG_iload_n X dX4_addWheel_16 rfl ?_
        refine zj_icmp_lt X dX4_addWheel_17 (tgt := 30) (by decide) (by first | decide | omega) (by first | decide | omega) (fun h_17 => ?_) (fun h_17 => ?_)
        · refine zG_aload_n X dX4_addWheel_30 rfl ?_
          refine zG_getR X dX4_addWheel_31 fl_X4_10 (by first | rfl | assumption) (by first | decide | omega) (by decide) rfl (by first | exact zF_at hF rfl rfl | exact zF_at hF1 rfl rfl | assumption) ?_
          refine zj_get X dX4_addWheel_34 fl_X4_50 (by first | rfl | assumption) (by first | decide | omega) (by decide) rfl ?_
          refine zj_iconst X dX4_addWheel_37 ?_
          refine zj_icmp_lt X dX4_addWheel_38 (tgt := 51) (by decide) (by first | decide | omega) (by first | decide | omega) (fun h_38 => ?_) (fun h_38 => ?_)
          · refine zG_aload_n X dX4_addWheel_51 rfl ?_
            refine zG_callV (as2 := []) rfl X (k_X4_save lo (d - 1) (by omega) J G F hF hb hs1 hs2) dX4_addWheel_52 mv_X4_save ml_X4_59 (by first | rfl | assumption) rfl (by first | decide | omega) rfl (by show d - 1 + 1 ≤ d; omega) (by show 19 + 1 + 35 * (d - 1) ≤ 35 * (d); omega) (Nat.le_of_ble_eq_true rfl) (Nat.le_of_ble_eq_true rfl) (Nat.le_of_ble_eq_true rfl) ?_
            rintro v9 I3 G1 F1 ⟨rfl, J1, b1, rfl, hF1, hb1, h41, hsv⟩
            have hq := hsv.2.2.2.1
            have hqg := hsv.2.2.2.2
            have hcc : J1 1 1 = J 1 1 := hq 1 1 (by decide) (Or.inl (by decide))
            have hku : (J 1 1).toNat < 5 := by omega
            have hsw := zSh_w hku
            have hnw : 3 + (J 1 1).toNat < 57 := by omega
            have hfw := zF_w1 hF1 hku
            have h12 : J1 1 2 = J 1 2 := hq 1 2 (by decide) (Or.inl (by decide))
            have h114 : J1 1 14 = J 1 14 := hq 1 14 (by decide) (Or.inl (by decide))
            refine zG_aload_n X dX4_addWheel_55 rfl ?_
            refine zG_getR X dX4_addWheel_56 fl_X4_10 (by first | rfl | assumption) (by first | decide | omega) (by decide) rfl (by first | exact zF_at hF rfl rfl | exact zF_at hF1 rfl rfl | assumption) ?_
            refine zG_getR X dX4_addWheel_59 fl_X4_62 (by first | rfl | assumption) (by first | decide | omega) (by decide) rfl (by first | exact zF_at hF rfl rfl | exact zF_at hF1 rfl rfl | assumption) ?_
            refine zG_aload_n X dX4_addWheel_62 rfl ?_
            refine zG_getR X dX4_addWheel_63 fl_X4_10 (by first | rfl | assumption) (by first | decide | omega) (by decide) rfl (by first | exact zF_at hF rfl rfl | exact zF_at hF1 rfl rfl | assumption) ?_
            refine zj_getv (v := J 1 1) X dX4_addWheel_66 fl_X4_50 (by first | rfl | assumption) (by first | decide | omega) (by decide) rfl (hcc) ?_
            refine zj_aaload5 X dX4_addWheel_69 (by first | rfl | assumption) (by first | decide | omega) ((J 1 1).toNat) (by omega) (by omega) (hfw) ?_
            refine zG_astore_n X dX4_addWheel_70 (by decide) rfl ?_
            refine zG_aload_n X dX4_addWheel_71 rfl ?_
            refine zG_iload_n X dX4_addWheel_72 rfl ?_
            refine zG_iload_n X dX4_addWheel_73 rfl ?_
            refine zj_callV0 (as2 := [_, _]) X (k_X3_make lo (d - 1) (by omega) J1 G1 F1 hsw hnw) dX4_addWheel_74 mv_X3_make ml_X4_66 (by first | rfl | assumption) rfl (by first | decide | omega) rfl rfl (by show d - 1 + 1 ≤ d; omega) (by show 19 + 3 + 35 * (d - 1) ≤ 35 * (d); omega) (Nat.le_of_ble_eq_true rfl) (Nat.le_of_ble_eq_true rfl) (Nat.le_of_ble_eq_true rfl) ?_
            refine zG_aload_n X dX4_addWheel_77 rfl ?_
            refine zG_iload_n X dX4_addWheel_78 rfl ?_
            refine zG_aload_n X dX4_addWheel_79 rfl ?_
            refine zG_getR X dX4_addWheel_80 fl_X4_10 (by first | rfl | assumption) (by first | decide | omega) (by decide) rfl (by first | exact zF_at hF rfl rfl | exact zF_at hF1 rfl rfl | assumption) ?_
            refine zj_getv (v := J 1 2) X dX4_addWheel_83 fl_X4_72 (by first | rfl | assumption) (by first | decide | omega) (by decide) rfl (by exact (zup6_ot (by omega)).trans h12) ?_
            refine zG_aload_n X dX4_addWheel_86 rfl ?_
            refine zG_getR X dX4_addWheel_87 fl_X4_10 (by first | rfl | assumption) (by first | decide | omega) (by decide) rfl (by first | exact zF_at hF rfl rfl | exact zF_at hF1 rfl rfl | assumption) ?_
            refine zj_getv (v := J 1 14) X dX4_addWheel_90 fl_X4_75 (by first | rfl | assumption) (by first | decide | omega) (by decide) rfl (by exact (zup6_ot (by omega)).trans h114) ?_
            refine zj_isub X dX4_addWheel_93 ?_
            refine zj_isub X dX4_addWheel_94 ?_
            refine zG_iload_n X dX4_addWheel_95 rfl ?_
            refine zj_callS1 (as2 := [_, _]) X (k_modulo lo (d - 1) _ G1 F1 (a := v - (J 1 2 - J 1 14)) (b := u) (by unfold zr; omega) (by unfold zr; omega) (by omega)) dX4_addWheel_96 ms_X4_modulo ml_X4_78 rfl rfl (by show d - 1 + 1 ≤ d; omega) (by show 19 + 3 + 35 * (d - 1) ≤ 35 * (d); omega) (Nat.le_of_ble_eq_true rfl) (Nat.le_of_ble_eq_true rfl) (Nat.le_of_ble_eq_true rfl) ?_
            refine zj_put X dX4_addWheel_99 fl_X4_82 (by first | rfl | assumption) (by first | decide | omega) (by decide) rfl rfl ?_
            refine zG_aload_n X dX4_addWheel_102 rfl ?_
            refine zG_getR X dX4_addWheel_103 fl_X4_10 (by first | rfl | assumption) (by first | decide | omega) (by decide) rfl (by first | exact zF_at hF rfl rfl | exact zF_at hF1 rfl rfl | assumption) ?_
            refine zG_dup X dX4_addWheel_106 rfl ?_
            refine zj_getv (v := J 1 1) X dX4_addWheel_107 fl_X4_50 (by first | rfl | assumption) (by first | decide | omega) (by decide) rfl (by exact (zup_ot (by omega)).trans ((zup6_ot (by omega)).trans hcc)) ?_
            refine zj_iconst X dX4_addWheel_110 ?_
            refine zj_iadd X dX4_addWheel_111 ?_
            refine zj_put X dX4_addWheel_112 fl_X4_50 (by first | rfl | assumption) (by first | decide | omega) (by decide) rfl rfl ?_
            refine zG_aload_n X dX4_addWheel_115 rfl ?_
            refine zG_getR X dX4_addWheel_116 fl_X4_10 (by first | rfl | assumption) (by first | decide | omega) (by decide) rfl (by first | exact zF_at hF rfl rfl | exact zF_at hF1 rfl rfl | assumption) ?_
            refine zj_getv (v := J 1 1 + 1) X dX4_addWheel_119 fl_X4_50 (by first | rfl | assumption) (by first | decide | omega) (by decide) rfl (by simp [zup]) ?_
            refine zj_iconst X dX4_addWheel_122 ?_
            refine zj_isub X dX4_addWheel_123 ?_
            refine zG_iretX X dX4_addWheel_124 rfl (Nat.le_of_ble_eq_true rfl) (Nat.le_of_ble_eq_true rfl) ?_
            have hcn : (((J 1 1).toNat : Nat) : Int) = J 1 1 := by omega
            exact ⟨(if_neg (by omega)).trans (if_neg (by omega)), _, _, rfl, rfl, (by omega), J1, G1, b1, (by unfold adJ; rw [hcn]), rfl, hF1, hb1, h41, hsv⟩
          · exact zG_throwS X Y hx rfl xE_s (by decide) dX4_addWheel_41 dX4_addWheel_44 dX4_addWheel_45 dX4_addWheel_47 dX4_addWheel_50 (by show 6 ≤ d; omega) (by show 0 + 82 ≤ 35 * d; omega) (Nat.le_of_ble_eq_true rfl) (Nat.le_of_ble_eq_true rfl) (Nat.le_of_ble_eq_true rfl) (Nat.le_of_ble_eq_true rfl) (⟨Or.inr ⟨(if_neg (by omega)).trans (if_pos (by omega)), rfl⟩, rfl, rfl, rfl⟩)
        · exact zG_throwS X Y hx rfl xE_a (by decide) dX4_addWheel_20 dX4_addWheel_23 dX4_addWheel_24 dX4_addWheel_26 dX4_addWheel_29 (by show 6 ≤ d; omega) (by show 0 + 82 ≤ 35 * d; omega) (Nat.le_of_ble_eq_true rfl) (Nat.le_of_ble_eq_true rfl) (Nat.le_of_ble_eq_true rfl) (Nat.le_of_ble_eq_true rfl) (⟨Or.inl ⟨if_pos (by omega), rfl⟩, rfl, rfl, rfl⟩)
