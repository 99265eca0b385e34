def prW (J : Nat → Nat → Int) (k : Nat) : Nat → Nat → Int := fun x i => if 3 ≤ x ∧ x < 3 + k ∧ i = 6 then J x 1 else J x i
def prA (J : Nat → Nat → Int) : Nat → Nat → Int := zup (prW J (J 1 1).toNat) 1 14 (J 1 2)
theorem prW_0 {J : Nat → Nat → Int} : prW J 0 = J := by
  funext x i
  simp only [prW]
  rw [if_neg (by omega)]
theorem prW_succ {J : Nat → Nat → Int} {k : Nat} : zup (prW J k) (3 + k) 6 (J (3 + k) 1) = prW J (k + 1) := by
  funext x i
  simp only [zup, prW]
  by_cases h : x = 3 + k ∧ i = 6
  · rw [if_pos h, if_pos (by omega), h.1]
  · rw [if_neg h]
    by_cases h2 : 3 ≤ x ∧ x < 3 + k ∧ i = 6
    · rw [if_pos h2, if_pos (by omega)]
    · rw [if_neg h2, if_neg (by omega)]
set_option maxHeartbeats 4000000 in
set_option maxRecDepth 100000 in
theorem k_X0_printAlmanac (lo d : Nat) (J : Nat → Nat → Int) (G : Nat → Nat → Int64) (F : Nat → Nat → Option Nat) (hF : zFk F) (h1 : 0 ≤ J 1 1) (h2 : J 1 1 ≤ 5) : zCt lo yX0_printAlmanac cX0_printAlmanac 2 none d 0 0 [.ref (lo + 1)] 57 57 (zM J) G F (zD [] (prA J) G F) := by
  refine zCt.mk (by decide) (mv_X0_printAlmanac.2.2.2.1) (Nat.le_of_ble_eq_true rfl) ?_
  intro p l e s m args below meth c D cA X
  have loop : ∀ (q k : Nat), k + q = (J 1 1).toNat → zG p l e { frames := d, cells := 0, slots := 0, locals := 35 * d } s m args below meth c D cA lo 2 0 0 (MQ below (zQ D cA lo 57 (zD [] (prA J) G F)) args s 0 0 (fun q => lo ≤ q)) 57 (zM (prW J k)) G F [some (.ref (lo + 1)), some (.int (zI (k : Int)))] [] 2 := by
    intro q
    induction q with
    | zero =>
      intro k  hk
      refine zG_iload_n X dX0_printAlmanac_2 rfl ?_
      refine zG_aload_n X dX0_printAlmanac_3 rfl ?_
      refine zj_getv (v := J 1 1) X dX0_printAlmanac_4 fl_X0_29 (by first | rfl | assumption) (by first | decide | omega) (by decide) rfl (by simp [prW]) ?_
      refine zj_icmp_ge X dX0_printAlmanac_7 (tgt := 34) (by decide) (by first | decide | omega) (by first | decide | omega) (fun h_7 => ?_) (fun h_7 => ?_)
      · refine zG_aload_n X dX0_printAlmanac_34 rfl ?_
        refine zG_aload_n X dX0_printAlmanac_35 rfl ?_
        refine zj_getv (v := J 1 2) X dX0_printAlmanac_36 fl_X0_56 (by first | rfl | assumption) (by first | decide | omega) (by decide) rfl (by simp [prW]) ?_
        refine zj_put X dX0_printAlmanac_39 fl_X0_59 (by first | rfl | assumption) (by first | decide | omega) (by decide) rfl rfl ?_
        refine zG_vret X dX0_printAlmanac_42 rfl ?_
        exact zD.of rfl (by rw [show k = (J 1 1).toNat by omega]; rfl) rfl rfl
      · exact absurd h_7 (by first | decide | omega)
    | succ q ih =>
      intro k  hk
      have hs3 := zSh_w (i := k) (by omega)
      refine zG_iload_n X dX0_printAlmanac_2 rfl ?_
      refine zG_aload_n X dX0_printAlmanac_3 rfl ?_
      refine zj_getv (v := J 1 1) X dX0_printAlmanac_4 fl_X0_29 (by first | rfl | assumption) (by first | decide | omega) (by decide) rfl (by simp [prW]) ?_
      refine zj_icmp_ge X dX0_printAlmanac_7 (tgt := 34) (by decide) (by first | decide | omega) (by first | decide | omega) (fun h_7 => ?_) (fun h_7 => ?_)
      · exact absurd h_7 (by first | decide | omega)
      · refine zG_aload_n X dX0_printAlmanac_10 rfl ?_
        refine zG_getR X dX0_printAlmanac_11 fl_X0_25 (by first | rfl | assumption) (by first | decide | omega) (by decide) rfl (by first | exact zF_at hF rfl rfl | assumption) ?_
        refine zG_iload_n X dX0_printAlmanac_14 rfl ?_
        refine zj_aaload5 X dX0_printAlmanac_15 (by first | rfl | assumption) (by first | decide | omega) _ rfl (by omega) (zF_w1 hF (by omega)) ?_
        refine zG_aload_n X dX0_printAlmanac_16 rfl ?_
        refine zG_getR X dX0_printAlmanac_17 fl_X0_25 (by first | rfl | assumption) (by first | decide | omega) (by decide) rfl (by first | exact zF_at hF rfl rfl | assumption) ?_
        refine zG_iload_n X dX0_printAlmanac_20 rfl ?_
        refine zj_aaload5 X dX0_printAlmanac_21 (by first | rfl | assumption) (by first | decide | omega) _ rfl (by omega) (zF_w1 hF (by omega)) ?_
        refine zj_getv (v := J (3 + k) 1) X dX0_printAlmanac_22 fl_X0_50 (by first | rfl | assumption) (by first | decide | omega) (by decide) rfl (by simp [prW]) ?_
        refine zj_put X dX0_printAlmanac_25 fl_X0_53 (by first | rfl | assumption) (by first | decide | omega) (by decide) rfl rfl ?_
        refine zj_iinc X dX0_printAlmanac_28 rfl (by decide) rfl ?_
        refine zG_goto X dX0_printAlmanac_31 (tgt := 2) (by decide) ?_
        rw [prW_succ]
        exact ih (k + 1) (by omega)
  refine zj_iconst X dX0_printAlmanac_0 ?_
  refine zG_istore_n X dX0_printAlmanac_1 (by decide) rfl ?_
  have := loop (J 1 1).toNat 0 (by omega)
  rw [prW_0] at this
  exact this
set_option maxHeartbeats 4000000 in
set_option maxRecDepth 100000 in
theorem k_X0_tellWheel (lo d : Nat) (hd : 2 ≤ d) (J : Nat → Nat → Int) (G : Nat → Nat → Int64) (F : Nat → Nat → Option Nat) {a : Nat} (hs : zShape[a]? = some (.inl 3)) (han : a < 57) {q : Int} (h1 : 0 ≤ q) (h2 : q ≤ 6) (h3 : zr (J a 6 + (J 1 2 - J 1 14))) (h4 : 0 < J a 0) (h5 : J a 0 ≤ 60) : zCt lo yX0_tellWheel cX0_tellWheel 3 (some .int) d 0 0 [.ref (lo + 1), .ref (lo + a), .int (zI q)] 57 57 (zM J) G F (zD [.int (zI (if q = 6 then (J a 6 + (J 1 2 - J 1 14)) % J a 0 else J a q.toNat))] J G F) := by
  refine zCt.mk (by decide) (mv_X0_tellWheel.2.2.2.1) (Nat.le_of_ble_eq_true rfl) ?_
  intro p l e s m args below meth c D cA X
  have hq : q = 0 ∨ q = 1 ∨ q = 2 ∨ q = 3 ∨ q = 4 ∨ q = 5 ∨ q = 6 := by omega
  rcases hq with rfl | rfl | rfl | rfl | rfl | rfl | rfl
  · refine zG_iload_n X dX0_tellWheel_0 rfl ?_
    refine zG_switchIn (off := 39) (tgt := 40) X dX0_tellWheel_1 (by decide) (by decide) (by decide) (by decide) ?_
    refine zG_aload_n X dX0_tellWheel_40 rfl ?_
    refine zj_get X dX0_tellWheel_41 fl_X0_36 (by first | rfl | assumption) (by first | decide | omega) (by decide) rfl ?_
    refine zG_iret X dX0_tellWheel_44 rfl ?_
    exact zD.rf
  · refine zG_iload_n X dX0_tellWheel_0 rfl ?_
    refine zG_switchIn (off := 44) (tgt := 45) X dX0_tellWheel_1 (by decide) (by decide) (by decide) (by decide) ?_
    refine zG_aload_n X dX0_tellWheel_45 rfl ?_
    refine zj_get X dX0_tellWheel_46 fl_X0_50 (by first | rfl | assumption) (by first | decide | omega) (by decide) rfl ?_
    refine zG_iret X dX0_tellWheel_49 rfl ?_
    exact zD.rf
  · refine zG_iload_n X dX0_tellWheel_0 rfl ?_
    refine zG_switchIn (off := 49) (tgt := 50) X dX0_tellWheel_1 (by decide) (by decide) (by decide) (by decide) ?_
    refine zG_aload_n X dX0_tellWheel_50 rfl ?_
    refine zj_get X dX0_tellWheel_51 fl_X0_91 (by first | rfl | assumption) (by first | decide | omega) (by decide) rfl ?_
    refine zG_iret X dX0_tellWheel_54 rfl ?_
    exact zD.rf
  · refine zG_iload_n X dX0_tellWheel_0 rfl ?_
    refine zG_switchIn (off := 54) (tgt := 55) X dX0_tellWheel_1 (by decide) (by decide) (by decide) (by decide) ?_
    refine zG_aload_n X dX0_tellWheel_55 rfl ?_
    refine zj_get X dX0_tellWheel_56 fl_X0_94 (by first | rfl | assumption) (by first | decide | omega) (by decide) rfl ?_
    refine zG_iret X dX0_tellWheel_59 rfl ?_
    exact zD.rf
  · refine zG_iload_n X dX0_tellWheel_0 rfl ?_
    refine zG_switchIn (off := 59) (tgt := 60) X dX0_tellWheel_1 (by decide) (by decide) (by decide) (by decide) ?_
    refine zG_aload_n X dX0_tellWheel_60 rfl ?_
    refine zj_get X dX0_tellWheel_61 fl_X0_97 (by first | rfl | assumption) (by first | decide | omega) (by decide) rfl ?_
    refine zG_iret X dX0_tellWheel_64 rfl ?_
    exact zD.rf
  · refine zG_iload_n X dX0_tellWheel_0 rfl ?_
    refine zG_switchIn (off := 64) (tgt := 65) X dX0_tellWheel_1 (by decide) (by decide) (by decide) (by decide) ?_
    refine zG_aload_n X dX0_tellWheel_65 rfl ?_
    refine zj_get X dX0_tellWheel_66 fl_X0_100 (by first | rfl | assumption) (by first | decide | omega) (by decide) rfl ?_
    refine zG_iret X dX0_tellWheel_69 rfl ?_
    exact zD.rf
  · refine zG_iload_n X dX0_tellWheel_0 rfl ?_
    refine zG_switchOut (tgt := 70) X dX0_tellWheel_1 (by decide) (by decide) ?_
    refine zG_aload_n X dX0_tellWheel_70 rfl ?_
    refine zG_aload_n X dX0_tellWheel_71 rfl ?_
    refine zG_aload_n X dX0_tellWheel_72 rfl ?_
    refine zj_get X dX0_tellWheel_73 fl_X0_56 (by first | rfl | assumption) (by first | decide | omega) (by decide) rfl ?_
    refine zj_callV1 (as2 := [_, _]) X (k_X0_almanacPosition lo (d - 1) (by omega) J G F hs han h3 (by omega) (by omega)) dX0_tellWheel_76 mv_X0_almanacPosition ml_X0_103 (by first | rfl | assumption) rfl (by first | decide | omega) rfl rfl (by show d - 1 + 1 ≤ d; omega) (by show 19 + 3 + 35 * (d - 1) ≤ 35 * (d); omega) (Nat.le_refl _) (Nat.le_refl _) (Nat.le_of_ble_eq_true rfl) ?_
    refine zG_iret X dX0_tellWheel_79 rfl ?_
    exact zD.rf
set_option maxHeartbeats 4000000 in
set_option maxRecDepth 100000 in
theorem k_bitCount (lo d : Nat) (J : Nat → Nat → Int) (G : Nat → Nat → Int64) (F : Nat → Nat → Option Nat) {x : Int64} : zCt lo yJ13_bitCount_95d88 cJ13_bitCount_95d88 2 (some .int) d 0 0 [.long x] 57 57 (zM J) G F (zD [.int (zI (zpop x))] J G F) := by
  refine zCt.mk (by decide) (ms_J13_bitCount_95d88.2.2.1) (Nat.le_of_ble_eq_true rfl) ?_
  intro p l e s m args below meth c D cA X
  refine zG_lload_n X dJ13_bitCount_95d88_0 rfl ?_
  refine zG_lload_n X dJ13_bitCount_95d88_1 rfl ?_
  refine zj_iconst X dJ13_bitCount_95d88_2 ?_
  refine zG_lushr X dJ13_bitCount_95d88_3 ?_
  refine zG_ldc2 (v := 6148914691236517205) X dJ13_bitCount_95d88_4 (by decide +kernel) ?_
  refine zG_land X dJ13_bitCount_95d88_7 ?_
  refine zG_lsub X dJ13_bitCount_95d88_8 ?_
  refine zG_lstore_n X dJ13_bitCount_95d88_9 (by decide) rfl ?_
  refine zG_lload_n X dJ13_bitCount_95d88_10 rfl ?_
  refine zG_ldc2 (v := 3689348814741910323) X dJ13_bitCount_95d88_11 (by decide +kernel) ?_
  refine zG_land X dJ13_bitCount_95d88_14 ?_
  refine zG_lload_n X dJ13_bitCount_95d88_15 rfl ?_
  refine zj_iconst X dJ13_bitCount_95d88_16 ?_
  refine zG_lushr X dJ13_bitCount_95d88_17 ?_
  refine zG_ldc2 (v := 3689348814741910323) X dJ13_bitCount_95d88_18 (by decide +kernel) ?_
  refine zG_land X dJ13_bitCount_95d88_21 ?_
  refine zG_ladd X dJ13_bitCount_95d88_22 ?_
  refine zG_lstore_n X dJ13_bitCount_95d88_23 (by decide) rfl ?_
  refine zG_lload_n X dJ13_bitCount_95d88_24 rfl ?_
  refine zG_lload_n X dJ13_bitCount_95d88_25 rfl ?_
  refine zj_iconst X dJ13_bitCount_95d88_26 ?_
  refine zG_lushr X dJ13_bitCount_95d88_27 ?_
  refine zG_ladd X dJ13_bitCount_95d88_28 ?_
  refine zG_ldc2 (v := 1085102592571150095) X dJ13_bitCount_95d88_29 (by decide +kernel) ?_
  refine zG_land X dJ13_bitCount_95d88_32 ?_
  refine zG_lstore_n X dJ13_bitCount_95d88_33 (by decide) rfl ?_
  refine zG_lload_n X dJ13_bitCount_95d88_34 rfl ?_
  refine zG_lload_n X dJ13_bitCount_95d88_35 rfl ?_
  refine zj_bipush X dJ13_bitCount_95d88_36 (by decide) ?_
  refine zG_lushr X dJ13_bitCount_95d88_38 ?_
  refine zG_ladd X dJ13_bitCount_95d88_39 ?_
  refine zG_lstore_n X dJ13_bitCount_95d88_40 (by decide) rfl ?_
  refine zG_lload_n X dJ13_bitCount_95d88_41 rfl ?_
  refine zG_lload_n X dJ13_bitCount_95d88_42 rfl ?_
  refine zj_bipush X dJ13_bitCount_95d88_43 (by decide) ?_
  refine zG_lushr X dJ13_bitCount_95d88_45 ?_
  refine zG_ladd X dJ13_bitCount_95d88_46 ?_
  refine zG_lstore_n X dJ13_bitCount_95d88_47 (by decide) rfl ?_
  refine zG_lload_n X dJ13_bitCount_95d88_48 rfl ?_
  refine zG_lload_n X dJ13_bitCount_95d88_49 rfl ?_
  refine zj_bipush X dJ13_bitCount_95d88_50 (by decide) ?_
  refine zG_lushr X dJ13_bitCount_95d88_52 ?_
  refine zG_ladd X dJ13_bitCount_95d88_53 ?_
  refine zG_lstore_n X dJ13_bitCount_95d88_54 (by decide) rfl ?_
  refine zG_lload_n X dJ13_bitCount_95d88_55 rfl ?_
  refine zG_l2i X dJ13_bitCount_95d88_56 ?_
  refine zj_bipush X dJ13_bitCount_95d88_57 (by decide) ?_
  refine zG_iand X dJ13_bitCount_95d88_59 ?_
  refine zG_iret X dJ13_bitCount_95d88_60 rfl ?_
  exact zD.of (by rw [← zpop_swar]; rfl) rfl rfl rfl
def tnC (J : Nat → Nat → Int) (G : Nat → Nat → Int64) (q : Int) : Int := if q = 0 then J 1 2 else if q = 1 then J 1 1 else if q = 8 then zpop (G 1 9) else J 1 (q.toNat + 1)
set_option maxHeartbeats 4000000 in
set_option maxRecDepth 100000 in
theorem k_X0_tellNumber (lo d : Nat) (hd : 1 ≤ d) (J : Nat → Nat → Int) (G : Nat → Nat → Int64) (F : Nat → Nat → Option Nat) {q : Int} (h1 : 0 ≤ q) (h2 : q ≤ 13) : zCt lo yX0_tellNumber cX0_tellNumber 2 (some .int) d 0 0 [.ref (lo + 1), .int (zI q)] 57 57 (zM J) G F (zD [.int (zI (tnC J G q))] J G F) := by
  refine zCt.mk (by decide) (mv_X0_tellNumber.2.2.2.1) (Nat.le_of_ble_eq_true rfl) ?_
  intro p l e s m args below meth c D cA X
  have hq : q = 0 ∨ q = 1 ∨ q = 2 ∨ q = 3 ∨ q = 4 ∨ q = 5 ∨ q = 6 ∨ q = 7 ∨ q = 8 ∨ q = 9 ∨ q = 10 ∨ q = 11 ∨ q = 12 ∨ q = 13 := by omega
  rcases hq with rfl | rfl | rfl | rfl | rfl | rfl | rfl | rfl | rfl | rfl | rfl | rfl | rfl | rfl
  · refine zG_iload_n X dX0_tellNumber_0 rfl ?_
    refine zG_switchIn (off := 67) (tgt := 68) X dX0_tellNumber_1 (by decide) (by decide) (by decide) (by decide) ?_
    refine zG_aload_n X dX0_tellNumber_68 rfl ?_
    refine zj_get X dX0_tellNumber_69 fl_X0_56 (by first | rfl | assumption) (by first | decide | omega) (by decide) rfl ?_
    refine zG_iret X dX0_tellNumber_72 rfl ?_
    exact zD.rf
  · refine zG_iload_n X dX0_tellNumber_0 rfl ?_
    refine zG_switchIn (off := 72) (tgt := 73) X dX0_tellNumber_1 (by decide) (by decide) (by decide) (by decide) ?_
    refine zG_aload_n X dX0_tellNumber_73 rfl ?_
    refine zj_get X dX0_tellNumber_74 fl_X0_29 (by first | rfl | assumption) (by first | decide | omega) (by decide) rfl ?_
    refine zG_iret X dX0_tellNumber_77 rfl ?_
    exact zD.rf
  · refine zG_iload_n X dX0_tellNumber_0 rfl ?_
    refine zG_switchIn (off := 77) (tgt := 78) X dX0_tellNumber_1 (by decide) (by decide) (by decide) (by decide) ?_
    refine zG_aload_n X dX0_tellNumber_78 rfl ?_
    refine zj_get X dX0_tellNumber_79 fl_X0_75 (by first | rfl | assumption) (by first | decide | omega) (by decide) rfl ?_
    refine zG_iret X dX0_tellNumber_82 rfl ?_
    exact zD.rf
  · refine zG_iload_n X dX0_tellNumber_0 rfl ?_
    refine zG_switchIn (off := 82) (tgt := 83) X dX0_tellNumber_1 (by decide) (by decide) (by decide) (by decide) ?_
    refine zG_aload_n X dX0_tellNumber_83 rfl ?_
    refine zj_get X dX0_tellNumber_84 fl_X0_107 (by first | rfl | assumption) (by first | decide | omega) (by decide) rfl ?_
    refine zG_iret X dX0_tellNumber_87 rfl ?_
    exact zD.rf
  · refine zG_iload_n X dX0_tellNumber_0 rfl ?_
    refine zG_switchIn (off := 87) (tgt := 88) X dX0_tellNumber_1 (by decide) (by decide) (by decide) (by decide) ?_
    refine zG_aload_n X dX0_tellNumber_88 rfl ?_
    refine zj_get X dX0_tellNumber_89 fl_X0_78 (by first | rfl | assumption) (by first | decide | omega) (by decide) rfl ?_
    refine zG_iret X dX0_tellNumber_92 rfl ?_
    exact zD.rf
  · refine zG_iload_n X dX0_tellNumber_0 rfl ?_
    refine zG_switchIn (off := 92) (tgt := 93) X dX0_tellNumber_1 (by decide) (by decide) (by decide) (by decide) ?_
    refine zG_aload_n X dX0_tellNumber_93 rfl ?_
    refine zj_get X dX0_tellNumber_94 fl_X0_9 (by first | rfl | assumption) (by first | decide | omega) (by decide) rfl ?_
    refine zG_iret X dX0_tellNumber_97 rfl ?_
    exact zD.rf
  · refine zG_iload_n X dX0_tellNumber_0 rfl ?_
    refine zG_switchIn (off := 97) (tgt := 98) X dX0_tellNumber_1 (by decide) (by decide) (by decide) (by decide) ?_
    refine zG_aload_n X dX0_tellNumber_98 rfl ?_
    refine zj_get X dX0_tellNumber_99 fl_X0_15 (by first | rfl | assumption) (by first | decide | omega) (by decide) rfl ?_
    refine zG_iret X dX0_tellNumber_102 rfl ?_
    exact zD.rf
  · refine zG_iload_n X dX0_tellNumber_0 rfl ?_
    refine zG_switchIn (off := 102) (tgt := 103) X dX0_tellNumber_1 (by decide) (by decide) (by decide) (by decide) ?_
    refine zG_aload_n X dX0_tellNumber_103 rfl ?_
    refine zj_get X dX0_tellNumber_104 fl_X0_18 (by first | rfl | assumption) (by first | decide | omega) (by decide) rfl ?_
    refine zG_iret X dX0_tellNumber_107 rfl ?_
    exact zD.rf
  · refine zG_iload_n X dX0_tellNumber_0 rfl ?_
    refine zG_switchIn (off := 107) (tgt := 108) X dX0_tellNumber_1 (by decide) (by decide) (by decide) (by decide) ?_
    refine zG_aload_n X dX0_tellNumber_108 rfl ?_
    refine zG_getL X dX0_tellNumber_109 fl_X0_81 (by first | rfl | assumption) (by first | decide | omega) (by decide) rfl ?_
    refine zj_callS1 (as2 := [_]) X (k_bitCount lo (d - 1) J G F) dX0_tellNumber_112 ms_J13_bitCount_95d88 ml_X0_110 rfl rfl (by show d - 1 + 1 ≤ d; omega) (by show 19 + 2 + 35 * (d - 1) ≤ 35 * (d); omega) (Nat.le_refl _) (Nat.le_refl _) (Nat.le_of_ble_eq_true rfl) ?_
    refine zG_iret X dX0_tellNumber_115 rfl ?_
    exact zD.rf
  · refine zG_iload_n X dX0_tellNumber_0 rfl ?_
    refine zG_switchIn (off := 115) (tgt := 116) X dX0_tellNumber_1 (by decide) (by decide) (by decide) (by decide) ?_
    refine zG_aload_n X dX0_tellNumber_116 rfl ?_
    refine zj_get X dX0_tellNumber_117 fl_X0_41 (by first | rfl | assumption) (by first | decide | omega) (by decide) rfl ?_
    refine zG_iret X dX0_tellNumber_120 rfl ?_
    exact zD.rf
  · refine zG_iload_n X dX0_tellNumber_0 rfl ?_
    refine zG_switchIn (off := 120) (tgt := 121) X dX0_tellNumber_1 (by decide) (by decide) (by decide) (by decide) ?_
    refine zG_aload_n X dX0_tellNumber_121 rfl ?_
    refine zj_get X dX0_tellNumber_122 fl_X0_44 (by first | rfl | assumption) (by first | decide | omega) (by decide) rfl ?_
    refine zG_iret X dX0_tellNumber_125 rfl ?_
    exact zD.rf
  · refine zG_iload_n X dX0_tellNumber_0 rfl ?_
    refine zG_switchIn (off := 125) (tgt := 126) X dX0_tellNumber_1 (by decide) (by decide) (by decide) (by decide) ?_
    refine zG_aload_n X dX0_tellNumber_126 rfl ?_
    refine zj_get X dX0_tellNumber_127 fl_X0_47 (by first | rfl | assumption) (by first | decide | omega) (by decide) rfl ?_
    refine zG_iret X dX0_tellNumber_130 rfl ?_
    exact zD.rf
  · refine zG_iload_n X dX0_tellNumber_0 rfl ?_
    refine zG_switchIn (off := 130) (tgt := 131) X dX0_tellNumber_1 (by decide) (by decide) (by decide) (by decide) ?_
    refine zG_aload_n X dX0_tellNumber_131 rfl ?_
    refine zj_get X dX0_tellNumber_132 fl_X0_85 (by first | rfl | assumption) (by first | decide | omega) (by decide) rfl ?_
    refine zG_iret X dX0_tellNumber_135 rfl ?_
    exact zD.rf
  · refine zG_iload_n X dX0_tellNumber_0 rfl ?_
    refine zG_switchOut (tgt := 136) X dX0_tellNumber_1 (by decide) (by decide) ?_
    refine zG_aload_n X dX0_tellNumber_136 rfl ?_
    refine zj_get X dX0_tellNumber_137 fl_X0_59 (by first | rfl | assumption) (by first | decide | omega) (by decide) rfl ?_
    refine zG_iret X dX0_tellNumber_140 rfl ?_
    exact zD.rf
