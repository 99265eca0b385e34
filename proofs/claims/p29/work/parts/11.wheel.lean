set_option maxHeartbeats 4000000 in
set_option maxRecDepth 100000 in
theorem k_X4_modulo (lo d : Nat) (J : Nat → Nat → Int) (G : Nat → Nat → Int64) (F : Nat → Nat → Option Nat) {a b : Int} (ha : zr a) (hb : zr b) : zCt lo yX4_modulo cX4_modulo 3 (some .int) d 0 0 [.int (zI a), .int (zI b)] 57 57 (zM J) G F (zD [.int (zI (if b ≤ 0 then 0 else a % b))] J G F) := by
  refine zCt.mk (by decide) (ms_X4_modulo.2.2.1) (Nat.le_of_ble_eq_true rfl) ?_
  intro p l e s m args below meth c D cA X
  refine zG_iload_n X dX4_modulo_0 rfl ?_
  refine zj_if_gt X dX4_modulo_1 (tgt := 6) (by decide) (by first | decide | omega) (fun h_1 => ?_) (fun h_1 => ?_)
  · refine zG_iload_n X dX4_modulo_6 rfl ?_
    refine zG_iload_n X dX4_modulo_7 rfl ?_
    refine zj_irem X dX4_modulo_8 (by omega) (by omega) (by omega) ?_
    obtain ⟨hm1, hm2⟩ := ztm_in a b (by omega)
    refine zG_istore_n X dX4_modulo_9 (by decide) rfl ?_
    refine zG_iload_n X dX4_modulo_10 rfl ?_
    refine zj_if_ge X dX4_modulo_11 (tgt := 20) (by decide) (by first | decide | omega) (fun h_11 => ?_) (fun h_11 => ?_)
    · refine zG_iload_n X dX4_modulo_20 rfl ?_
      refine zG_iret X dX4_modulo_21 rfl ?_
      exact zD.of (by rw [if_neg (by omega)]; first | rw [zmd_neg (by omega) (by omega)] | rw [zmd_pos (by omega) (by omega)]) rfl rfl rfl
    · refine zG_iload_n X dX4_modulo_14 rfl ?_
      refine zG_iload_n X dX4_modulo_15 rfl ?_
      refine zj_iadd X dX4_modulo_16 ?_
      refine zG_goto X dX4_modulo_17 (tgt := 21) (by decide) ?_
      refine zG_iret X dX4_modulo_21 rfl ?_
      exact zD.of (by rw [if_neg (by omega)]; first | rw [zmd_neg (by omega) (by omega)] | rw [zmd_pos (by omega) (by omega)]) rfl rfl rfl
  · refine zj_iconst X dX4_modulo_4 ?_
    refine zG_iret X dX4_modulo_5 rfl ?_
    exact zD.of (by rw [if_pos (by omega)]) rfl rfl rfl
theorem zmod_p {a b : Int} (h : 0 < b) : (if b ≤ 0 then 0 else a % b) = a % b := by rw [if_neg (by omega)]
theorem k_modulo (lo d : Nat) (J : Nat → Nat → Int) (G : Nat → Nat → Int64) (F : Nat → Nat → Option Nat) {a b : Int} (ha : zr a) (hb : zr b) (h : 0 < b) : zCt lo yX4_modulo cX4_modulo 3 (some .int) d 0 0 [.int (zI a), .int (zI b)] 57 57 (zM J) G F (zD [.int (zI (a % b))] J G F) := by
  have := k_X4_modulo lo d J G F ha hb
  rw [zmod_p h] at this
  exact this
set_option maxHeartbeats 4000000 in
set_option maxRecDepth 100000 in
theorem k_X3_hasSkip (lo d : Nat) (J : Nat → Nat → Int) (G : Nat → Nat → Int64) (F : Nat → Nat → Option Nat) {a : Nat} (hs : zShape[a]? = some (.inl 3)) (han : a < 57) (h3 : zr (J a 3)) : zCt lo yX3_hasSkip cX3_hasSkip 1 (some .boolean) d 0 0 [.ref (lo + a)] 57 57 (zM J) G F (zD [.int (zI (if J a 3 = -1 then 0 else 1))] J G F) := by
  refine zCt.mk (by decide) (mv_X3_hasSkip.2.2.2.1) (Nat.le_of_ble_eq_true rfl) ?_
  intro p l e s m args below meth c D cA X
  refine zG_aload_n X dX3_hasSkip_0 rfl ?_
  refine zj_get X dX3_hasSkip_1 fl_X3_15 (by first | rfl | assumption) (by first | decide | omega) (by decide) rfl ?_
  refine zj_iconst X dX3_hasSkip_4 ?_
  refine zj_icmp_eq X dX3_hasSkip_5 (tgt := 12) (by decide) (by first | decide | omega) (by first | decide | omega) (fun h_5 => ?_) (fun h_5 => ?_)
  · refine zj_iconst X dX3_hasSkip_12 ?_
    refine zG_zret X dX3_hasSkip_13 rfl (by first | rfl | assumption) ?_
    exact zD.of (by (repeat' split) <;> first | rfl | omega) rfl rfl rfl
  · refine zj_iconst X dX3_hasSkip_8 ?_
    refine zG_goto X dX3_hasSkip_9 (tgt := 13) (by decide) ?_
    refine zG_zret X dX3_hasSkip_13 rfl (by first | rfl | assumption) ?_
    exact zD.of (by (repeat' split) <;> first | rfl | omega) rfl rfl rfl
set_option maxHeartbeats 4000000 in
set_option maxRecDepth 100000 in
theorem k_X3_skipAt (lo d : Nat) (J : Nat → Nat → Int) (G : Nat → Nat → Int64) (F : Nat → Nat → Option Nat) {a : Nat} (hs : zShape[a]? = some (.inl 3)) (han : a < 57) {u v x : Int} : zCt lo yX3_skipAt cX3_skipAt 4 none d 0 0 [.ref (lo + a), .int (zI u), .int (zI v), .int (zI x)] 57 57 (zM J) G F (zD [] (zup (zup (zup J a 3 u) a 4 v) a 5 x) G F) := by
  refine zCt.mk (by decide) (mv_X3_skipAt.2.2.2.1) (Nat.le_of_ble_eq_true rfl) ?_
  intro p l e s m args below meth c D cA X
  refine zG_aload_n X dX3_skipAt_0 rfl ?_
  refine zG_iload_n X dX3_skipAt_1 rfl ?_
  refine zj_put X dX3_skipAt_2 fl_X3_15 (by first | rfl | assumption) (by first | decide | omega) (by decide) rfl rfl ?_
  refine zG_aload_n X dX3_skipAt_5 rfl ?_
  refine zG_iload_n X dX3_skipAt_6 rfl ?_
  refine zj_put X dX3_skipAt_7 fl_X3_18 (by first | rfl | assumption) (by first | decide | omega) (by decide) rfl rfl ?_
  refine zG_aload_n X dX3_skipAt_10 rfl ?_
  refine zG_iload_n X dX3_skipAt_11 rfl ?_
  refine zj_put X dX3_skipAt_12 fl_X3_34 (by first | rfl | assumption) (by first | decide | omega) (by decide) rfl rfl ?_
  refine zG_vret X dX3_skipAt_15 rfl ?_
  exact zD.rf
set_option maxHeartbeats 4000000 in
set_option maxRecDepth 100000 in
theorem k_X3_skipNever (lo d : Nat) (hd : 1 ≤ d) (J : Nat → Nat → Int) (G : Nat → Nat → Int64) (F : Nat → Nat → Option Nat) {a : Nat} (hs : zShape[a]? = some (.inl 3)) (han : a < 57) : zCt lo yX3_skipNever cX3_skipNever 1 none d 0 0 [.ref (lo + a)] 57 57 (zM J) G F (zD [] (zup (zup (zup J a 3 (-1)) a 4 (-1)) a 5 0) G F) := by
  refine zCt.mk (by decide) (mv_X3_skipNever.2.2.2.1) (Nat.le_of_ble_eq_true rfl) ?_
  intro p l e s m args below meth c D cA X
  refine zG_aload_n X dX3_skipNever_0 rfl ?_
  refine zj_iconst X dX3_skipNever_1 ?_
  refine zj_iconst X dX3_skipNever_2 ?_
  refine zj_iconst X dX3_skipNever_3 ?_
  refine zj_callV0 (as2 := [_, _, _]) X (k_X3_skipAt lo (d - 1) _ _ _ hs han) dX3_skipNever_4 mv_X3_skipAt ml_X3_30 (by first | rfl | assumption) rfl (by first | decide | omega) rfl rfl (by show d - 1 + 1 ≤ d; omega) (by show 19 + 4 + 35 * (d - 1) ≤ 35 * (d); omega) (Nat.le_of_ble_eq_true rfl) (Nat.le_of_ble_eq_true rfl) (Nat.le_of_ble_eq_true rfl) ?_
  refine zG_vret X dX3_skipNever_7 rfl ?_
  exact zD.rf
set_option maxHeartbeats 4000000 in
set_option maxRecDepth 100000 in
theorem k_X3_make (lo d : Nat) (hd : 2 ≤ d) (J : Nat → Nat → Int) (G : Nat → Nat → Int64) (F : Nat → Nat → Option Nat) {a : Nat} (hs : zShape[a]? = some (.inl 3)) (han : a < 57) {u v : Int} : zCt lo yX3_make cX3_make 3 none d 0 0 [.ref (lo + a), .int (zI u), .int (zI v)] 57 57 (zM J) G F (zD [] (zup (zup (zup (zup (zup (zup J a 0 u) a 1 v) a 2 0) a 3 (-1)) a 4 (-1)) a 5 0) G F) := by
  refine zCt.mk (by decide) (mv_X3_make.2.2.2.1) (Nat.le_of_ble_eq_true rfl) ?_
  intro p l e s m args below meth c D cA X
  refine zG_aload_n X dX3_make_0 rfl ?_
  refine zG_iload_n X dX3_make_1 rfl ?_
  refine zj_put X dX3_make_2 fl_X3_9 (by first | rfl | assumption) (by first | decide | omega) (by decide) rfl rfl ?_
  refine zG_aload_n X dX3_make_5 rfl ?_
  refine zG_iload_n X dX3_make_6 rfl ?_
  refine zj_put X dX3_make_7 fl_X3_21 (by first | rfl | assumption) (by first | decide | omega) (by decide) rfl rfl ?_
  refine zG_aload_n X dX3_make_10 rfl ?_
  refine zj_iconst X dX3_make_11 ?_
  refine zj_put X dX3_make_12 fl_X3_24 (by first | rfl | assumption) (by first | decide | omega) (by decide) rfl rfl ?_
  refine zG_aload_n X dX3_make_15 rfl ?_
  refine zj_callV0 (as2 := []) X (k_X3_skipNever lo (d - 1) (by omega) _ _ _ hs han) dX3_make_16 mv_X3_skipNever ml_X3_27 (by first | rfl | assumption) rfl (by first | decide | omega) rfl rfl (by show d - 1 + 1 ≤ d; omega) (by show 19 + 1 + 35 * (d - 1) ≤ 35 * (d); omega) (Nat.le_of_ble_eq_true rfl) (Nat.le_of_ble_eq_true rfl) (Nat.le_of_ble_eq_true rfl) ?_
  refine zG_vret X dX3_make_19 rfl ?_
  exact zD.rf
theorem cpW_ups {J : Nat → Nat → Int} {a b : Nat} : zup (zup (zup (zup (zup (zup (zup J a 0 (J b 0)) a 1 (J b 1)) a 2 (J b 2)) a 3 (J b 3)) a 4 (J b 4)) a 5 (J b 5)) a 6 (J b 6) = cpW J a b := by
  funext x i
  by_cases hx : x = a
  · subst hx
    by_cases hi : i < 7
    · have : i = 0 ∨ i = 1 ∨ i = 2 ∨ i = 3 ∨ i = 4 ∨ i = 5 ∨ i = 6 := by omega
      rcases this with rfl | rfl | rfl | rfl | rfl | rfl | rfl <;> simp [zup, cpW]
    · simp only [cpW, zup]
      repeat rw [if_neg (by omega)]
  · simp [zup, cpW, hx]
set_option maxHeartbeats 4000000 in
set_option maxRecDepth 100000 in
theorem k_X3_copyFrom (lo d : Nat) (J : Nat → Nat → Int) (G : Nat → Nat → Int64) (F : Nat → Nat → Option Nat) {a : Nat} (hs : zShape[a]? = some (.inl 3)) (han : a < 57) {b : Nat} (hsb : zShape[b]? = some (.inl 3)) (hbn : b < 57) : zCt lo yX3_copyFrom cX3_copyFrom 2 none d 0 0 [.ref (lo + a), .ref (lo + b)] 57 57 (zM J) G F (zD [] (cpW J a b) G F) := by
  refine zCt.mk (by decide) (mv_X3_copyFrom.2.2.2.1) (Nat.le_of_ble_eq_true rfl) ?_
  intro p l e s m args below meth c D cA X
  refine zG_aload_n X dX3_copyFrom_0 rfl ?_
  refine zG_aload_n X dX3_copyFrom_1 rfl ?_
  refine zj_getv (v := J b 0) X dX3_copyFrom_2 fl_X3_9 (by first | rfl | assumption) (by first | decide | omega) (by decide) rfl (by simp [zup]) ?_
  refine zj_put X dX3_copyFrom_5 fl_X3_9 (by first | rfl | assumption) (by first | decide | omega) (by decide) rfl rfl ?_
  refine zG_aload_n X dX3_copyFrom_8 rfl ?_
  refine zG_aload_n X dX3_copyFrom_9 rfl ?_
  refine zj_getv (v := J b 1) X dX3_copyFrom_10 fl_X3_21 (by first | rfl | assumption) (by first | decide | omega) (by decide) rfl (by simp [zup]) ?_
  refine zj_put X dX3_copyFrom_13 fl_X3_21 (by first | rfl | assumption) (by first | decide | omega) (by decide) rfl rfl ?_
  refine zG_aload_n X dX3_copyFrom_16 rfl ?_
  refine zG_aload_n X dX3_copyFrom_17 rfl ?_
  refine zj_getv (v := J b 2) X dX3_copyFrom_18 fl_X3_24 (by first | rfl | assumption) (by first | decide | omega) (by decide) rfl (by simp [zup]) ?_
  refine zj_put X dX3_copyFrom_21 fl_X3_24 (by first | rfl | assumption) (by first | decide | omega) (by decide) rfl rfl ?_
  refine zG_aload_n X dX3_copyFrom_24 rfl ?_
  refine zG_aload_n X dX3_copyFrom_25 rfl ?_
  refine zj_getv (v := J b 3) X dX3_copyFrom_26 fl_X3_15 (by first | rfl | assumption) (by first | decide | omega) (by decide) rfl (by simp [zup]) ?_
  refine zj_put X dX3_copyFrom_29 fl_X3_15 (by first | rfl | assumption) (by first | decide | omega) (by decide) rfl rfl ?_
  refine zG_aload_n X dX3_copyFrom_32 rfl ?_
  refine zG_aload_n X dX3_copyFrom_33 rfl ?_
  refine zj_getv (v := J b 4) X dX3_copyFrom_34 fl_X3_18 (by first | rfl | assumption) (by first | decide | omega) (by decide) rfl (by simp [zup]) ?_
  refine zj_put X dX3_copyFrom_37 fl_X3_18 (by first | rfl | assumption) (by first | decide | omega) (by decide) rfl rfl ?_
  refine zG_aload_n X dX3_copyFrom_40 rfl ?_
  refine zG_aload_n X dX3_copyFrom_41 rfl ?_
  refine zj_getv (v := J b 5) X dX3_copyFrom_42 fl_X3_34 (by first | rfl | assumption) (by first | decide | omega) (by decide) rfl (by simp [zup]) ?_
  refine zj_put X dX3_copyFrom_45 fl_X3_34 (by first | rfl | assumption) (by first | decide | omega) (by decide) rfl rfl ?_
  refine zG_aload_n X dX3_copyFrom_48 rfl ?_
  refine zG_aload_n X dX3_copyFrom_49 rfl ?_
  refine zj_getv (v := J b 6) X dX3_copyFrom_50 fl_X3_37 (by first | rfl | assumption) (by first | decide | omega) (by decide) rfl (by simp [zup]) ?_
  refine zj_put X dX3_copyFrom_53 fl_X3_37 (by first | rfl | assumption) (by first | decide | omega) (by decide) rfl rfl ?_
  refine zG_vret X dX3_copyFrom_56 rfl ?_
  exact zD.of rfl cpW_ups rfl rfl
set_option maxHeartbeats 4000000 in
set_option maxRecDepth 100000 in
theorem k_X0_has (lo d : Nat) (J : Nat → Nat → Int) (G : Nat → Nat → Int64) (F : Nat → Nat → Option Nat) {k : Int} (hk : zr k) (hc : zr (J 1 1)) : zCt lo yX0_has cX0_has 2 (some .boolean) d 0 0 [.ref (lo + 1), .int (zI k)] 57 57 (zM J) G F (zD [.int (zI (if 0 ≤ k ∧ k < J 1 1 then 1 else 0))] J G F) := by
  refine zCt.mk (by decide) (mv_X0_has.2.2.2.1) (Nat.le_of_ble_eq_true rfl) ?_
  intro p l e s m args below meth c D cA X
  refine zG_iload_n X dX0_has_0 rfl ?_
  refine zj_if_lt X dX0_has_1 (tgt := 16) (by decide) (by first | decide | omega) (fun h_1 => ?_) (fun h_1 => ?_)
  · refine zj_iconst X dX0_has_16 ?_
    refine zG_zret X dX0_has_17 rfl (by first | rfl | assumption) ?_
    exact zD.of (by (repeat' split) <;> first | rfl | omega) rfl rfl rfl
  · refine zG_iload_n X dX0_has_4 rfl ?_
    refine zG_aload_n X dX0_has_5 rfl ?_
    refine zj_get X dX0_has_6 fl_X0_29 (by first | rfl | assumption) (by first | decide | omega) (by decide) rfl ?_
    refine zj_icmp_ge X dX0_has_9 (tgt := 16) (by decide) (by first | decide | omega) (by first | decide | omega) (fun h_9 => ?_) (fun h_9 => ?_)
    · refine zj_iconst X dX0_has_16 ?_
      refine zG_zret X dX0_has_17 rfl (by first | rfl | assumption) ?_
      exact zD.of (by (repeat' split) <;> first | rfl | omega) rfl rfl rfl
    · refine zj_iconst X dX0_has_12 ?_
      refine zG_goto X dX0_has_13 (tgt := 17) (by decide) ?_
      refine zG_zret X dX0_has_17 rfl (by first | rfl | assumption) ?_
      exact zD.of (by (repeat' split) <;> first | rfl | omega) rfl rfl rfl
set_option maxHeartbeats 4000000 in
set_option maxRecDepth 100000 in
theorem k_X0_hasTooth (lo d : Nat) (hd : 1 ≤ d) (J : Nat → Nat → Int) (G : Nat → Nat → Int64) (F : Nat → Nat → Option Nat) (hF : zFk F) {k t : Int} (hk : zr k) (ht : zr t) (hc : cOk J 1) : zCt lo yX0_hasTooth cX0_hasTooth 3 (some .boolean) d 0 0 [.ref (lo + 1), .int (zI k), .int (zI t)] 57 57 (zM J) G F (zD [.int (zI (if (0 ≤ k ∧ k < J 1 1) ∧ 0 ≤ t ∧ t < J (3 + k.toNat) 0 then 1 else 0))] J G F) := by
  refine zCt.mk (by decide) (mv_X0_hasTooth.2.2.2.1) (Nat.le_of_ble_eq_true rfl) ?_
  intro p l e s m args below meth c D cA X
  have hcf := cOk_f hc
  refine zG_aload_n X dX0_hasTooth_0 rfl ?_
  refine zG_iload_n X dX0_hasTooth_1 rfl ?_
  refine zj_callV1 (as2 := [_]) X (k_X0_has lo (d - 1) J G F hk (by omega)) dX0_hasTooth_2 mv_X0_has ml_X0_32 (by first | rfl | assumption) rfl (by first | decide | omega) rfl rfl (by show d - 1 + 1 ≤ d; omega) (by show 19 + 2 + 35 * (d - 1) ≤ 35 * (d); omega) (Nat.le_of_ble_eq_true rfl) (Nat.le_of_ble_eq_true rfl) (Nat.le_of_ble_eq_true rfl) ?_
  by_cases hh : 0 ≤ k ∧ k < J 1 1
  rw [if_pos hh]
  have hw := cOk_w1 hc (k := k.toNat) (by omega)
  have hs3 := zSh_w (i := k.toNat) (by omega)
  rotate_left
  rw [if_neg hh]
  refine zj_if_eq X dX0_hasTooth_5 (tgt := 29) (by decide) (by decide) (fun h_5 => ?_) (fun h_5 => absurd rfl h_5)
  refine zj_iconst X dX0_hasTooth_29 ?_
  refine zG_zret X dX0_hasTooth_30 rfl rfl ?_
  exact zD.of (by rw [if_neg (fun q => hh q.1)]) rfl rfl rfl
  refine zj_if_eq X dX0_hasTooth_5 (tgt := 29) (by decide) (by decide) (fun h_5 => absurd h_5 (by decide)) (fun h_5 => ?_)
  refine zG_iload_n X dX0_hasTooth_8 rfl ?_
  refine zj_if_lt X dX0_hasTooth_9 (tgt := 29) (by decide) (by first | decide | omega) (fun h_9 => ?_) (fun h_9 => ?_)
  · refine zj_iconst X dX0_hasTooth_29 ?_
    refine zG_zret X dX0_hasTooth_30 rfl (by first | rfl | assumption) ?_
    exact zD.of (by (repeat' split) <;> first | rfl | omega) rfl rfl rfl
  · refine zG_iload_n X dX0_hasTooth_12 rfl ?_
    refine zG_aload_n X dX0_hasTooth_13 rfl ?_
    refine zG_getR X dX0_hasTooth_14 fl_X0_25 (by first | rfl | assumption) (by first | decide | omega) (by decide) rfl (by first | exact zF_at hF rfl rfl | assumption) ?_
    refine zG_iload_n X dX0_hasTooth_17 rfl ?_
    refine zj_aaload5 X dX0_hasTooth_18 (by first | rfl | assumption) (by first | decide | omega) (k.toNat) (by omega) (by omega) (by first | exact zF_at hF rfl rfl | exact zF_w1 hF (by omega) | assumption) ?_
    refine zj_get X dX0_hasTooth_19 fl_X0_36 (by first | rfl | assumption) (by first | decide | omega) (by decide) rfl ?_
    refine zj_icmp_ge X dX0_hasTooth_22 (tgt := 29) (by decide) (by first | decide | omega) (by first | decide | omega) (fun h_22 => ?_) (fun h_22 => ?_)
    · refine zj_iconst X dX0_hasTooth_29 ?_
      refine zG_zret X dX0_hasTooth_30 rfl (by first | rfl | assumption) ?_
      exact zD.of (by (repeat' split) <;> first | rfl | omega) rfl rfl rfl
    · refine zj_iconst X dX0_hasTooth_25 ?_
      refine zG_goto X dX0_hasTooth_26 (tgt := 30) (by decide) ?_
      refine zG_zret X dX0_hasTooth_30 rfl (by first | rfl | assumption) ?_
      exact zD.of (by (repeat' split) <;> first | rfl | omega) rfl rfl rfl
set_option maxHeartbeats 4000000 in
set_option maxRecDepth 100000 in
theorem k_X0_countMarket (lo d : Nat) (J : Nat → Nat → Int) (G : Nat → Nat → Int64) (F : Nat → Nat → Option Nat) {f : Int} (hf : zr f) : zCt lo yX0_countMarket cX0_countMarket 2 none d 0 0 [.ref (lo + 1), .int (zI f)] 57 57 (zM J) G F (zD [] (if f = 1 then zup J 1 10 (J 1 10 + 1) else if f = 2 then zup J 1 11 (J 1 11 + 1) else if f = 3 then zup J 1 12 (J 1 12 + 1) else J) G F) := by
  refine zCt.mk (by decide) (mv_X0_countMarket.2.2.2.1) (Nat.le_of_ble_eq_true rfl) ?_
  intro p l e s m args below meth c D cA X
  refine zG_iload_n X dX0_countMarket_0 rfl ?_
  refine zj_iconst X dX0_countMarket_1 ?_
  refine zj_icmp_ne X dX0_countMarket_2 (tgt := 18) (by decide) (by first | decide | omega) (by first | decide | omega) (fun h_2 => ?_) (fun h_2 => ?_)
  · refine zG_iload_n X dX0_countMarket_18 rfl ?_
    refine zj_iconst X dX0_countMarket_19 ?_
    refine zj_icmp_ne X dX0_countMarket_20 (tgt := 36) (by decide) (by first | decide | omega) (by first | decide | omega) (fun h_20 => ?_) (fun h_20 => ?_)
    · refine zG_iload_n X dX0_countMarket_36 rfl ?_
      refine zj_iconst X dX0_countMarket_37 ?_
      refine zj_icmp_ne X dX0_countMarket_38 (tgt := 51) (by decide) (by first | decide | omega) (by first | decide | omega) (fun h_38 => ?_) (fun h_38 => ?_)
      · refine zG_vret X dX0_countMarket_51 rfl ?_
        exact zD.of rfl (by (repeat' split) <;> first | rfl | omega) rfl rfl
      · refine zG_aload_n X dX0_countMarket_41 rfl ?_
        refine zG_dup X dX0_countMarket_42 rfl ?_
        refine zj_get X dX0_countMarket_43 fl_X0_47 (by first | rfl | assumption) (by first | decide | omega) (by decide) rfl ?_
        refine zj_iconst X dX0_countMarket_46 ?_
        refine zj_iadd X dX0_countMarket_47 ?_
        refine zj_put X dX0_countMarket_48 fl_X0_47 (by first | rfl | assumption) (by first | decide | omega) (by decide) rfl rfl ?_
        refine zG_vret X dX0_countMarket_51 rfl ?_
        exact zD.of rfl (by (repeat' split) <;> first | rfl | omega) rfl rfl
    · refine zG_aload_n X dX0_countMarket_23 rfl ?_
      refine zG_dup X dX0_countMarket_24 rfl ?_
      refine zj_get X dX0_countMarket_25 fl_X0_44 (by first | rfl | assumption) (by first | decide | omega) (by decide) rfl ?_
      refine zj_iconst X dX0_countMarket_28 ?_
      refine zj_iadd X dX0_countMarket_29 ?_
      refine zj_put X dX0_countMarket_30 fl_X0_44 (by first | rfl | assumption) (by first | decide | omega) (by decide) rfl rfl ?_
      refine zG_goto X dX0_countMarket_33 (tgt := 51) (by decide) ?_
      refine zG_vret X dX0_countMarket_51 rfl ?_
      exact zD.of rfl (by (repeat' split) <;> first | rfl | omega) rfl rfl
  · refine zG_aload_n X dX0_countMarket_5 rfl ?_
    refine zG_dup X dX0_countMarket_6 rfl ?_
    refine zj_get X dX0_countMarket_7 fl_X0_41 (by first | rfl | assumption) (by first | decide | omega) (by decide) rfl ?_
    refine zj_iconst X dX0_countMarket_10 ?_
    refine zj_iadd X dX0_countMarket_11 ?_
    refine zj_put X dX0_countMarket_12 fl_X0_41 (by first | rfl | assumption) (by first | decide | omega) (by decide) rfl rfl ?_
    refine zG_goto X dX0_countMarket_15 (tgt := 51) (by decide) ?_
    refine zG_vret X dX0_countMarket_51 rfl ?_
    exact zD.of rfl (by (repeat' split) <;> first | rfl | omega) rfl rfl
set_option maxHeartbeats 4000000 in
set_option maxRecDepth 100000 in
theorem k_X0_almanacPosition (lo d : Nat) (hd : 1 ≤ d) (J : Nat → Nat → Int) (G : Nat → Nat → Int64) (F : Nat → Nat → Option Nat) {a : Nat} (hs : zShape[a]? = some (.inl 3)) (han : a < 57) {o : Int} (h1 : zr (J a 6 + (o - J 1 14))) (h2 : 0 < J a 0) (h3 : zr (J a 0)) : zCt lo yX0_almanacPosition cX0_almanacPosition 3 (some .int) d 0 0 [.ref (lo + 1), .ref (lo + a), .int (zI o)] 57 57 (zM J) G F (zD [.int (zI ((J a 6 + (o - J 1 14)) % J a 0))] J G F) := by
  refine zCt.mk (by decide) (mv_X0_almanacPosition.2.2.2.1) (Nat.le_of_ble_eq_true rfl) ?_
  intro p l e s m args below meth c D cA X
  refine zG_aload_n X dX0_almanacPosition_0 rfl ?_
  refine zj_get X dX0_almanacPosition_1 fl_X0_53 (by first | rfl | assumption) (by first | decide | omega) (by decide) rfl ?_
  refine zG_iload_n X dX0_almanacPosition_4 rfl ?_
  refine zG_aload_n X dX0_almanacPosition_5 rfl ?_
  refine zj_get X dX0_almanacPosition_6 fl_X0_59 (by first | rfl | assumption) (by first | decide | omega) (by decide) rfl ?_
  refine zj_isub X dX0_almanacPosition_9 ?_
  refine zj_iadd X dX0_almanacPosition_10 ?_
  refine zG_aload_n X dX0_almanacPosition_11 rfl ?_
  refine zj_get X dX0_almanacPosition_12 fl_X0_36 (by first | rfl | assumption) (by first | decide | omega) (by decide) rfl ?_
  refine zj_callS1 (as2 := [_, _]) X (k_modulo lo (d - 1) J G F h1 h3 h2) dX0_almanacPosition_15 ms_X4_modulo ml_X0_62 rfl rfl (by show d - 1 + 1 ≤ d; omega) (by show 19 + 3 + 35 * (d - 1) ≤ 35 * (d); omega) (Nat.le_of_ble_eq_true rfl) (Nat.le_of_ble_eq_true rfl) (Nat.le_of_ble_eq_true rfl) ?_
  refine zG_iret X dX0_almanacPosition_18 rfl ?_
  exact zD.rf
theorem cpH_ups {J : Nat → Nat → Int} {h o : Nat} : zup (zup (zup (zup (zup (zup (zup (zup (zup (zup (zup (zup (zup (cpWs J (h + 2) (o + 2) 5) h 1 (J o 1)) h 2 (J o 2)) h 3 (J o 3)) h 4 (J o 4)) h 5 (J o 5)) h 6 (J o 6)) h 7 (J o 7)) h 8 (J o 8)) h 10 (J o 10)) h 11 (J o 11)) h 12 (J o 12)) h 13 (J o 13)) h 14 (J o 14) = cpH J h o := by
  funext x i
  by_cases hx : x = h
  · subst hx
    by_cases hi : 1 ≤ i ∧ i ≤ 14 ∧ i ≠ 9
    · have : i = 1 ∨ i = 2 ∨ i = 3 ∨ i = 4 ∨ i = 5 ∨ i = 6 ∨ i = 7 ∨ i = 8 ∨ i = 10 ∨ i = 11 ∨ i = 12 ∨ i = 13 ∨ i = 14 := by omega
      rcases this with rfl | rfl | rfl | rfl | rfl | rfl | rfl | rfl | rfl | rfl | rfl | rfl | rfl <;> simp [zup, cpH]
    · simp only [cpH, zup, cpWs]
      repeat rw [if_neg (by omega)]
  · simp only [zup, hx, false_and, if_false, cpH, cpWs]
    all_goals (by_cases h2 : h + 2 ≤ x ∧ x < h + 2 + 5 ∧ i < 7 <;> first | (rw [if_pos h2, if_pos (by omega)]; done) | (rw [if_neg h2, if_neg (by omega)]; done))
set_option maxHeartbeats 4000000 in
set_option maxRecDepth 100000 in
theorem k_X0_copyFrom (lo d : Nat) (hd : 1 ≤ d) (J : Nat → Nat → Int) (G : Nat → Nat → Int64) (F : Nat → Nat → Option Nat) (hF : zFk F) {h o : Nat} (hh : zHo h) (ho : zHo o) (hne : h ≠ o) : zCt lo yX0_copyFrom cX0_copyFrom 3 none d 0 0 [.ref (lo + h), .ref (lo + o)] 57 57 (zM J) G F (zD [] (cpH J h o) (zup G h 9 (G o 9)) F) := by
  refine zCt.mk (by decide) (mv_X0_copyFrom.2.2.2.1) (Nat.le_of_ble_eq_true rfl) ?_
  intro p l e s m args below meth c D cA X
  have hs0 := zHo_s0 hh
  have hs1 := zHo_s1 hh
  have ho0 := zHo_s0 ho
  have ho1 := zHo_s1 ho
  have hn := zHo_lt hh
  have hon := zHo_lt ho
  have hap := zHo_ap hh ho hne
  have hf0 := zHo_F0 hF hh
  have hf1 := zHo_F0 hF ho
  have loop : ∀ (q k : Nat), k + q = 5 → zG p l e { frames := d, cells := 0, slots := 0, locals := 35 * d } s m args below meth c D cA lo 3 0 0 (MQ below (zQ D cA lo 57 (zD [] (cpH J h o) (zup G h 9 (G o 9)) F)) args s 0 0 (fun q => lo ≤ q)) 57 (zM (cpWs J (h + 2) (o + 2) k)) G F [some (.ref (lo + h)), some (.ref (lo + o)), some (.int (zI (k : Int)))] [] 2 := by
    intro q
    induction q with
    | zero =>
      intro k hk
      refine zG_iload_n X dX0_copyFrom_2 rfl ?_
      refine zj_iconst X dX0_copyFrom_3 ?_
      refine zj_icmp_ge X dX0_copyFrom_4 (tgt := 28) (by decide) (by first | decide | omega) (by first | decide | omega) (fun h_4 => ?_) (fun h_4 => ?_)
      · refine zG_aload_n X dX0_copyFrom_28 rfl ?_
        refine zG_aload_n X dX0_copyFrom_29 rfl ?_
        refine zj_getv (v := J o 1) X dX0_copyFrom_30 fl_X0_29 (by first | rfl | assumption) (by first | decide | omega) (by decide) rfl (by simp only [zup, cpWs]; repeat rw [if_neg (by omega)]) ?_
        refine zj_put X dX0_copyFrom_33 fl_X0_29 (by first | rfl | assumption) (by first | decide | omega) (by decide) rfl rfl ?_
        refine zG_aload_n X dX0_copyFrom_36 rfl ?_
        refine zG_aload_n X dX0_copyFrom_37 rfl ?_
        refine zj_getv (v := J o 2) X dX0_copyFrom_38 fl_X0_56 (by first | rfl | assumption) (by first | decide | omega) (by decide) rfl (by simp only [zup, cpWs]; repeat rw [if_neg (by omega)]) ?_
        refine zj_put X dX0_copyFrom_41 fl_X0_56 (by first | rfl | assumption) (by first | decide | omega) (by decide) rfl rfl ?_
        refine zG_aload_n X dX0_copyFrom_44 rfl ?_
        refine zG_aload_n X dX0_copyFrom_45 rfl ?_
        refine zj_getv (v := J o 3) X dX0_copyFrom_46 fl_X0_75 (by first | rfl | assumption) (by first | decide | omega) (by decide) rfl (by simp only [zup, cpWs]; repeat rw [if_neg (by omega)]) ?_
        refine zj_put X dX0_copyFrom_49 fl_X0_75 (by first | rfl | assumption) (by first | decide | omega) (by decide) rfl rfl ?_
        refine zG_aload_n X dX0_copyFrom_52 rfl ?_
        refine zG_aload_n X dX0_copyFrom_53 rfl ?_
        refine zj_getv (v := J o 4) X dX0_copyFrom_54 fl_X0_107 (by first | rfl | assumption) (by first | decide | omega) (by decide) rfl (by simp only [zup, cpWs]; repeat rw [if_neg (by omega)]) ?_
        refine zj_put X dX0_copyFrom_57 fl_X0_107 (by first | rfl | assumption) (by first | decide | omega) (by decide) rfl rfl ?_
        refine zG_aload_n X dX0_copyFrom_60 rfl ?_
        refine zG_aload_n X dX0_copyFrom_61 rfl ?_
        refine zj_getv (v := J o 5) X dX0_copyFrom_62 fl_X0_78 (by first | rfl | assumption) (by first | decide | omega) (by decide) rfl (by simp only [zup, cpWs]; repeat rw [if_neg (by omega)]) ?_
        refine zj_put X dX0_copyFrom_65 fl_X0_78 (by first | rfl | assumption) (by first | decide | omega) (by decide) rfl rfl ?_
        refine zG_aload_n X dX0_copyFrom_68 rfl ?_
        refine zG_aload_n X dX0_copyFrom_69 rfl ?_
        refine zj_getv (v := J o 6) X dX0_copyFrom_70 fl_X0_9 (by first | rfl | assumption) (by first | decide | omega) (by decide) rfl (by simp only [zup, cpWs]; repeat rw [if_neg (by omega)]) ?_
        refine zj_put X dX0_copyFrom_73 fl_X0_9 (by first | rfl | assumption) (by first | decide | omega) (by decide) rfl rfl ?_
        refine zG_aload_n X dX0_copyFrom_76 rfl ?_
        refine zG_aload_n X dX0_copyFrom_77 rfl ?_
        refine zj_getv (v := J o 7) X dX0_copyFrom_78 fl_X0_15 (by first | rfl | assumption) (by first | decide | omega) (by decide) rfl (by simp only [zup, cpWs]; repeat rw [if_neg (by omega)]) ?_
        refine zj_put X dX0_copyFrom_81 fl_X0_15 (by first | rfl | assumption) (by first | decide | omega) (by decide) rfl rfl ?_
        refine zG_aload_n X dX0_copyFrom_84 rfl ?_
        refine zG_aload_n X dX0_copyFrom_85 rfl ?_
        refine zj_getv (v := J o 8) X dX0_copyFrom_86 fl_X0_18 (by first | rfl | assumption) (by first | decide | omega) (by decide) rfl (by simp only [zup, cpWs]; repeat rw [if_neg (by omega)]) ?_
        refine zj_put X dX0_copyFrom_89 fl_X0_18 (by first | rfl | assumption) (by first | decide | omega) (by decide) rfl rfl ?_
        refine zG_aload_n X dX0_copyFrom_92 rfl ?_
        refine zG_aload_n X dX0_copyFrom_93 rfl ?_
        refine zG_getL X dX0_copyFrom_94 fl_X0_81 (by first | rfl | assumption) (by first | decide | omega) (by decide) rfl ?_
        refine zG_putL X dX0_copyFrom_97 fl_X0_81 (by first | rfl | assumption) (by first | decide | omega) (by decide) rfl rfl rfl rfl ?_
        refine zG_aload_n X dX0_copyFrom_100 rfl ?_
        refine zG_aload_n X dX0_copyFrom_101 rfl ?_
        refine zj_getv (v := J o 10) X dX0_copyFrom_102 fl_X0_41 (by first | rfl | assumption) (by first | decide | omega) (by decide) rfl (by simp only [zup, cpWs]; repeat rw [if_neg (by omega)]) ?_
        refine zj_put X dX0_copyFrom_105 fl_X0_41 (by first | rfl | assumption) (by first | decide | omega) (by decide) rfl rfl ?_
        refine zG_aload_n X dX0_copyFrom_108 rfl ?_
        refine zG_aload_n X dX0_copyFrom_109 rfl ?_
        refine zj_getv (v := J o 11) X dX0_copyFrom_110 fl_X0_44 (by first | rfl | assumption) (by first | decide | omega) (by decide) rfl (by simp only [zup, cpWs]; repeat rw [if_neg (by omega)]) ?_
        refine zj_put X dX0_copyFrom_113 fl_X0_44 (by first | rfl | assumption) (by first | decide | omega) (by decide) rfl rfl ?_
        refine zG_aload_n X dX0_copyFrom_116 rfl ?_
        refine zG_aload_n X dX0_copyFrom_117 rfl ?_
        refine zj_getv (v := J o 12) X dX0_copyFrom_118 fl_X0_47 (by first | rfl | assumption) (by first | decide | omega) (by decide) rfl (by simp only [zup, cpWs]; repeat rw [if_neg (by omega)]) ?_
        refine zj_put X dX0_copyFrom_121 fl_X0_47 (by first | rfl | assumption) (by first | decide | omega) (by decide) rfl rfl ?_
        refine zG_aload_n X dX0_copyFrom_124 rfl ?_
        refine zG_aload_n X dX0_copyFrom_125 rfl ?_
        refine zj_getv (v := J o 13) X dX0_copyFrom_126 fl_X0_85 (by first | rfl | assumption) (by first | decide | omega) (by decide) rfl (by simp only [zup, cpWs]; repeat rw [if_neg (by omega)]) ?_
        refine zj_put X dX0_copyFrom_129 fl_X0_85 (by first | rfl | assumption) (by first | decide | omega) (by decide) rfl rfl ?_
        refine zG_aload_n X dX0_copyFrom_132 rfl ?_
        refine zG_aload_n X dX0_copyFrom_133 rfl ?_
        refine zj_getv (v := J o 14) X dX0_copyFrom_134 fl_X0_59 (by first | rfl | assumption) (by first | decide | omega) (by decide) rfl (by simp only [zup, cpWs]; repeat rw [if_neg (by omega)]) ?_
        refine zj_put X dX0_copyFrom_137 fl_X0_59 (by first | rfl | assumption) (by first | decide | omega) (by decide) rfl rfl ?_
        refine zG_vret X dX0_copyFrom_140 rfl ?_
        exact zD.of rfl (by rw [show k = 5 by omega]; exact cpH_ups) rfl rfl
      · exact absurd h_4 (by first | decide | omega)
    | succ q ih =>
      intro k hk
      have hsa := zHo_s2 hh (i := k) (by omega)
      have hsb := zHo_s2 ho (i := k) (by omega)
      have hfa := zHo_F1 hF hh (i := k) (by omega)
      have hfb := zHo_F1 hF ho (i := k) (by omega)
      refine zG_iload_n X dX0_copyFrom_2 rfl ?_
      refine zj_iconst X dX0_copyFrom_3 ?_
      refine zj_icmp_ge X dX0_copyFrom_4 (tgt := 28) (by decide) (by first | decide | omega) (by first | decide | omega) (fun h_4 => ?_) (fun h_4 => ?_)
      · exact absurd h_4 (by first | decide | omega)
      · refine zG_aload_n X dX0_copyFrom_7 rfl ?_
        refine zG_getR X dX0_copyFrom_8 fl_X0_25 (by first | rfl | assumption) (by first | decide | omega) (by decide) rfl (by first | exact zF_at hF rfl rfl | assumption) ?_
        refine zG_iload_n X dX0_copyFrom_11 rfl ?_
        refine zj_aaload5 X dX0_copyFrom_12 (by first | rfl | assumption) (by first | decide | omega) _ rfl (by omega) (hfa) ?_
        refine zG_aload_n X dX0_copyFrom_13 rfl ?_
        refine zG_getR X dX0_copyFrom_14 fl_X0_25 (by first | rfl | assumption) (by first | decide | omega) (by decide) rfl (by first | exact zF_at hF rfl rfl | assumption) ?_
        refine zG_iload_n X dX0_copyFrom_17 rfl ?_
        refine zj_aaload5 X dX0_copyFrom_18 (by first | rfl | assumption) (by first | decide | omega) _ rfl (by omega) (hfb) ?_
        refine zj_callV0 (as2 := [_]) X (k_X3_copyFrom lo (d - 1) _ _ _ hsa (by omega) hsb (by omega)) dX0_copyFrom_19 mv_X3_copyFrom ml_X0_71 (by first | rfl | assumption) rfl (by first | decide | omega) rfl rfl (by show d - 1 + 1 ≤ d; omega) (by show 19 + 2 + 35 * (d - 1) ≤ 35 * (d); omega) (Nat.le_of_ble_eq_true rfl) (Nat.le_of_ble_eq_true rfl) (Nat.le_of_ble_eq_true rfl) ?_
        refine zj_iinc X dX0_copyFrom_22 rfl (by decide) rfl ?_
        refine zG_goto X dX0_copyFrom_25 (tgt := 2) (by decide) ?_
        rw [cpWs_succ (by omega) (by omega)]
        exact ih (k + 1) (by omega)
  refine zj_iconst X dX0_copyFrom_0 ?_
  refine zG_istore_n X dX0_copyFrom_1 (by decide) rfl ?_
  have := loop 5 0 (by omega)
  rw [cpWs_0] at this
  exact this
