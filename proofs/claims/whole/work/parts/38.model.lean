/-! the Model: leaves (row of numbers: cell 51) -/
set_option maxHeartbeats 4000000 in
set_option maxRecDepth 100000 in
theorem k_X5_in (lo d : Nat) (J : Nat → Nat → Int) (G : Nat → Nat → Int64) (F : Nat → Nat → Option Nat) {x a b : Int} (hx : zr x) (ha : zr a) (hb : zr b) : zCt lo yX5_in cX5_in 3 (some .boolean) d 0 0 [.int (zI x), .int (zI a), .int (zI b)] 57 57 (zM J) G F (zD [.int (zI (if a ≤ x ∧ x ≤ b then 1 else 0))] J G F) := by
  refine zCt.mk (by decide) (ms_X5_in.2.2.1) (Nat.le_of_ble_eq_true rfl) ?_
  intro p l e s m args below meth c D cA X
  refine zG_iload_n X dX5_in_0 rfl ?_
  refine zG_iload_n X dX5_in_1 rfl ?_
  refine zj_icmp_lt X dX5_in_2 (tgt := 14) (by decide) (by first | decide | omega) (by first | decide | omega) (fun h_2 => ?_) (fun h_2 => ?_)
  · refine zj_iconst X dX5_in_14 ?_
    refine zG_zret X dX5_in_15 rfl (by first | rfl | assumption) ?_
    first
      | exact zD.of (congrArg (fun z => [Value.int (zI z)]) (if_pos (by omega)).symm) rfl rfl rfl
      | exact zD.of (congrArg (fun z => [Value.int (zI z)]) (if_neg (by omega)).symm) rfl rfl rfl
  · refine zG_iload_n X dX5_in_5 rfl ?_
    refine zG_iload_n X dX5_in_6 rfl ?_
    refine zj_icmp_gt X dX5_in_7 (tgt := 14) (by decide) (by first | decide | omega) (by first | decide | omega) (fun h_7 => ?_) (fun h_7 => ?_)
    · refine zj_iconst X dX5_in_14 ?_
      refine zG_zret X dX5_in_15 rfl (by first | rfl | assumption) ?_
      first
        | exact zD.of (congrArg (fun z => [Value.int (zI z)]) (if_pos (by omega)).symm) rfl rfl rfl
        | exact zD.of (congrArg (fun z => [Value.int (zI z)]) (if_neg (by omega)).symm) rfl rfl rfl
    · refine zj_iconst X dX5_in_10 ?_
      refine zG_goto X dX5_in_11 (tgt := 15) (by decide) ?_
      refine zG_zret X dX5_in_15 rfl (by first | rfl | assumption) ?_
      first
        | exact zD.of (congrArg (fun z => [Value.int (zI z)]) (if_pos (by omega)).symm) rfl rfl rfl
        | exact zD.of (congrArg (fun z => [Value.int (zI z)]) (if_neg (by omega)).symm) rfl rfl rfl
set_option maxHeartbeats 4000000 in
set_option maxRecDepth 100000 in
theorem k_X5_at (lo d : Nat) (J : Nat → Nat → Int) (G : Nat → Nat → Int64) (F : Nat → Nat → Option Nat) {k : Int} : zCt lo yX5_at cX5_at 1 (some .int) d 0 0 [.int (zI k)] 57 57 (zM J) G F (zD [.int (zI (13 + 7 * k))] J G F) := by
  refine zCt.mk (by decide) (ms_X5_at.2.2.1) (Nat.le_of_ble_eq_true rfl) ?_
  intro p l e s m args below meth c D cA X
  refine zj_bipush X dX5_at_0 (by decide) ?_
  refine zj_bipush X dX5_at_2 (by decide) ?_
  refine zG_iload_n X dX5_at_4 rfl ?_
  refine zj_imul X dX5_at_5 ?_
  refine zj_iadd X dX5_at_6 ?_
  refine zG_iret X dX5_at_7 rfl ?_
  exact zD.rf
set_option maxHeartbeats 4000000 in
set_option maxRecDepth 100000 in
theorem k_X5_modulo (lo d : Nat) (J : Nat → Nat → Int) (G : Nat → Nat → Int64) (F : Nat → Nat → Option Nat) {a b : Int} (ha : zr a) (hb : zr b) (h : 0 < b) : zCt lo yX5_modulo cX5_modulo 3 (some .int) d 0 0 [.int (zI a), .int (zI b)] 57 57 (zM J) G F (zD [.int (zI (a % b))] J G F) := by
  refine zCt.mk (by decide) (ms_X5_modulo.2.2.1) (Nat.le_of_ble_eq_true rfl) ?_
  intro p l e s m args below meth c D cA X
  have htm := ztm_in a b h
  unfold zr at ha hb
  refine zG_iload_n X dX5_modulo_0 rfl ?_
  refine zG_iload_n X dX5_modulo_1 rfl ?_
  refine zj_irem X dX5_modulo_2 (by unfold zr; omega) (by unfold zr; omega) (by omega) ?_
  refine zG_istore_n X dX5_modulo_3 (by decide) rfl ?_
  refine zG_iload_n X dX5_modulo_4 rfl ?_
  refine zj_if_ge X dX5_modulo_5 (tgt := 14) (by decide) (by first | decide | omega) (fun h_5 => ?_) (fun h_5 => ?_)
  · refine zG_iload_n X dX5_modulo_14 rfl ?_
    refine zG_iret X dX5_modulo_15 rfl ?_
    first
      | exact zD.of (congrArg (fun z => [Value.int (zI z)]) (zmd_pos h (by omega))) rfl rfl rfl
      | exact zD.of (congrArg (fun z => [Value.int (zI z)]) (zmd_neg h (by omega))) rfl rfl rfl
  · refine zG_iload_n X dX5_modulo_8 rfl ?_
    refine zG_iload_n X dX5_modulo_9 rfl ?_
    refine zj_iadd X dX5_modulo_10 ?_
    refine zG_goto X dX5_modulo_11 (tgt := 15) (by decide) ?_
    refine zG_iret X dX5_modulo_15 rfl ?_
    first
      | exact zD.of (congrArg (fun z => [Value.int (zI z)]) (zmd_pos h (by omega))) rfl rfl rfl
      | exact zD.of (congrArg (fun z => [Value.int (zI z)]) (zmd_neg h (by omega))) rfl rfl rfl
set_option maxHeartbeats 4000000 in
set_option maxRecDepth 100000 in
theorem k_X5_areTeeth (lo d : Nat) (hd : 1 ≤ d) (J : Nat → Nat → Int) (G : Nat → Nat → Int64) (F : Nat → Nat → Option Nat) {x : Int} (hx : zr x) : zCt lo yX5_areTeeth cX5_areTeeth 1 (some .boolean) d 0 0 [.int (zI x)] 57 57 (zM J) G F (zD [.int (zI (if 2 ≤ x ∧ x ≤ 60 then 1 else 0))] J G F) := by
  refine zCt.mk (by decide) (ms_X5_areTeeth.2.2.1) (Nat.le_of_ble_eq_true rfl) ?_
  intro p l e s m args below meth c D cA X
  refine zG_iload_n X dX5_areTeeth_0 rfl ?_
  refine zj_iconst X dX5_areTeeth_1 ?_
  refine zj_bipush X dX5_areTeeth_2 (by decide) ?_
  refine zj_callS1 (as2 := [_, _, _]) X (k_X5_in lo (d - 1) J G F (x := x) (a := 2) (b := 60) hx (by decide) (by decide)) dX5_areTeeth_4 ms_X5_in ml_X5_41 rfl rfl (by show d - 1 + 1 ≤ d; omega) (by show 19 + 3 + 35 * (d - 1) ≤ 35 * (d); omega) (Nat.le_of_ble_eq_true rfl) (Nat.le_of_ble_eq_true rfl) (Nat.le_of_ble_eq_true rfl) ?_
  by_cases hq : 2 ≤ x ∧ x ≤ 60
  · rw [if_pos hq]
    refine zG_zret X dX5_areTeeth_7 rfl (by first | rfl | assumption) ?_
    exact zD.rf
  · rw [if_neg hq]
    refine zG_zret X dX5_areTeeth_7 rfl (by first | rfl | assumption) ?_
    exact zD.rf
set_option maxHeartbeats 4000000 in
set_option maxRecDepth 100000 in
theorem k_X5_refused (lo d : Nat) (J : Nat → Nat → Int) (G : Nat → Nat → Int64) (F : Nat → Nat → Option Nat) {x : Int} (hx : zr x) : zCt lo yX5_refused cX5_refused 2 (some .boolean) d 0 0 [.ref (lo + 50), .int (zI x)] 57 57 (zM J) G F (zD [.int (zI (if 0 < x then 1 else 0))] (zup J 50 4 x) G F) := by
  refine zCt.mk (by decide) (mv_X5_refused.2.2.2.1) (Nat.le_of_ble_eq_true rfl) ?_
  intro p l e s m args below meth c D cA X
  refine zG_aload_n X dX5_refused_0 rfl ?_
  refine zG_iload_n X dX5_refused_1 rfl ?_
  refine zj_put X dX5_refused_2 fl_X5_26 (by first | rfl | assumption) (by first | decide | omega) (by decide) rfl rfl ?_
  refine zG_iload_n X dX5_refused_5 rfl ?_
  refine zj_if_le X dX5_refused_6 (tgt := 13) (by decide) (by first | decide | omega) (fun h_6 => ?_) (fun h_6 => ?_)
  · refine zj_iconst X dX5_refused_13 ?_
    refine zG_zret X dX5_refused_14 rfl (by first | rfl | assumption) ?_
    first
      | exact zD.of (congrArg (fun z => [Value.int (zI z)]) (if_pos (by omega)).symm) rfl rfl rfl
      | exact zD.of (congrArg (fun z => [Value.int (zI z)]) (if_neg (by omega)).symm) rfl rfl rfl
  · refine zj_iconst X dX5_refused_9 ?_
    refine zG_goto X dX5_refused_10 (tgt := 14) (by decide) ?_
    refine zG_zret X dX5_refused_14 rfl (by first | rfl | assumption) ?_
    first
      | exact zD.of (congrArg (fun z => [Value.int (zI z)]) (if_pos (by omega)).symm) rfl rfl rfl
      | exact zD.of (congrArg (fun z => [Value.int (zI z)]) (if_neg (by omega)).symm) rfl rfl rfl
set_option maxHeartbeats 4000000 in
set_option maxRecDepth 100000 in
theorem k_X5_thrown (lo d : Nat) (J : Nat → Nat → Int) (G : Nat → Nat → Int64) (F : Nat → Nat → Option Nat) : zCt lo yX5_thrown cX5_thrown 1 (some .int) d 0 0 [.ref (lo + 50)] 57 57 (zM J) G F (zD [.int (zI (J 50 4))] J G F) := by
  refine zCt.mk (by decide) (mv_X5_thrown.2.2.2.1) (Nat.le_of_ble_eq_true rfl) ?_
  intro p l e s m args below meth c D cA X
  refine zG_aload_n X dX5_thrown_0 rfl ?_
  refine zj_get X dX5_thrown_1 fl_X5_26 (by first | rfl | assumption) (by first | decide | omega) (by decide) rfl ?_
  refine zG_iret X dX5_thrown_4 rfl ?_
  exact zD.rf
set_option maxHeartbeats 4000000 in
set_option maxRecDepth 100000 in
theorem k_X5_of (lo d : Nat) (hd : 1 ≤ d) (J : Nat → Nat → Int) (G : Nat → Nat → Int64) (F : Nat → Nat → Option Nat) (hF : zFk F) {u v : Int} (u1 : 0 ≤ u) (u2 : u ≤ 4) (v1 : 0 ≤ v) (v2 : v ≤ 6) : zCt lo yX5_of cX5_of 3 (some .int) d 0 0 [.ref (lo + 50), .int (zI u), .int (zI v)] 57 57 (zM J) G F (zD [.int (zI (J 51 (13 + 7 * u + v).toNat))] J G F) := by
  refine zCt.mk (by decide) (mv_X5_of.2.2.2.1) (Nat.le_of_ble_eq_true rfl) ?_
  intro p l e s m args below meth c D cA X
  refine zG_aload_n X dX5_of_0 rfl ?_
  refine zG_getR X dX5_of_1 fl_X5_7 (by first | rfl | assumption) (by first | decide | omega) (by decide) rfl (by first | exact zF_at hF rfl rfl | assumption) ?_
  refine zG_iload_n X dX5_of_4 rfl ?_
  refine zj_callS1 (as2 := [_]) X (k_X5_at lo (d - 1) J G F (k := u)) dX5_of_5 ms_X5_at ml_X5_37 rfl rfl (by show d - 1 + 1 ≤ d; omega) (by show 19 + 1 + 35 * (d - 1) ≤ 35 * (d); omega) (Nat.le_of_ble_eq_true rfl) (Nat.le_of_ble_eq_true rfl) (Nat.le_of_ble_eq_true rfl) ?_
  refine zG_iload_n X dX5_of_8 rfl ?_
  refine zj_iadd X dX5_of_9 ?_
  refine zj_iaload X dX5_of_10 (by first | rfl | assumption) (by first | decide | omega) ((13 + 7 * u + v).toNat) (by omega) (by omega) ?_
  refine zG_iret X dX5_of_11 rfl ?_
  exact zD.rf
set_option maxHeartbeats 4000000 in
set_option maxRecDepth 100000 in
theorem k_X5_isWheel (lo d : Nat) (hd : 1 ≤ d) (J : Nat → Nat → Int) (G : Nat → Nat → Int64) (F : Nat → Nat → Option Nat) (hF : zFk F) {u : Int} (hu : zr u) (h0 : 0 ≤ J 51 0) (h1 : J 51 0 ≤ 5) : zCt lo yX5_isWheel cX5_isWheel 2 (some .boolean) d 0 0 [.ref (lo + 50), .int (zI u)] 57 57 (zM J) G F (zD [.int (zI (if 0 ≤ u ∧ u ≤ J 51 0 - 1 then 1 else 0))] J G F) := by
  refine zCt.mk (by decide) (mv_X5_isWheel.2.2.2.1) (Nat.le_of_ble_eq_true rfl) ?_
  intro p l e s m args below meth c D cA X
  refine zG_iload_n X dX5_isWheel_0 rfl ?_
  refine zj_iconst X dX5_isWheel_1 ?_
  refine zG_aload_n X dX5_isWheel_2 rfl ?_
  refine zG_getR X dX5_isWheel_3 fl_X5_7 (by first | rfl | assumption) (by first | decide | omega) (by decide) rfl (by first | exact zF_at hF rfl rfl | assumption) ?_
  refine zj_iconst X dX5_isWheel_6 ?_
  refine zj_iaload X dX5_isWheel_7 (by first | rfl | assumption) (by first | decide | omega) (0) (by decide) (by decide) ?_
  refine zj_iconst X dX5_isWheel_8 ?_
  refine zj_isub X dX5_isWheel_9 ?_
  refine zj_callS1 (as2 := [_, _, _]) X (k_X5_in lo (d - 1) J G F (x := u) (a := 0) (b := J 51 0 - 1) hu (by decide) (by unfold zr; omega)) dX5_isWheel_10 ms_X5_in ml_X5_41 rfl rfl (by show d - 1 + 1 ≤ d; omega) (by show 19 + 3 + 35 * (d - 1) ≤ 35 * (d); omega) (Nat.le_of_ble_eq_true rfl) (Nat.le_of_ble_eq_true rfl) (Nat.le_of_ble_eq_true rfl) ?_
  by_cases hq : 0 ≤ u ∧ u ≤ J 51 0 - 1
  · rw [if_pos hq]
    refine zG_zret X dX5_isWheel_13 rfl (by first | rfl | assumption) ?_
    exact zD.rf
  · rw [if_neg hq]
    refine zG_zret X dX5_isWheel_13 rfl (by first | rfl | assumption) ?_
    exact zD.rf
set_option maxHeartbeats 4000000 in
set_option maxRecDepth 100000 in
theorem k_X5_isToothOf (lo d : Nat) (hd : 2 ≤ d) (J : Nat → Nat → Int) (G : Nat → Nat → Int64) (F : Nat → Nat → Option Nat) (hF : zFk F) {u t : Int} (u1 : 0 ≤ u) (u2 : u ≤ 4) (ht : zr t) (h0 : 0 ≤ J 51 (13 + 7 * u + 0).toNat) (h1 : J 51 (13 + 7 * u + 0).toNat ≤ 60) : zCt lo yX5_isToothOf cX5_isToothOf 3 (some .boolean) d 0 0 [.ref (lo + 50), .int (zI u), .int (zI t)] 57 57 (zM J) G F (zD [.int (zI (if 0 ≤ t ∧ t ≤ J 51 (13 + 7 * u + 0).toNat - 1 then 1 else 0))] J G F) := by
  refine zCt.mk (by decide) (mv_X5_isToothOf.2.2.2.1) (Nat.le_of_ble_eq_true rfl) ?_
  intro p l e s m args below meth c D cA X
  refine zG_iload_n X dX5_isToothOf_0 rfl ?_
  refine zj_iconst X dX5_isToothOf_1 ?_
  refine zG_aload_n X dX5_isToothOf_2 rfl ?_
  refine zG_iload_n X dX5_isToothOf_3 rfl ?_
  refine zj_iconst X dX5_isToothOf_4 ?_
  refine zj_callV1 (as2 := [_, _]) X (k_X5_of lo (d - 1) (by omega) J G F hF (u := u) (v := 0) u1 u2 (by decide) (by decide)) dX5_isToothOf_5 mv_X5_of ml_X5_45 (by first | rfl | assumption) rfl (by first | decide | omega) rfl rfl (by show d - 1 + 1 ≤ d; omega) (by show 19 + 3 + 35 * (d - 1) ≤ 35 * (d); omega) (Nat.le_of_ble_eq_true rfl) (Nat.le_of_ble_eq_true rfl) (Nat.le_of_ble_eq_true rfl) ?_
  refine zj_iconst X dX5_isToothOf_8 ?_
  refine zj_isub X dX5_isToothOf_9 ?_
  refine zj_callS1 (as2 := [_, _, _]) X (k_X5_in lo (d - 1) J G F (x := t) (a := 0) (b := J 51 (13 + 7 * u + 0).toNat - 1) ht (by decide) (by unfold zr; omega)) dX5_isToothOf_10 ms_X5_in ml_X5_41 rfl rfl (by show d - 1 + 1 ≤ d; omega) (by show 19 + 3 + 35 * (d - 1) ≤ 35 * (d); omega) (Nat.le_of_ble_eq_true rfl) (Nat.le_of_ble_eq_true rfl) (Nat.le_of_ble_eq_true rfl) ?_
  by_cases hq : 0 ≤ t ∧ t ≤ J 51 (13 + 7 * u + 0).toNat - 1
  · rw [if_pos hq]
    refine zG_zret X dX5_isToothOf_13 rfl (by first | rfl | assumption) ?_
    exact zD.rf
  · rw [if_neg hq]
    refine zG_zret X dX5_isToothOf_13 rfl (by first | rfl | assumption) ?_
    exact zD.rf
