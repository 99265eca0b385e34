def hoI (J : Nat → Nat → Int) (a : Nat) : Nat → Nat → Int := zup (zup (zup J a 6 540) a 7 120) a 8 2
theorem hoI_o {J : Nat → Nat → Int} {a x i : Nat} (h : x ≠ a) : hoI J a x i = J x i := by
  unfold hoI
  rw [zup_ot h, zup_ot h, zup_ot h]
set_option maxHeartbeats 4000000 in
set_option maxRecDepth 100000 in
theorem k_X0_init (lo d : Nat) (hd : 3 ≤ d) (J : Nat → Nat → Int) (G : Nat → Nat → Int64) (F : Nat → Nat → Option Nat) {n a : Nat} (hs : zShape[a]? = some (.inl 0)) (han : a < n) (hn : n + 6 ≤ 57) (hs0 : zShape[n]? = some (.inr (5, 5))) (hs1 : ∀ i, i < 5 → zShape[n + 1 + i]? = some (.inl 3)) (hz : ∀ i, i < 6 → zZ0 J G F (n + i)) : zCt lo yX0_init cX0_init 1 none d 6 40 [.ref (lo + a)] n (n + 6) (zM J) G F (zD [] (nwJ (hoI J a) n 5) G (zup (nwF F n 5) a 0 (some n))) := by
  refine zCt.mk (by decide) (mi_X0_init.2.2.2.1) (Nat.le_of_ble_eq_true rfl) ?_
  intro p l e s m args below meth c D cA X
  refine zG_aload_n X dX0_init_0 rfl ?_
  refine zG_objInit X dX0_init_1 (List.mem_of_getElem? (i := 59) (by decide +kernel)) (List.mem_of_getElem? (i := 52) (by decide +kernel)) (List.mem_of_getElem? (i := 53) (by decide +kernel)) (by show 1 ≤ d; omega) (by show 0 + 12 ≤ 35 * (d); omega) ?_
  refine zG_aload_n X dX0_init_4 rfl ?_
  refine zj_sipush X dX0_init_5 (by decide) ?_
  refine zj_put X dX0_init_8 fl_X0_9 (by first | rfl | assumption) (by first | decide | omega) (by decide) rfl rfl ?_
  refine zG_aload_n X dX0_init_11 rfl ?_
  refine zj_bipush X dX0_init_12 (by decide) ?_
  refine zj_put X dX0_init_14 fl_X0_15 (by first | rfl | assumption) (by first | decide | omega) (by decide) rfl rfl ?_
  refine zG_aload_n X dX0_init_17 rfl ?_
  refine zj_iconst X dX0_init_18 ?_
  refine zj_put X dX0_init_19 fl_X0_18 (by first | rfl | assumption) (by first | decide | omega) (by decide) rfl rfl ?_
  refine zG_aload_n X dX0_init_22 rfl ?_
  refine zj_callS1 (as2 := []) X (k_X4_newWheels lo (d - 1) (by omega) (hoI J a) G F hn hs0 hs1 (fun i hi j => by rw [hoI_o (by omega)]; exact hz i hi j)) dX0_init_23 ms_X4_newWheels ml_X0_21 rfl rfl (by show d - 1 + 1 ≤ d; omega) (by show 19 + 2 + 35 * (d - 1) ≤ 35 * (d); omega) (Nat.le_of_ble_eq_true rfl) (Nat.le_of_ble_eq_true rfl) (Nat.le_of_ble_eq_true rfl) ?_
  refine zG_putF (k := 0) (j := 0) X dX0_init_26 (by decide +kernel) (by first | rfl | assumption) (by first | decide | omega) (by decide) rfl rfl rfl rfl rfl rfl ?_
  refine zG_vret X dX0_init_29 rfl ?_
  exact zD.rf
set_option maxHeartbeats 4000000 in
set_option maxRecDepth 100000 in
theorem k_X1_init (lo d : Nat) (hd : 3 ≤ d) (J : Nat → Nat → Int) (G : Nat → Nat → Int64) (F : Nat → Nat → Option Nat) {n a : Nat} (hs : zShape[a]? = some (.inl 1)) (han : a < n) (hn : n + 6 ≤ 57) (hs0 : zShape[n]? = some (.inr (5, 5))) (hs1 : ∀ i, i < 5 → zShape[n + 1 + i]? = some (.inl 3)) (hz : ∀ i, i < 6 → zZ0 J G F (n + i)) (hn7 : n + 7 ≤ 57) (hs6 : zShape[n + 6]? = some (.inr (1, 0))) (hz6 : zZ0 J G F (n + 6)) : zCt lo yX1_init cX1_init 1 none d 7 40 [.ref (lo + a)] n (n + 7) (zM J) G F (zD [] (nwJ J n 5) G (zup (zup (nwF F n 5) a 0 (some n)) a 2 (some (n + 6)))) := by
  refine zCt.mk (by decide) (mi_X1_init.2.2.2.1) (Nat.le_of_ble_eq_true rfl) ?_
  intro p l e s m args below meth c D cA X
  refine zG_aload_n X dX1_init_0 rfl ?_
  refine zG_objInit X dX1_init_1 (List.mem_of_getElem? (i := 210) (by decide +kernel)) (List.mem_of_getElem? (i := 52) (by decide +kernel)) (List.mem_of_getElem? (i := 53) (by decide +kernel)) (by show 1 ≤ d; omega) (by show 0 + 12 ≤ 35 * (d); omega) ?_
  refine zG_aload_n X dX1_init_4 rfl ?_
  refine zj_callS1 (as2 := []) X (k_X4_newWheels lo (d - 1) (by omega) J G F hn hs0 hs1 hz) dX1_init_5 ms_X4_newWheels ml_X1_9 rfl rfl (by show d - 1 + 1 ≤ d; omega) (by show 19 + 2 + 35 * (d - 1) ≤ 35 * (d); omega) (Nat.le_of_ble_eq_true rfl) (Nat.le_of_ble_eq_true rfl) (Nat.le_of_ble_eq_true rfl) ?_
  refine zG_putF (k := 1) (j := 0) X dX1_init_8 (by decide +kernel) (by first | rfl | assumption) (by first | decide | omega) (by decide) rfl rfl rfl rfl rfl rfl ?_
  refine zG_aload_n X dX1_init_11 rfl ?_
  refine zj_iconst X dX1_init_12 ?_
  refine zG_newa_byte X dX1_init_13 (List.mem_of_getElem? (i := 227) (by decide +kernel)) hs6 (by omega) (zZ0_z (fun j => by rw [nwJ_o 5 (by omega), zup_ot (by omega), nwF_o (by omega)]; exact hz6 j)) (by decide) (by decide) (by decide) (Nat.le_of_ble_eq_true rfl) (Nat.le_of_ble_eq_true rfl) ?_
  refine zG_putR X dX1_init_15 fl_X1_19 (by first | rfl | assumption) (by first | decide | omega) (by decide) rfl rfl rfl rfl ?_
  refine zG_vret X dX1_init_18 rfl ?_
  exact zD.rf
set_option maxHeartbeats 4000000 in
set_option maxRecDepth 100000 in
theorem k_X2_init (lo d : Nat) (hd : 1 ≤ d) (J : Nat → Nat → Int) (G : Nat → Nat → Int64) (F : Nat → Nat → Option Nat) {n a : Nat} (hs : zShape[a]? = some (.inl 2)) (han : a < n) {h : Nat} (hn : n < 57) (hs0 : zShape[n]? = some (.inr (0, 5))) (hz : zZ0 J G F n) : zCt lo yX2_init cX2_init 2 none d 1 5 [.ref (lo + a), .ref (lo + h)] n (n + 1) (zM J) G F (zD [] J G (zup (zup F a 0 (some h)) a 1 (some n))) := by
  refine zCt.mk (by decide) (mi_X2_init.2.2.2.1) (Nat.le_of_ble_eq_true rfl) ?_
  intro p l e s m args below meth c D cA X
  refine zG_aload_n X dX2_init_0 rfl ?_
  refine zG_objInit X dX2_init_1 (List.mem_of_getElem? (i := 186) (by decide +kernel)) (List.mem_of_getElem? (i := 52) (by decide +kernel)) (List.mem_of_getElem? (i := 53) (by decide +kernel)) (by show 1 ≤ d; omega) (by show 0 + 12 ≤ 35 * (d); omega) ?_
  refine zG_aload_n X dX2_init_4 rfl ?_
  refine zG_aload_n X dX2_init_5 rfl ?_
  refine zG_putF (k := 2) (j := 0) X dX2_init_6 (by decide +kernel) (by first | rfl | assumption) (by first | decide | omega) (by decide) rfl rfl rfl rfl rfl rfl ?_
  refine zG_aload_n X dX2_init_9 rfl ?_
  refine zj_iconst X dX2_init_10 ?_
  refine zG_newa_int X dX2_init_11 (List.mem_of_getElem? (i := 204) (by decide +kernel)) hs0 hn (zZ0_z (fun j => by rw [zup_ot (by omega)]; exact hz j)) (by decide) (by decide) (by decide) (Nat.le_of_ble_eq_true rfl) (Nat.le_of_ble_eq_true rfl) ?_
  refine zG_putF (k := 2) (j := 1) X dX2_init_13 (by decide +kernel) (by first | rfl | assumption) (by first | decide | omega) (by decide) rfl rfl rfl rfl rfl rfl ?_
  refine zG_vret X dX2_init_16 rfl ?_
  exact zD.rf
