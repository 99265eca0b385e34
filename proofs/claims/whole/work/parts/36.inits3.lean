set_option maxHeartbeats 4000000 in
set_option maxRecDepth 100000 in
theorem k_X5_init (lo d : Nat) (hd : 1 ≤ d) (J : Nat → Nat → Int) (G : Nat → Nat → Int64) (F : Nat → Nat → Option Nat) (hz : ∀ i, i < 5 → zZ0 J G F (51 + i)) : zCt lo yX5_init cX5_init 1 none d 5 1738 [.ref (lo + 50)] 51 56 (zM J) G F (zD [] (zup (zup (zup J 51 5 540) 51 6 120) 51 7 2) G (zup (zup (zup (zup (zup F 50 0 (some 51)) 50 1 (some 52)) 50 2 (some 53)) 50 5 (some 54)) 50 7 (some 55))) := by
  refine zCt.mk (by decide) (mi_X5_init.2.2.2.1) (Nat.le_of_ble_eq_true rfl) ?_
  intro p l e s m args below meth c D cA X
  refine zG_aload_n X dX5_init_0 rfl ?_
  refine zG_objInit X dX5_init_1 (List.mem_of_getElem? (i := 807) (by decide +kernel)) (List.mem_of_getElem? (i := 97) (by decide +kernel)) (List.mem_of_getElem? (i := 98) (by decide +kernel)) (by show 1 ≤ d; omega) (by show 0 + 12 ≤ 35 * (d); omega) ?_
  refine zG_aload_n X dX5_init_4 rfl ?_
  refine zj_bipush X dX5_init_5 (by decide) ?_
  refine zG_newa_int X dX5_init_7 (List.mem_of_getElem? (i := 250) (by decide +kernel)) rfl (by decide) (zZ0_z (fun j => by exact hz 0 (by decide) j)) (by decide) (by decide) (by decide) (Nat.le_of_ble_eq_true rfl) (Nat.le_of_ble_eq_true rfl) ?_
  refine zG_putF (k := 5) (j := 0) X dX5_init_9 (by decide +kernel) (by first | rfl | assumption) (by first | decide | omega) (by decide) rfl rfl rfl rfl rfl rfl ?_
  refine zG_aload_n X dX5_init_12 rfl ?_
  refine zj_sipush X dX5_init_13 (by decide) ?_
  refine zG_newa_int X dX5_init_16 (List.mem_of_getElem? (i := 250) (by decide +kernel)) rfl (by decide) (zZ0_z (fun j => by rw [zup_ot (by decide)]; exact hz 1 (by decide) j)) (by decide) (by decide) (by decide) (Nat.le_of_ble_eq_true rfl) (Nat.le_of_ble_eq_true rfl) ?_
  refine zG_putF (k := 5) (j := 1) X dX5_init_18 (by decide +kernel) (by first | rfl | assumption) (by first | decide | omega) (by decide) rfl rfl rfl rfl rfl rfl ?_
  refine zG_aload_n X dX5_init_21 rfl ?_
  refine zj_bipush X dX5_init_22 (by decide) ?_
  refine zG_newa_int X dX5_init_24 (List.mem_of_getElem? (i := 250) (by decide +kernel)) rfl (by decide) (zZ0_z (fun j => by rw [zup_ot (by decide), zup_ot (by decide)]; exact hz 2 (by decide) j)) (by decide) (by decide) (by decide) (Nat.le_of_ble_eq_true rfl) (Nat.le_of_ble_eq_true rfl) ?_
  refine zG_putF (k := 5) (j := 2) X dX5_init_26 (by decide +kernel) (by first | rfl | assumption) (by first | decide | omega) (by decide) rfl rfl rfl rfl rfl rfl ?_
  refine zG_aload_n X dX5_init_29 rfl ?_
  refine zj_bipush X dX5_init_30 (by decide) ?_
  refine zG_newa_int X dX5_init_32 (List.mem_of_getElem? (i := 250) (by decide +kernel)) rfl (by decide) (zZ0_z (fun j => by rw [zup_ot (by decide), zup_ot (by decide), zup_ot (by decide)]; exact hz 3 (by decide) j)) (by decide) (by decide) (by decide) (Nat.le_of_ble_eq_true rfl) (Nat.le_of_ble_eq_true rfl) ?_
  refine zG_putF (k := 5) (j := 5) X dX5_init_34 (by decide +kernel) (by first | rfl | assumption) (by first | decide | omega) (by decide) rfl rfl rfl rfl rfl rfl ?_
  refine zG_aload_n X dX5_init_37 rfl ?_
  refine zj_sipush X dX5_init_38 (by decide) ?_
  refine zG_newa_bool X dX5_init_41 (List.mem_of_getElem? (i := 842) (by decide +kernel)) rfl (by decide) (zZ0_z (fun j => by rw [zup_ot (by decide), zup_ot (by decide), zup_ot (by decide), zup_ot (by decide)]; exact hz 4 (by decide) j)) (by decide) (by decide) (by decide) (Nat.le_of_ble_eq_true rfl) (Nat.le_of_ble_eq_true rfl) ?_
  refine zG_putF (k := 5) (j := 7) X dX5_init_43 (by decide +kernel) (by first | rfl | assumption) (by first | decide | omega) (by decide) rfl rfl rfl rfl rfl rfl ?_
  refine zG_aload_n X dX5_init_46 rfl ?_
  refine zG_getR X dX5_init_47 fl_X5_7 (by first | rfl | assumption) (by first | decide | omega) (by decide) rfl (show _ = some 51 by simp [zup]) ?_
  refine zj_iconst X dX5_init_50 ?_
  refine zj_sipush X dX5_init_51 (by decide) ?_
  refine zj_iastore X dX5_init_54 (by first | rfl | assumption) (by first | decide | omega) (5) (by decide) (by decide) ?_
  refine zG_aload_n X dX5_init_55 rfl ?_
  refine zG_getR X dX5_init_56 fl_X5_7 (by first | rfl | assumption) (by first | decide | omega) (by decide) rfl (show _ = some 51 by simp [zup]) ?_
  refine zj_bipush X dX5_init_59 (by decide) ?_
  refine zj_bipush X dX5_init_61 (by decide) ?_
  refine zj_iastore X dX5_init_63 (by first | rfl | assumption) (by first | decide | omega) (6) (by decide) (by decide) ?_
  refine zG_aload_n X dX5_init_64 rfl ?_
  refine zG_getR X dX5_init_65 fl_X5_7 (by first | rfl | assumption) (by first | decide | omega) (by decide) rfl (show _ = some 51 by simp [zup]) ?_
  refine zj_bipush X dX5_init_68 (by decide) ?_
  refine zj_iconst X dX5_init_70 ?_
  refine zj_iastore X dX5_init_71 (by first | rfl | assumption) (by first | decide | omega) (7) (by decide) (by decide) ?_
  refine zG_vret X dX5_init_72 rfl ?_
  exact zD.rf
