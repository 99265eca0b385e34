/-! constructors -/
def whI (J : Nat → Nat → Int) (a : Nat) : Nat → Nat → Int := zup (zup (zup J a 0 2) a 3 (-1)) a 4 (-1)
set_option maxHeartbeats 4000000 in
set_option maxRecDepth 100000 in
theorem k_X3_init (lo d : Nat) (hd : 1 ≤ d) (J : Nat → Nat → Int) (G : Nat → Nat → Int64) (F : Nat → Nat → Option Nat) {n a : Nat} (hs : zShape[a]? = some (.inl 3)) (han : a < n) : zCt lo yX3_init cX3_init 1 none d 0 0 [.ref (lo + a)] n n (zM J) G F (zD [] (whI J a) G F) := by
  refine zCt.mk (by decide) (mi_X3_init.2.2.2.1) (Nat.le_of_ble_eq_true rfl) ?_
  intro p l e s m args below meth c D cA X
  refine zG_aload_n X dX3_init_0 rfl ?_
  refine zG_objInit X dX3_init_1 (List.mem_of_getElem? (i := 114) (by decide +kernel)) (List.mem_of_getElem? (i := 97) (by decide +kernel)) (List.mem_of_getElem? (i := 98) (by decide +kernel)) (by show 1 ≤ d; omega) (by show 0 + 12 ≤ 35 * (d); omega) ?_
  refine zG_aload_n X dX3_init_4 rfl ?_
  refine zj_iconst X dX3_init_5 ?_
  refine zj_put X dX3_init_6 fl_X3_9 (by first | rfl | assumption) (by first | decide | omega) (by decide) rfl rfl ?_
  refine zG_aload_n X dX3_init_9 rfl ?_
  refine zj_iconst X dX3_init_10 ?_
  refine zj_put X dX3_init_11 fl_X3_15 (by first | rfl | assumption) (by first | decide | omega) (by decide) rfl rfl ?_
  refine zG_aload_n X dX3_init_14 rfl ?_
  refine zj_iconst X dX3_init_15 ?_
  refine zj_put X dX3_init_16 fl_X3_18 (by first | rfl | assumption) (by first | decide | omega) (by decide) rfl rfl ?_
  refine zG_vret X dX3_init_19 rfl ?_
  exact zD.rf
