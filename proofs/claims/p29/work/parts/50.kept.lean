/-! the share of markets that were held -/
theorem zG_ddiv {p : Program} {l : Launch} {e : Env} {R : Room} {s : State} {m : MethodId} {args : Array Value} {below : List Frame} {meth : Method} {c : Code} {y : MethodName} {cc : ByteArray} {nL : Nat} {ret : Option FieldType} {D : va_G} {cA : Nat → ClassId} {lo : Nat} {cells slots : Nat} {Q : State → Prop} {n : Nat} {I : Nat → Nat → Int32} {G : Nat → Nat → Int64} {F : Nat → Nat → Option Nat} {L : List (Option Value)} {st : List Value} {pc : Nat} {x z : UInt64} (X : zCx p l s m meth c y cc nL ret D cA) (hd : decode cc pc = .ok (.ddiv, 1)) (hne : vf_n64 (FP.ddiv x z))  (k : zG p l e R s m args below meth c D cA lo nL cells slots Q n I G F L (.double (FP.ddiv x z) :: st) (pc + 1)) : zG p l e R s m args below meth c D cA lo nL cells slots Q n I G F L (.double z :: .double x :: st) pc := fun H locs ls hH hl => lv_ddiv X.1 X.2.1 hd hne (k H locs ls hH hl)
theorem kp_i2d {b : Int32} (hb : b ≠ 0) : ¬ Jvm.FP.Core.DZero (Jvm.FP.Core.i2d b) := by
  intro h
  have h1 := (Jvm.FP.Core.zero_bits2 _).mp h
  have h2 := Jvm.FP.Core.fromInt_ge (Jvm.FP.Core.toNat_i2d b) (fun z => hb (Int32.toInt_inj.mp (z.trans rfl)))
  omega
theorem kp_nn {a b : Int32} (hb : b ≠ 0) : vf_n64 (FP.ddiv (FP.i2d a) (FP.i2d b)) := by
  have h : Jvm.FP.Core.dIsNaN (Jvm.FP.Core.ddiv (Jvm.FP.Core.i2d a) (Jvm.FP.Core.i2d b)) = false := Jvm.FP.Core.ddiv_out (Jvm.FP.Core.DFin.notNaN (Jvm.FP.Core.i2d_fin a)) (Jvm.FP.Core.i2d_fin b) (kp_i2d hb)
  have h2 : ¬ 9218868437227405312 < (Jvm.FP.Core.ddiv (Jvm.FP.Core.i2d a) (Jvm.FP.Core.i2d b)).toNat % 2 ^ 63 := fun z => by
    have := (Jvm.FP.Core.isNaN_bits _).mpr z
    rw [h] at this
    exact absurd this (by decide)
  show (Jvm.FP.Core.ddiv (Jvm.FP.Core.i2d a) (Jvm.FP.Core.i2d b)) &&& 0x7fffffffffffffff ≤ 0x7ff0000000000000
  rw [UInt64.le_iff_toNat_le, UInt64.toNat_and]
  have e : (0x7fffffffffffffff : UInt64).toNat = 2 ^ 63 - 1 := rfl
  rw [e, Nat.and_two_pow_sub_one_eq_mod]
  have e2 : (0x7ff0000000000000 : UInt64).toNat = 9218868437227405312 := rfl
  rw [e2]
  omega
def keD (a b : Int) : UInt64 := if 0 < a + b then FP.ddiv (FP.i2d (zI a)) (FP.i2d (zI (a + b))) else FP.dconst1
theorem kp_nz {v : Int} (h : v ≠ 0) (h1 : 0 ≤ v) (h2 : v ≤ 200000) : zI v ≠ 0 := fun z => h ((zI_eq (by unfold zr; omega) (by decide)).mp (z.trans zI_0))
set_option maxHeartbeats 4000000 in
set_option maxRecDepth 100000 in
theorem k_X4_kept (lo d : Nat) (J : Nat → Nat → Int) (G : Nat → Nat → Int64) (F : Nat → Nat → Option Nat) (hF : zFk F) (h1 : 0 ≤ J 1 10) (h2 : 0 ≤ J 1 12) (h3 : J 1 10 + J 1 12 ≤ 200000) : zCt lo yX4_kept cX4_kept 2 (some .double) d 0 0 [.ref (lo + 0)] 57 57 (zM J) G F (zD [.double (keD (J 1 10) (J 1 12))] J G F) := by
  refine zCt.mk (by decide) (mv_X4_kept.2.2.2.1) (Nat.le_of_ble_eq_true rfl) ?_
  intro p l e s m args below meth c D cA X
  refine zG_aload_n X dX4_kept_0 rfl ?_
  refine zG_getR X dX4_kept_1 fl_X4_10 (by first | rfl | assumption) (by first | decide | omega) (by decide) rfl (by first | exact zF_at hF rfl rfl | assumption) ?_
  refine zj_get X dX4_kept_4 fl_X4_160 (by first | rfl | assumption) (by first | decide | omega) (by decide) rfl ?_
  refine zG_aload_n X dX4_kept_7 rfl ?_
  refine zG_getR X dX4_kept_8 fl_X4_10 (by first | rfl | assumption) (by first | decide | omega) (by decide) rfl (by first | exact zF_at hF rfl rfl | assumption) ?_
  refine zj_get X dX4_kept_11 fl_X4_232 (by first | rfl | assumption) (by first | decide | omega) (by decide) rfl ?_
  refine zj_iadd X dX4_kept_14 ?_
  refine zG_istore_n X dX4_kept_15 (by decide) rfl ?_
  refine zG_iload_n X dX4_kept_16 rfl ?_
  refine zj_if_le X dX4_kept_17 (tgt := 34) (by decide) (by first | decide | omega) (fun h_17 => ?_) (fun h_17 => ?_)
  · refine zG_dconst1 X dX4_kept_34 ?_
    refine zG_dret X dX4_kept_35 rfl ?_
    first
      | exact zD.of (by unfold keD; rw [if_pos (by omega)]) rfl rfl rfl
      | exact zD.of (by unfold keD; rw [if_neg (by omega)]) rfl rfl rfl
  · refine zG_aload_n X dX4_kept_20 rfl ?_
    refine zG_getR X dX4_kept_21 fl_X4_10 (by first | rfl | assumption) (by first | decide | omega) (by decide) rfl (by first | exact zF_at hF rfl rfl | assumption) ?_
    refine zj_get X dX4_kept_24 fl_X4_160 (by first | rfl | assumption) (by first | decide | omega) (by decide) rfl ?_
    refine zG_i2d X dX4_kept_27 ?_
    refine zG_iload_n X dX4_kept_28 rfl ?_
    refine zG_i2d X dX4_kept_29 ?_
    refine zG_ddiv X dX4_kept_30 (kp_nn (kp_nz (by omega) (by omega) (by omega))) ?_
    refine zG_goto X dX4_kept_31 (tgt := 35) (by decide) ?_
    refine zG_dret X dX4_kept_35 rfl ?_
    first
      | exact zD.of (by unfold keD; rw [if_pos (by omega)]) rfl rfl rfl
      | exact zD.of (by unfold keD; rw [if_neg (by omega)]) rfl rfl rfl
