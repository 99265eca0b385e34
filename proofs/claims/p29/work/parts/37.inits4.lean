/-- blank from cell n on -/
def zB (J : Nat → Nat → Int) (G : Nat → Nat → Int64) (F : Nat → Nat → Option Nat) (n : Nat) : Prop := ∀ x, n ≤ x → zZ0 J G F x
theorem zB.mono {J : Nat → Nat → Int} {G : Nat → Nat → Int64} {F : Nat → Nat → Option Nat} {n m : Nat} (h : zB J G F n) (hm : n ≤ m) : zB J G F m := fun x hx => h x (Nat.le_trans hm hx)
theorem zB.f {J : Nat → Nat → Int} {G : Nat → Nat → Int64} {F : Nat → Nat → Option Nat} {n a i : Nat} {v : Option Nat} (h : zB J G F n) (ha : a < n) : zB J G (zup F a i v) n := fun x hx j => by
  rw [zup_ot (by omega)]
  exact h x hx j
theorem zB.nw {J : Nat → Nat → Int} {G : Nat → Nat → Int64} {F : Nat → Nat → Option Nat} {n : Nat} (h : zB J G F n) : zB (nwJ J n 5) G (nwF F n 5) (n + 6) := fun x hx j => by
  rw [nwJ_o 5 (by omega), nwF_o (by omega)]
  exact h x (by omega) j
theorem zB.ho {J : Nat → Nat → Int} {G : Nat → Nat → Int64} {F : Nat → Nat → Option Nat} {n a : Nat} (h : zB J G F n) (ha : a < n) : zB (hoI J a) G F n := fun x hx j => by
  rw [hoI_o (by omega)]
  exact h x hx j
def inJ (J : Nat → Nat → Int) : Nat → Nat → Int := nwJ (nwJ (hoI (nwJ (hoI (nwJ (hoI (nwJ (hoI (nwJ (hoI (J) 1) 2 5) 9) 10 5) 16) 17 5) 23) 24 5) 30) 31 5) 42 5
def inF (F : Nat → Nat → Option Nat) : Nat → Nat → Option Nat := zup (zup (zup (zup (nwF (zup (zup (zup (zup (zup (zup (zup (zup (nwF (zup (zup (nwF (zup (zup (nwF (zup (zup (nwF (zup (zup (zup (nwF (F) 2 5) 1 0 (some 2)) 0 0 (some 1)) 0 1 (some 8)) 10 5) 9 0 (some 10)) 8 0 (some 9)) 17 5) 16 0 (some 17)) 8 1 (some 16)) 24 5) 23 0 (some 24)) 8 2 (some 23)) 31 5) 30 0 (some 31)) 8 3 (some 30)) 37 0 (some 1)) 37 1 (some 38)) 0 3 (some 37)) 39 0 (some 1)) 39 1 (some 40)) 0 4 (some 39)) 42 5) 41 0 (some 42)) 41 2 (some 48)) 0 5 (some 41)) 0 6 (some 49)
set_option maxHeartbeats 4000000 in
set_option maxRecDepth 100000 in
theorem k_X4_init (lo d : Nat) (hd : 5 ≤ d) (J : Nat → Nat → Int) (G : Nat → Nat → Int64) (F : Nat → Nat → Option Nat) (hB : zB J G F 1) : zCt lo yX4_init cX4_init 2 none d 49 435 [.ref (lo + 0)] 1 50 (zM J) G F (zD [] (inJ J) G (inF F)) := by
  refine zCt.mk (by decide) (mi_X4_init.2.2.2.1) (Nat.le_of_ble_eq_true rfl) ?_
  intro p l e s m args below meth c D cA X
  have bc := hB
  refine zG_aload_n X dX4_init_0 rfl ?_
  refine zG_objInit X dX4_init_1 (List.mem_of_getElem? (i := 51) (by decide +kernel)) (List.mem_of_getElem? (i := 52) (by decide +kernel)) (List.mem_of_getElem? (i := 53) (by decide +kernel)) (by show 1 ≤ d; omega) (by show 0 + 12 ≤ 35 * (d); omega) ?_
  refine zG_aload_n X dX4_init_4 rfl ?_
  refine zG_new X dX4_init_5 (List.mem_of_getElem? (i := 54) (by decide +kernel)) (List.mem_of_getElem? (i := 55) (by decide +kernel)) (List.mem_of_getElem? (i := 34) (by decide +kernel)) rfl (zZ0_z (bc _ (by decide))) (Nat.le_of_ble_eq_true rfl) (Nat.le_of_ble_eq_true rfl) ?_
  refine zG_dup X dX4_init_8 rfl ?_
  refine zj_callI (as2 := []) X (k_X0_init lo (d - 1) (by omega) _ G _ (n := 2) (a := 1) rfl (by decide) (by decide) rfl (by decide) (fun i hi => bc _ (by omega))) dX4_init_9 mi_X0_init ml_X4_9 rfl rfl (by show d - 1 + 1 ≤ d; omega) (by show 19 + 1 + 35 * (d - 1) ≤ 35 * d; omega) (Nat.le_of_ble_eq_true rfl) (Nat.le_of_ble_eq_true rfl) (Nat.le_of_ble_eq_true rfl) ?_
  have bc := ((bc.mono (show _ ≤ 2 by decide)).ho (a := 1) (by decide)).nw.f (a := 1) (i := 0) (v := some 2) (by decide)
  refine zG_putF (k := 4) (j := 0) X dX4_init_12 (by decide +kernel) (by first | rfl | assumption) (by first | decide | omega) (by decide) rfl rfl rfl rfl rfl rfl ?_
  have bc := bc.f (a := 0) (i := 0) (v := some 1) (by decide)
  refine zG_aload_n X dX4_init_15 rfl ?_
  refine zj_iconst X dX4_init_16 ?_
  refine zG_anew_House X dX4_init_17 (List.mem_of_getElem? (i := 54) (by decide +kernel)) (List.mem_of_getElem? (i := 180) (by decide +kernel)) rfl (by decide) (zZ0_z (bc _ (by decide))) (by decide) (by decide) (by decide) (Nat.le_of_ble_eq_true rfl) (Nat.le_of_ble_eq_true rfl) ?_
  refine zG_putF (k := 4) (j := 1) X dX4_init_20 (by decide +kernel) (by first | rfl | assumption) (by first | decide | omega) (by decide) rfl rfl rfl rfl rfl rfl ?_
  have bc := bc.f (a := 0) (i := 1) (v := some 8) (by decide)
  refine zj_iconst X dX4_init_23 ?_
  refine zG_istore_n X dX4_init_24 (by decide) rfl ?_
  refine zG_iload_n X dX4_init_25 rfl ?_
  refine zj_iconst X dX4_init_26 ?_
  refine zj_icmp_ge X dX4_init_27 (tgt := 49) (by decide) (by first | decide | omega) (by first | decide | omega) (fun h_27 => ?_) (fun h_27 => ?_)
  · exact absurd h_27 (by first | decide | omega)
  · refine zG_aload_n X dX4_init_30 rfl ?_
    refine zG_getR X dX4_init_31 fl_X4_16 (by first | rfl | assumption) (by first | decide | omega) (by decide) rfl rfl ?_
    refine zG_iload_n X dX4_init_34 rfl ?_
    refine zG_new X dX4_init_35 (List.mem_of_getElem? (i := 54) (by decide +kernel)) (List.mem_of_getElem? (i := 55) (by decide +kernel)) (List.mem_of_getElem? (i := 34) (by decide +kernel)) rfl (zZ0_z (bc _ (by decide))) (Nat.le_of_ble_eq_true rfl) (Nat.le_of_ble_eq_true rfl) ?_
    refine zG_dup X dX4_init_38 rfl ?_
    refine zj_callI (as2 := []) X (k_X0_init lo (d - 1) (by omega) _ G _ (n := 10) (a := 9) rfl (by decide) (by decide) rfl (by decide) (fun i hi => bc _ (by omega))) dX4_init_39 mi_X0_init ml_X4_9 rfl rfl (by show d - 1 + 1 ≤ d; omega) (by show 19 + 1 + 35 * (d - 1) ≤ 35 * d; omega) (Nat.le_of_ble_eq_true rfl) (Nat.le_of_ble_eq_true rfl) (Nat.le_of_ble_eq_true rfl) ?_
    have bc := ((bc.mono (show _ ≤ 10 by decide)).ho (a := 9) (by decide)).nw.f (a := 9) (i := 0) (v := some 10) (by decide)
    refine zj_aastore4 X dX4_init_42 rfl (by decide) 0 (by decide) (by decide) rfl (by decide) ?_
    have bc := bc.f (a := 8) (i := 0) (v := some 9) (by decide)
    refine zj_iinc X dX4_init_43 rfl (by decide) rfl ?_
    refine zG_goto X dX4_init_46 (tgt := 25) (by decide) ?_
    refine zG_iload_n X dX4_init_25 rfl ?_
    refine zj_iconst X dX4_init_26 ?_
    refine zj_icmp_ge X dX4_init_27 (tgt := 49) (by decide) (by first | decide | omega) (by first | decide | omega) (fun h_27 => ?_) (fun h_27 => ?_)
    · exact absurd h_27 (by first | decide | omega)
    · refine zG_aload_n X dX4_init_30 rfl ?_
      refine zG_getR X dX4_init_31 fl_X4_16 (by first | rfl | assumption) (by first | decide | omega) (by decide) rfl rfl ?_
      refine zG_iload_n X dX4_init_34 rfl ?_
      refine zG_new X dX4_init_35 (List.mem_of_getElem? (i := 54) (by decide +kernel)) (List.mem_of_getElem? (i := 55) (by decide +kernel)) (List.mem_of_getElem? (i := 34) (by decide +kernel)) rfl (zZ0_z (bc _ (by decide))) (Nat.le_of_ble_eq_true rfl) (Nat.le_of_ble_eq_true rfl) ?_
      refine zG_dup X dX4_init_38 rfl ?_
      refine zj_callI (as2 := []) X (k_X0_init lo (d - 1) (by omega) _ G _ (n := 17) (a := 16) rfl (by decide) (by decide) rfl (by decide) (fun i hi => bc _ (by omega))) dX4_init_39 mi_X0_init ml_X4_9 rfl rfl (by show d - 1 + 1 ≤ d; omega) (by show 19 + 1 + 35 * (d - 1) ≤ 35 * d; omega) (Nat.le_of_ble_eq_true rfl) (Nat.le_of_ble_eq_true rfl) (Nat.le_of_ble_eq_true rfl) ?_
      have bc := ((bc.mono (show _ ≤ 17 by decide)).ho (a := 16) (by decide)).nw.f (a := 16) (i := 0) (v := some 17) (by decide)
      refine zj_aastore4 X dX4_init_42 rfl (by decide) 1 (by decide) (by decide) rfl (by decide) ?_
      have bc := bc.f (a := 8) (i := 1) (v := some 16) (by decide)
      refine zj_iinc X dX4_init_43 rfl (by decide) rfl ?_
      refine zG_goto X dX4_init_46 (tgt := 25) (by decide) ?_
      refine zG_iload_n X dX4_init_25 rfl ?_
      refine zj_iconst X dX4_init_26 ?_
      refine zj_icmp_ge X dX4_init_27 (tgt := 49) (by decide) (by first | decide | omega) (by first | decide | omega) (fun h_27 => ?_) (fun h_27 => ?_)
      · exact absurd h_27 (by first | decide | omega)
      · refine zG_aload_n X dX4_init_30 rfl ?_
        refine zG_getR X dX4_init_31 fl_X4_16 (by first | rfl | assumption) (by first | decide | omega) (by decide) rfl rfl ?_
        refine zG_iload_n X dX4_init_34 rfl ?_
        refine zG_new X dX4_init_35 (List.mem_of_getElem? (i := 54) (by decide +kernel)) (List.mem_of_getElem? (i := 55) (by decide +kernel)) (List.mem_of_getElem? (i := 34) (by decide +kernel)) rfl (zZ0_z (bc _ (by decide))) (Nat.le_of_ble_eq_true rfl) (Nat.le_of_ble_eq_true rfl) ?_
        refine zG_dup X dX4_init_38 rfl ?_
        refine zj_callI (as2 := []) X (k_X0_init lo (d - 1) (by omega) _ G _ (n := 24) (a := 23) rfl (by decide) (by decide) rfl (by decide) (fun i hi => bc _ (by omega))) dX4_init_39 mi_X0_init ml_X4_9 rfl rfl (by show d - 1 + 1 ≤ d; omega) (by show 19 + 1 + 35 * (d - 1) ≤ 35 * d; omega) (Nat.le_of_ble_eq_true rfl) (Nat.le_of_ble_eq_true rfl) (Nat.le_of_ble_eq_true rfl) ?_
        have bc := ((bc.mono (show _ ≤ 24 by decide)).ho (a := 23) (by decide)).nw.f (a := 23) (i := 0) (v := some 24) (by decide)
        refine zj_aastore4 X dX4_init_42 rfl (by decide) 2 (by decide) (by decide) rfl (by decide) ?_
        have bc := bc.f (a := 8) (i := 2) (v := some 23) (by decide)
        refine zj_iinc X dX4_init_43 rfl (by decide) rfl ?_
        refine zG_goto X dX4_init_46 (tgt := 25) (by decide) ?_
        refine zG_iload_n X dX4_init_25 rfl ?_
        refine zj_iconst X dX4_init_26 ?_
        refine zj_icmp_ge X dX4_init_27 (tgt := 49) (by decide) (by first | decide | omega) (by first | decide | omega) (fun h_27 => ?_) (fun h_27 => ?_)
        · exact absurd h_27 (by first | decide | omega)
        · refine zG_aload_n X dX4_init_30 rfl ?_
          refine zG_getR X dX4_init_31 fl_X4_16 (by first | rfl | assumption) (by first | decide | omega) (by decide) rfl rfl ?_
          refine zG_iload_n X dX4_init_34 rfl ?_
          refine zG_new X dX4_init_35 (List.mem_of_getElem? (i := 54) (by decide +kernel)) (List.mem_of_getElem? (i := 55) (by decide +kernel)) (List.mem_of_getElem? (i := 34) (by decide +kernel)) rfl (zZ0_z (bc _ (by decide))) (Nat.le_of_ble_eq_true rfl) (Nat.le_of_ble_eq_true rfl) ?_
          refine zG_dup X dX4_init_38 rfl ?_
          refine zj_callI (as2 := []) X (k_X0_init lo (d - 1) (by omega) _ G _ (n := 31) (a := 30) rfl (by decide) (by decide) rfl (by decide) (fun i hi => bc _ (by omega))) dX4_init_39 mi_X0_init ml_X4_9 rfl rfl (by show d - 1 + 1 ≤ d; omega) (by show 19 + 1 + 35 * (d - 1) ≤ 35 * d; omega) (Nat.le_of_ble_eq_true rfl) (Nat.le_of_ble_eq_true rfl) (Nat.le_of_ble_eq_true rfl) ?_
          have bc := ((bc.mono (show _ ≤ 31 by decide)).ho (a := 30) (by decide)).nw.f (a := 30) (i := 0) (v := some 31) (by decide)
          refine zj_aastore4 X dX4_init_42 rfl (by decide) 3 (by decide) (by decide) rfl (by decide) ?_
          have bc := bc.f (a := 8) (i := 3) (v := some 30) (by decide)
          refine zj_iinc X dX4_init_43 rfl (by decide) rfl ?_
          refine zG_goto X dX4_init_46 (tgt := 25) (by decide) ?_
          refine zG_iload_n X dX4_init_25 rfl ?_
          refine zj_iconst X dX4_init_26 ?_
          refine zj_icmp_ge X dX4_init_27 (tgt := 49) (by decide) (by first | decide | omega) (by first | decide | omega) (fun h_27 => ?_) (fun h_27 => ?_)
          · refine zG_aload_n X dX4_init_49 rfl ?_
            refine zG_new X dX4_init_50 (List.mem_of_getElem? (i := 181) (by decide +kernel)) (List.mem_of_getElem? (i := 182) (by decide +kernel)) (List.mem_of_getElem? (i := 36) (by decide +kernel)) rfl (zZ0_z (bc _ (by decide))) (Nat.le_of_ble_eq_true rfl) (Nat.le_of_ble_eq_true rfl) ?_
            refine zG_dup X dX4_init_53 rfl ?_
            refine zG_aload_n X dX4_init_54 rfl ?_
            refine zG_getR X dX4_init_55 fl_X4_10 (by first | rfl | assumption) (by first | decide | omega) (by decide) rfl rfl ?_
            refine zj_callI (as2 := [_]) X (k_X2_init lo (d - 1) (by omega) _ G _ (n := 38) (a := 37) rfl (by decide) (h := 1) (by decide) rfl (bc _ (by decide))) dX4_init_58 mi_X2_init ml_X4_22 rfl rfl (by show d - 1 + 1 ≤ d; omega) (by show 19 + 2 + 35 * (d - 1) ≤ 35 * d; omega) (Nat.le_of_ble_eq_true rfl) (Nat.le_of_ble_eq_true rfl) (Nat.le_of_ble_eq_true rfl) ?_
            have bc := ((bc.mono (show _ ≤ 38 by decide)).f (a := 37) (i := 0) (v := some 1) (by decide)).f (a := 37) (i := 1) (v := some 38) (by decide)
            have bc := bc.mono (show _ ≤ 39 by decide)
            refine zG_putF (k := 4) (j := 3) X dX4_init_61 (by decide +kernel) (by first | rfl | assumption) (by first | decide | omega) (by decide) rfl rfl rfl rfl rfl rfl ?_
            have bc := bc.f (a := 0) (i := 3) (v := some 37) (by decide)
            refine zG_aload_n X dX4_init_64 rfl ?_
            refine zG_new X dX4_init_65 (List.mem_of_getElem? (i := 181) (by decide +kernel)) (List.mem_of_getElem? (i := 182) (by decide +kernel)) (List.mem_of_getElem? (i := 36) (by decide +kernel)) rfl (zZ0_z (bc _ (by decide))) (Nat.le_of_ble_eq_true rfl) (Nat.le_of_ble_eq_true rfl) ?_
            refine zG_dup X dX4_init_68 rfl ?_
            refine zG_aload_n X dX4_init_69 rfl ?_
            refine zG_getR X dX4_init_70 fl_X4_10 (by first | rfl | assumption) (by first | decide | omega) (by decide) rfl rfl ?_
            refine zj_callI (as2 := [_]) X (k_X2_init lo (d - 1) (by omega) _ G _ (n := 40) (a := 39) rfl (by decide) (h := 1) (by decide) rfl (bc _ (by decide))) dX4_init_73 mi_X2_init ml_X4_22 rfl rfl (by show d - 1 + 1 ≤ d; omega) (by show 19 + 2 + 35 * (d - 1) ≤ 35 * d; omega) (Nat.le_of_ble_eq_true rfl) (Nat.le_of_ble_eq_true rfl) (Nat.le_of_ble_eq_true rfl) ?_
            have bc := ((bc.mono (show _ ≤ 40 by decide)).f (a := 39) (i := 0) (v := some 1) (by decide)).f (a := 39) (i := 1) (v := some 40) (by decide)
            have bc := bc.mono (show _ ≤ 41 by decide)
            refine zG_putF (k := 4) (j := 4) X dX4_init_76 (by decide +kernel) (by first | rfl | assumption) (by first | decide | omega) (by decide) rfl rfl rfl rfl rfl rfl ?_
            have bc := bc.f (a := 0) (i := 4) (v := some 39) (by decide)
            refine zG_aload_n X dX4_init_79 rfl ?_
            refine zG_new X dX4_init_80 (List.mem_of_getElem? (i := 205) (by decide +kernel)) (List.mem_of_getElem? (i := 206) (by decide +kernel)) (List.mem_of_getElem? (i := 37) (by decide +kernel)) rfl (zZ0_z (bc _ (by decide))) (Nat.le_of_ble_eq_true rfl) (Nat.le_of_ble_eq_true rfl) ?_
            refine zG_dup X dX4_init_83 rfl ?_
            refine zj_callI (as2 := []) X (k_X1_init lo (d - 1) (by omega) _ G _ (n := 42) (a := 41) rfl (by decide) (by decide) rfl (by decide) (fun i hi => bc _ (by omega)) (by decide) rfl (bc _ (by decide))) dX4_init_84 mi_X1_init ml_X4_34 rfl rfl (by show d - 1 + 1 ≤ d; omega) (by show 19 + 1 + 35 * (d - 1) ≤ 35 * d; omega) (Nat.le_of_ble_eq_true rfl) (Nat.le_of_ble_eq_true rfl) (Nat.le_of_ble_eq_true rfl) ?_
            have bc := ((bc.mono (show _ ≤ 42 by decide)).nw.f (a := 41) (i := 0) (v := some 42) (by decide)).f (a := 41) (i := 2) (v := some 48) (by decide)
            have bc := bc.mono (show _ ≤ 49 by decide)
            refine zG_putF (k := 4) (j := 5) X dX4_init_87 (by decide +kernel) (by first | rfl | assumption) (by first | decide | omega) (by decide) rfl rfl rfl rfl rfl rfl ?_
            have bc := bc.f (a := 0) (i := 5) (v := some 41) (by decide)
            refine zG_aload_n X dX4_init_90 rfl ?_
            refine zj_bipush X dX4_init_91 (by decide) ?_
            refine zG_newa_byte X dX4_init_93 (List.mem_of_getElem? (i := 227) (by decide +kernel)) rfl (by decide) (zZ0_z (bc _ (by decide))) (by decide) (by decide) (by decide) (Nat.le_of_ble_eq_true rfl) (Nat.le_of_ble_eq_true rfl) ?_
            refine zG_putF (k := 4) (j := 6) X dX4_init_95 (by decide +kernel) (by first | rfl | assumption) (by first | decide | omega) (by decide) rfl rfl rfl rfl rfl rfl ?_
            have bc := bc.f (a := 0) (i := 6) (v := some 49) (by decide)
            refine zG_vret X dX4_init_98 rfl ?_
            exact zD.rf
          · exact absurd h_27 (by first | decide | omega)
