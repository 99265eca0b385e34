/-! the Model's changes that may be refused -/
def mOk (r : Nat → Int) : Prop := (0 ≤ r 0 ∧ r 0 ≤ 5) ∧ ∀ k, k < (r 0).toNat → 2 ≤ r (13 + 7 * k + 0) ∧ r (13 + 7 * k + 0) ≤ 60 ∧ -1 ≤ r (13 + 7 * k + 3) ∧ r (13 + 7 * k + 3) < 5
theorem ms51 {J : Nat → Nat → Int} {i : Nat} : msJ (zup J 50 4 0) 51 i = J 51 i := by simp [msJ, zup, upr]
theorem ms51f {J : Nat → Nat → Int} : msJ (zup J 50 4 0) 51 = J 51 := funext fun i => ms51
theorem ms504 {J : Nat → Nat → Int} : msJ (zup J 50 4 0) 50 4 = 0 := by simp [msJ, zup, upr]
set_option maxHeartbeats 4000000 in
theorem k_X5_toothk (lo d : Nat) (hd : 2 ≤ d) (J : Nat → Nat → Int) (G : Nat → Nat → Int64) (F : Nat → Nat → Option Nat) (hF : zFk F) {k : Nat} (hk : k < 5) {u t : Int} (hu : u = k) (ht : zr t) (h0 : 2 ≤ J 51 (13 + 7 * k + 0)) (h1 : J 51 (13 + 7 * k + 0) ≤ 60) : zCt lo yX5_isToothOf cX5_isToothOf 3 (some .boolean) d 0 0 [.ref (lo + 50), .int (zI u), .int (zI t)] 57 57 (zM J) G F (zD [.int (zI (if 0 ≤ t ∧ t < J 51 (13 + 7 * k + 0) then 1 else 0))] J G F) := by
  subst hu
  have e : (13 + 7 * (k : Int) + 0).toNat = 13 + 7 * k + 0 := by omega
  have h := k_X5_isToothOf lo d hd J G F hF (u := (k : Int)) (t := t) (by omega) (by omega) ht (by rw [e]; omega) (by rw [e]; omega)
  rw [e] at h
  have e2 : (if 0 ≤ t ∧ t ≤ J 51 (13 + 7 * k + 0) - 1 then (1 : Int) else 0) = if 0 ≤ t ∧ t < J 51 (13 + 7 * k + 0) then 1 else 0 := by
    by_cases q : 0 ≤ t ∧ t < J 51 (13 + 7 * k + 0)
    · rw [if_pos q, if_pos (by omega)]
    · rw [if_neg q, if_neg (by omega)]
  rw [e2] at h
  exact h
set_option maxHeartbeats 4000000 in
set_option maxRecDepth 100000 in
theorem k_X5_clearSkip (lo d : Nat) (hd : 3 ≤ d) (J : Nat → Nat → Int) (G : Nat → Nat → Int64) (F : Nat → Nat → Option Nat) (hF : zFk F) (mo : mOk (J 51)) (t1 : 0 ≤ J 50 3) (t2 : J 50 3 ≤ 4) {u : Int} (hu : zr u) : zCt lo yX5_clearSkip cX5_clearSkip 2 (some .int) d 0 0 [.ref (lo + 50), .int (zI u)] 57 57 (zM J) G F (zMR (if ¬ (0 ≤ u ∧ u < J 51 0) then 1 else 0) (if J 51 (13 + 7 * u.toNat + 3) = -1 then 0 else 1) J (sk3 (msJ (zup J 50 4 0)) u.toNat (-1) (-1) 0) G F) := by
  refine zCt.mk (by decide) (mv_X5_clearSkip.2.2.2.1) (Nat.le_of_ble_eq_true rfl) ?_
  intro p l e s m args below meth c D cA X
  obtain ⟨⟨m0, m5⟩, mw⟩ := mo
  refine zG_aload_n X dX5_clearSkip_0 rfl ?_
  refine zG_aload_n X dX5_clearSkip_1 rfl ?_
  refine zG_iload_n X dX5_clearSkip_2 rfl ?_
  refine zj_callV1 (as2 := [_]) X (k_X5_isWheel lo (d - 1) (by omega) J G F hF (u := u) hu m0 m5) dX5_clearSkip_3 mv_X5_isWheel ml_X5_61 (by first | rfl | assumption) rfl (by first | decide | omega) rfl rfl (by show d - 1 + 1 ≤ d; omega) (by show 19 + 2 + 35 * (d - 1) ≤ 35 * (d); omega) (Nat.le_of_ble_eq_true rfl) (Nat.le_of_ble_eq_true rfl) (Nat.le_of_ble_eq_true rfl) ?_
  by_cases hb : 0 ≤ u ∧ u ≤ J 51 0 - 1
  · rw [if_pos hb]
    obtain ⟨k, rfl⟩ := Int.eq_ofNat_of_zero_le hb.1
    have hk5 : k < 5 := by omega
    have hmk := mw k (by omega)
    refine zj_if_eq X dX5_clearSkip_6 (tgt := 13) (by decide) (by first | decide | omega) (fun h_6 => ?_) (fun h_6 => ?_)
    · exact absurd h_6 (by first | decide | omega)
    · refine zj_iconst X dX5_clearSkip_9 ?_
      refine zG_goto X dX5_clearSkip_10 (tgt := 14) (by decide) ?_
      refine zj_callV1 (as2 := [_]) X (k_X5_refused lo (d - 1) J G F (x := 0) (by decide)) dX5_clearSkip_14 mv_X5_refused ml_X5_33 (by first | rfl | assumption) rfl (by first | decide | omega) rfl rfl (by show d - 1 + 1 ≤ d; omega) (by show 19 + 2 + 35 * (d - 1) ≤ 35 * (d); omega) (Nat.le_of_ble_eq_true rfl) (Nat.le_of_ble_eq_true rfl) (Nat.le_of_ble_eq_true rfl) ?_
      refine zj_if_eq X dX5_clearSkip_17 (tgt := 22) (by decide) (by first | decide | omega) (fun h_17 => ?_) (fun h_17 => ?_)
      · refine zG_aload_n X dX5_clearSkip_22 rfl ?_
        refine zj_callV0 (as2 := []) X (k_X5_saves lo (d - 1) (zup J 50 4 0) G F hF (by rw [zup_ne (by decide)]; omega) (by rw [zup_ne (by decide)]; omega)) dX5_clearSkip_23 mv_X5_saves ml_X5_55 (by first | rfl | assumption) rfl (by first | decide | omega) rfl rfl (by show d - 1 + 1 ≤ d; omega) (by show 19 + 2 + 35 * (d - 1) ≤ 35 * (d); omega) (Nat.le_of_ble_eq_true rfl) (Nat.le_of_ble_eq_true rfl) (Nat.le_of_ble_eq_true rfl) ?_
        refine zG_aload_n X dX5_clearSkip_26 rfl ?_
        refine zG_iload_n X dX5_clearSkip_27 rfl ?_
        refine zj_iconst X dX5_clearSkip_28 ?_
        refine zj_iconst X dX5_clearSkip_29 ?_
        refine zj_iconst X dX5_clearSkip_30 ?_
        refine zj_callV1 (as2 := [_, _, _, _]) X (k_X5_skips lo (d - 1) (by omega) (msJ (zup J 50 4 0)) G F hF (k := k) hk5 (a := -1) (b := -1) (c := 0) (by rw [ms51]; unfold zr; omega)) dX5_clearSkip_31 mv_X5_skips ml_X5_68 (by first | rfl | assumption) rfl (by first | decide | omega) rfl rfl (by show d - 1 + 1 ≤ d; omega) (by show 19 + 7 + 35 * (d - 1) ≤ 35 * (d); omega) (Nat.le_of_ble_eq_true rfl) (Nat.le_of_ble_eq_true rfl) (Nat.le_of_ble_eq_true rfl) ?_
        refine zG_iret X dX5_clearSkip_34 rfl ?_
        first
          | exact zMR.yes (by first | exact if_neg (by omega) | exact (if_neg (by omega)).trans (if_neg (by omega))) (by simp [sk3, zup, upr, ms504]) (by rw [ms51] <;> rfl) sameM_rf
          | (exfalso; omega)
      · exact absurd h_17 (by first | decide | omega)
  · rw [if_neg hb]
    refine zj_if_eq X dX5_clearSkip_6 (tgt := 13) (by decide) (by first | decide | omega) (fun h_6 => ?_) (fun h_6 => ?_)
    · refine zj_iconst X dX5_clearSkip_13 ?_
      refine zj_callV1 (as2 := [_]) X (k_X5_refused lo (d - 1) J G F (x := 1) (by decide)) dX5_clearSkip_14 mv_X5_refused ml_X5_33 (by first | rfl | assumption) rfl (by first | decide | omega) rfl rfl (by show d - 1 + 1 ≤ d; omega) (by show 19 + 2 + 35 * (d - 1) ≤ 35 * (d); omega) (Nat.le_of_ble_eq_true rfl) (Nat.le_of_ble_eq_true rfl) (Nat.le_of_ble_eq_true rfl) ?_
      refine zj_if_eq X dX5_clearSkip_17 (tgt := 22) (by decide) (by first | decide | omega) (fun h_17 => ?_) (fun h_17 => ?_)
      · exact absurd h_17 (by first | decide | omega)
      · refine zj_iconst X dX5_clearSkip_20 ?_
        refine zG_iret X dX5_clearSkip_21 rfl ?_
        first
          | exact zMR.no (if_pos (by omega)) (by decide)
          | exact zMR.no ((if_neg (by omega)).trans (if_pos (by omega))) (by decide)
          | (exfalso; omega)
    · exact absurd h_6 (by first | decide | omega)
set_option maxHeartbeats 4000000 in
set_option maxRecDepth 100000 in
theorem k_X5_setSkip (lo d : Nat) (hd : 3 ≤ d) (J : Nat → Nat → Int) (G : Nat → Nat → Int64) (F : Nat → Nat → Option Nat) (hF : zFk F) (mo : mOk (J 51)) (t1 : 0 ≤ J 50 3) (t2 : J 50 3 ≤ 4) {u v w2 z : Int} (hu : zr u) (hv : zr v) (hw2 : zr w2) (hz : zr z) : zCt lo yX5_setSkip cX5_setSkip 6 (some .int) d 0 0 [.ref (lo + 50), .int (zI u), .int (zI v), .int (zI w2), .int (zI z)] 57 57 (zM J) G F (zMR (if ¬ (0 ≤ u ∧ u < J 51 0) then 1 else if ¬ (0 ≤ v ∧ v < u ∧ (0 ≤ w2 ∧ w2 < J 51 (13 + 7 * v.toNat + 0)) ∧ (z = -1 ∨ z = 1)) then 2 else 0) (if J 51 (13 + 7 * u.toNat + 3) = -1 then 0 else 1) J (sk3 (msJ (zup J 50 4 0)) u.toNat v w2 z) G F) := by
  refine zCt.mk (by decide) (mv_X5_setSkip.2.2.2.1) (Nat.le_of_ble_eq_true rfl) ?_
  intro p l e s m args below meth c D cA X
  obtain ⟨⟨m0, m5⟩, mw⟩ := mo
  refine zG_aload_n X dX5_setSkip_0 rfl ?_
  refine zG_iload_n X dX5_setSkip_1 rfl ?_
  refine zj_callV1 (as2 := [_]) X (k_X5_isWheel lo (d - 1) (by omega) J G F hF (u := u) hu m0 m5) dX5_setSkip_2 mv_X5_isWheel ml_X5_61 (by first | rfl | assumption) rfl (by first | decide | omega) rfl rfl (by show d - 1 + 1 ≤ d; omega) (by show 19 + 2 + 35 * (d - 1) ≤ 35 * (d); omega) (Nat.le_of_ble_eq_true rfl) (Nat.le_of_ble_eq_true rfl) (Nat.le_of_ble_eq_true rfl) ?_
  by_cases hb : 0 ≤ u ∧ u ≤ J 51 0 - 1
  · rw [if_pos hb]
    obtain ⟨k, rfl⟩ := Int.eq_ofNat_of_zero_le hb.1
    have hk5 : k < 5 := by omega
    have hmk := mw k (by omega)
    simp only [Int.toNat_natCast]
    refine zj_if_eq X dX5_setSkip_5 (tgt := 44) (by decide) (by first | decide | omega) (fun h_5 => ?_) (fun h_5 => ?_)
    · exact absurd h_5 (by first | decide | omega)
    · refine zG_iload_n X dX5_setSkip_8 rfl ?_
      refine zj_iconst X dX5_setSkip_9 ?_
      refine zG_iload_n X dX5_setSkip_10 rfl ?_
      refine zj_iconst X dX5_setSkip_11 ?_
      refine zj_isub X dX5_setSkip_12 ?_
      refine zj_callS1 (as2 := [_, _, _]) X (k_X5_in lo (d - 1) J G F (x := v) (a := 0) (b := _) (by first | assumption | (unfold zr; omega)) (by first | decide | (unfold zr; omega)) (by first | decide | (unfold zr; omega))) dX5_setSkip_13 ms_X5_in ml_X5_41 rfl rfl (by show d - 1 + 1 ≤ d; omega) (by show 19 + 3 + 35 * (d - 1) ≤ 35 * (d); omega) (Nat.le_of_ble_eq_true rfl) (Nat.le_of_ble_eq_true rfl) (Nat.le_of_ble_eq_true rfl) ?_
      by_cases hv2 : 0 ≤ v ∧ v ≤ (k : Int) - 1
      · rw [if_pos hv2]
        obtain ⟨j, rfl⟩ := Int.eq_ofNat_of_zero_le hv2.1
        have hj5 : j < 5 := by omega
        have hmj := mw j (by omega)
        simp only [Int.toNat_natCast]
        refine zj_if_eq X dX5_setSkip_16 (tgt := 44) (by decide) (by first | decide | omega) (fun h_16 => ?_) (fun h_16 => ?_)
        · exact absurd h_16 (by first | decide | omega)
        · refine zG_aload_n X dX5_setSkip_19 rfl ?_
          refine zG_iload_n X dX5_setSkip_20 rfl ?_
          refine zG_iload_n X dX5_setSkip_21 rfl ?_
          refine zj_callV1 (as2 := [_, _]) X (k_X5_toothk lo (d - 1) (by omega) J G F hF (k := j) hj5 rfl (t := w2) hw2 (by omega) (by omega)) dX5_setSkip_22 mv_X5_isToothOf ml_X5_64 (by first | rfl | assumption) rfl (by first | decide | omega) rfl rfl (by show d - 1 + 1 ≤ d; omega) (by show 19 + 3 + 35 * (d - 1) ≤ 35 * (d); omega) (Nat.le_of_ble_eq_true rfl) (Nat.le_of_ble_eq_true rfl) (Nat.le_of_ble_eq_true rfl) ?_
          by_cases ht2 : 0 ≤ w2 ∧ w2 < J 51 (13 + 7 * j + 0)
          · rw [if_pos ht2]
            refine zj_if_eq X dX5_setSkip_25 (tgt := 44) (by decide) (by first | decide | omega) (fun h_25 => ?_) (fun h_25 => ?_)
            · exact absurd h_25 (by first | decide | omega)
            · refine zG_iload X dX5_setSkip_28 rfl ?_
              refine zj_iconst X dX5_setSkip_30 ?_
              refine zj_icmp_eq X dX5_setSkip_31 (tgt := 40) (by decide) (by first | decide | omega) (by first | decide | omega) (fun h_31 => ?_) (fun h_31 => ?_)
              · refine zj_iconst X dX5_setSkip_40 ?_
                refine zG_goto X dX5_setSkip_41 (tgt := 45) (by decide) ?_
                refine zG_istore X dX5_setSkip_45 (by decide) rfl ?_
                refine zG_aload_n X dX5_setSkip_47 rfl ?_
                refine zG_aload_n X dX5_setSkip_48 rfl ?_
                refine zG_iload_n X dX5_setSkip_49 rfl ?_
                refine zj_callV1 (as2 := [_]) X (k_X5_isWheel lo (d - 1) (by omega) J G F hF (u := _) hu m0 m5) dX5_setSkip_50 mv_X5_isWheel ml_X5_61 (by first | rfl | assumption) rfl (by first | decide | omega) rfl rfl (by show d - 1 + 1 ≤ d; omega) (by show 19 + 2 + 35 * (d - 1) ≤ 35 * (d); omega) (Nat.le_of_ble_eq_true rfl) (Nat.le_of_ble_eq_true rfl) (Nat.le_of_ble_eq_true rfl) ?_
                rw [if_pos hb]
                refine zj_if_ne X dX5_setSkip_53 (tgt := 60) (by decide) (by first | decide | omega) (fun h_53 => ?_) (fun h_53 => ?_)
                · refine zG_iload X dX5_setSkip_60 rfl ?_
                  refine zj_if_eq X dX5_setSkip_62 (tgt := 69) (by decide) (by first | decide | omega) (fun h_62 => ?_) (fun h_62 => ?_)
                  · exact absurd h_62 (by first | decide | omega)
                  · refine zj_iconst X dX5_setSkip_65 ?_
                    refine zG_goto X dX5_setSkip_66 (tgt := 70) (by decide) ?_
                    refine zj_callV1 (as2 := [_]) X (k_X5_refused lo (d - 1) J G F (x := 0) (by decide)) dX5_setSkip_70 mv_X5_refused ml_X5_33 (by first | rfl | assumption) rfl (by first | decide | omega) rfl rfl (by show d - 1 + 1 ≤ d; omega) (by show 19 + 2 + 35 * (d - 1) ≤ 35 * (d); omega) (Nat.le_of_ble_eq_true rfl) (Nat.le_of_ble_eq_true rfl) (Nat.le_of_ble_eq_true rfl) ?_
                    refine zj_if_eq X dX5_setSkip_73 (tgt := 78) (by decide) (by first | decide | omega) (fun h_73 => ?_) (fun h_73 => ?_)
                    · refine zG_aload_n X dX5_setSkip_78 rfl ?_
                      refine zj_callV0 (as2 := []) X (k_X5_saves lo (d - 1) (zup J 50 4 0) G F hF (by rw [zup_ne (by decide)]; omega) (by rw [zup_ne (by decide)]; omega)) dX5_setSkip_79 mv_X5_saves ml_X5_55 (by first | rfl | assumption) rfl (by first | decide | omega) rfl rfl (by show d - 1 + 1 ≤ d; omega) (by show 19 + 2 + 35 * (d - 1) ≤ 35 * (d); omega) (Nat.le_of_ble_eq_true rfl) (Nat.le_of_ble_eq_true rfl) (Nat.le_of_ble_eq_true rfl) ?_
                      refine zG_aload_n X dX5_setSkip_82 rfl ?_
                      refine zG_iload_n X dX5_setSkip_83 rfl ?_
                      refine zG_iload_n X dX5_setSkip_84 rfl ?_
                      refine zG_iload_n X dX5_setSkip_85 rfl ?_
                      refine zG_iload X dX5_setSkip_86 rfl ?_
                      refine zj_callV1 (as2 := [_, _, _, _]) X (k_X5_skips lo (d - 1) (by omega) (msJ (zup J 50 4 0)) G F hF (k := k) hk5 (a := _) (b := _) (c := _) (by rw [ms51]; unfold zr; omega)) dX5_setSkip_88 mv_X5_skips ml_X5_68 (by first | rfl | assumption) rfl (by first | decide | omega) rfl rfl (by show d - 1 + 1 ≤ d; omega) (by show 19 + 7 + 35 * (d - 1) ≤ 35 * (d); omega) (Nat.le_of_ble_eq_true rfl) (Nat.le_of_ble_eq_true rfl) (Nat.le_of_ble_eq_true rfl) ?_
                      refine zG_iret X dX5_setSkip_91 rfl ?_
                      first
                        | exact zMR.yes (by first | exact if_neg (by omega) | exact (if_neg (by omega)).trans (if_neg (by omega))) (by simp [sk3, zup, upr, ms504]) (by rw [ms51] <;> rfl) sameM_rf
                        | (exfalso; omega)
                    · exact absurd h_73 (by first | decide | omega)
                · exact absurd h_53 (by first | decide | omega)
              · refine zG_iload X dX5_setSkip_34 rfl ?_
                refine zj_iconst X dX5_setSkip_36 ?_
                refine zj_icmp_ne X dX5_setSkip_37 (tgt := 44) (by decide) (by first | decide | omega) (by first | decide | omega) (fun h_37 => ?_) (fun h_37 => ?_)
                · refine zj_iconst X dX5_setSkip_44 ?_
                  refine zG_istore X dX5_setSkip_45 (by decide) rfl ?_
                  refine zG_aload_n X dX5_setSkip_47 rfl ?_
                  refine zG_aload_n X dX5_setSkip_48 rfl ?_
                  refine zG_iload_n X dX5_setSkip_49 rfl ?_
                  refine zj_callV1 (as2 := [_]) X (k_X5_isWheel lo (d - 1) (by omega) J G F hF (u := _) hu m0 m5) dX5_setSkip_50 mv_X5_isWheel ml_X5_61 (by first | rfl | assumption) rfl (by first | decide | omega) rfl rfl (by show d - 1 + 1 ≤ d; omega) (by show 19 + 2 + 35 * (d - 1) ≤ 35 * (d); omega) (Nat.le_of_ble_eq_true rfl) (Nat.le_of_ble_eq_true rfl) (Nat.le_of_ble_eq_true rfl) ?_
                  rw [if_pos hb]
                  refine zj_if_ne X dX5_setSkip_53 (tgt := 60) (by decide) (by first | decide | omega) (fun h_53 => ?_) (fun h_53 => ?_)
                  · refine zG_iload X dX5_setSkip_60 rfl ?_
                    refine zj_if_eq X dX5_setSkip_62 (tgt := 69) (by decide) (by first | decide | omega) (fun h_62 => ?_) (fun h_62 => ?_)
                    · refine zj_iconst X dX5_setSkip_69 ?_
                      refine zj_callV1 (as2 := [_]) X (k_X5_refused lo (d - 1) J G F (x := 2) (by decide)) dX5_setSkip_70 mv_X5_refused ml_X5_33 (by first | rfl | assumption) rfl (by first | decide | omega) rfl rfl (by show d - 1 + 1 ≤ d; omega) (by show 19 + 2 + 35 * (d - 1) ≤ 35 * (d); omega) (Nat.le_of_ble_eq_true rfl) (Nat.le_of_ble_eq_true rfl) (Nat.le_of_ble_eq_true rfl) ?_
                      refine zj_if_eq X dX5_setSkip_73 (tgt := 78) (by decide) (by first | decide | omega) (fun h_73 => ?_) (fun h_73 => ?_)
                      · exact absurd h_73 (by first | decide | omega)
                      · refine zj_iconst X dX5_setSkip_76 ?_
                        refine zG_iret X dX5_setSkip_77 rfl ?_
                        first
                          | exact zMR.no (if_pos (by omega)) (by decide)
                          | exact zMR.no ((if_neg (by omega)).trans (if_pos (by omega))) (by decide)
                          | (exfalso; omega)
                    · exact absurd h_62 (by first | decide | omega)
                  · exact absurd h_53 (by first | decide | omega)
                · refine zj_iconst X dX5_setSkip_40 ?_
                  refine zG_goto X dX5_setSkip_41 (tgt := 45) (by decide) ?_
                  refine zG_istore X dX5_setSkip_45 (by decide) rfl ?_
                  refine zG_aload_n X dX5_setSkip_47 rfl ?_
                  refine zG_aload_n X dX5_setSkip_48 rfl ?_
                  refine zG_iload_n X dX5_setSkip_49 rfl ?_
                  refine zj_callV1 (as2 := [_]) X (k_X5_isWheel lo (d - 1) (by omega) J G F hF (u := _) hu m0 m5) dX5_setSkip_50 mv_X5_isWheel ml_X5_61 (by first | rfl | assumption) rfl (by first | decide | omega) rfl rfl (by show d - 1 + 1 ≤ d; omega) (by show 19 + 2 + 35 * (d - 1) ≤ 35 * (d); omega) (Nat.le_of_ble_eq_true rfl) (Nat.le_of_ble_eq_true rfl) (Nat.le_of_ble_eq_true rfl) ?_
                  rw [if_pos hb]
                  refine zj_if_ne X dX5_setSkip_53 (tgt := 60) (by decide) (by first | decide | omega) (fun h_53 => ?_) (fun h_53 => ?_)
                  · refine zG_iload X dX5_setSkip_60 rfl ?_
                    refine zj_if_eq X dX5_setSkip_62 (tgt := 69) (by decide) (by first | decide | omega) (fun h_62 => ?_) (fun h_62 => ?_)
                    · exact absurd h_62 (by first | decide | omega)
                    · refine zj_iconst X dX5_setSkip_65 ?_
                      refine zG_goto X dX5_setSkip_66 (tgt := 70) (by decide) ?_
                      refine zj_callV1 (as2 := [_]) X (k_X5_refused lo (d - 1) J G F (x := 0) (by decide)) dX5_setSkip_70 mv_X5_refused ml_X5_33 (by first | rfl | assumption) rfl (by first | decide | omega) rfl rfl (by show d - 1 + 1 ≤ d; omega) (by show 19 + 2 + 35 * (d - 1) ≤ 35 * (d); omega) (Nat.le_of_ble_eq_true rfl) (Nat.le_of_ble_eq_true rfl) (Nat.le_of_ble_eq_true rfl) ?_
                      refine zj_if_eq X dX5_setSkip_73 (tgt := 78) (by decide) (by first | decide | omega) (fun h_73 => ?_) (fun h_73 => ?_)
                      · refine zG_aload_n X dX5_setSkip_78 rfl ?_
                        refine zj_callV0 (as2 := []) X (k_X5_saves lo (d - 1) (zup J 50 4 0) G F hF (by rw [zup_ne (by decide)]; omega) (by rw [zup_ne (by decide)]; omega)) dX5_setSkip_79 mv_X5_saves ml_X5_55 (by first | rfl | assumption) rfl (by first | decide | omega) rfl rfl (by show d - 1 + 1 ≤ d; omega) (by show 19 + 2 + 35 * (d - 1) ≤ 35 * (d); omega) (Nat.le_of_ble_eq_true rfl) (Nat.le_of_ble_eq_true rfl) (Nat.le_of_ble_eq_true rfl) ?_
                        refine zG_aload_n X dX5_setSkip_82 rfl ?_
                        refine zG_iload_n X dX5_setSkip_83 rfl ?_
                        refine zG_iload_n X dX5_setSkip_84 rfl ?_
                        refine zG_iload_n X dX5_setSkip_85 rfl ?_
                        refine zG_iload X dX5_setSkip_86 rfl ?_
                        refine zj_callV1 (as2 := [_, _, _, _]) X (k_X5_skips lo (d - 1) (by omega) (msJ (zup J 50 4 0)) G F hF (k := k) hk5 (a := _) (b := _) (c := _) (by rw [ms51]; unfold zr; omega)) dX5_setSkip_88 mv_X5_skips ml_X5_68 (by first | rfl | assumption) rfl (by first | decide | omega) rfl rfl (by show d - 1 + 1 ≤ d; omega) (by show 19 + 7 + 35 * (d - 1) ≤ 35 * (d); omega) (Nat.le_of_ble_eq_true rfl) (Nat.le_of_ble_eq_true rfl) (Nat.le_of_ble_eq_true rfl) ?_
                        refine zG_iret X dX5_setSkip_91 rfl ?_
                        first
                          | exact zMR.yes (by first | exact if_neg (by omega) | exact (if_neg (by omega)).trans (if_neg (by omega))) (by simp [sk3, zup, upr, ms504]) (by rw [ms51] <;> rfl) sameM_rf
                          | (exfalso; omega)
                      · exact absurd h_73 (by first | decide | omega)
                  · exact absurd h_53 (by first | decide | omega)
          · rw [if_neg ht2]
            refine zj_if_eq X dX5_setSkip_25 (tgt := 44) (by decide) (by first | decide | omega) (fun h_25 => ?_) (fun h_25 => ?_)
            · refine zj_iconst X dX5_setSkip_44 ?_
              refine zG_istore X dX5_setSkip_45 (by decide) rfl ?_
              refine zG_aload_n X dX5_setSkip_47 rfl ?_
              refine zG_aload_n X dX5_setSkip_48 rfl ?_
              refine zG_iload_n X dX5_setSkip_49 rfl ?_
              refine zj_callV1 (as2 := [_]) X (k_X5_isWheel lo (d - 1) (by omega) J G F hF (u := _) hu m0 m5) dX5_setSkip_50 mv_X5_isWheel ml_X5_61 (by first | rfl | assumption) rfl (by first | decide | omega) rfl rfl (by show d - 1 + 1 ≤ d; omega) (by show 19 + 2 + 35 * (d - 1) ≤ 35 * (d); omega) (Nat.le_of_ble_eq_true rfl) (Nat.le_of_ble_eq_true rfl) (Nat.le_of_ble_eq_true rfl) ?_
              rw [if_pos hb]
              refine zj_if_ne X dX5_setSkip_53 (tgt := 60) (by decide) (by first | decide | omega) (fun h_53 => ?_) (fun h_53 => ?_)
              · refine zG_iload X dX5_setSkip_60 rfl ?_
                refine zj_if_eq X dX5_setSkip_62 (tgt := 69) (by decide) (by first | decide | omega) (fun h_62 => ?_) (fun h_62 => ?_)
                · refine zj_iconst X dX5_setSkip_69 ?_
                  refine zj_callV1 (as2 := [_]) X (k_X5_refused lo (d - 1) J G F (x := 2) (by decide)) dX5_setSkip_70 mv_X5_refused ml_X5_33 (by first | rfl | assumption) rfl (by first | decide | omega) rfl rfl (by show d - 1 + 1 ≤ d; omega) (by show 19 + 2 + 35 * (d - 1) ≤ 35 * (d); omega) (Nat.le_of_ble_eq_true rfl) (Nat.le_of_ble_eq_true rfl) (Nat.le_of_ble_eq_true rfl) ?_
                  refine zj_if_eq X dX5_setSkip_73 (tgt := 78) (by decide) (by first | decide | omega) (fun h_73 => ?_) (fun h_73 => ?_)
                  · exact absurd h_73 (by first | decide | omega)
                  · refine zj_iconst X dX5_setSkip_76 ?_
                    refine zG_iret X dX5_setSkip_77 rfl ?_
                    first
                      | exact zMR.no (if_pos (by omega)) (by decide)
                      | exact zMR.no ((if_neg (by omega)).trans (if_pos (by omega))) (by decide)
                      | (exfalso; omega)
                · exact absurd h_62 (by first | decide | omega)
              · exact absurd h_53 (by first | decide | omega)
            · exact absurd h_25 (by first | decide | omega)
      · rw [if_neg hv2]
        refine zj_if_eq X dX5_setSkip_16 (tgt := 44) (by decide) (by first | decide | omega) (fun h_16 => ?_) (fun h_16 => ?_)
        · refine zj_iconst X dX5_setSkip_44 ?_
          refine zG_istore X dX5_setSkip_45 (by decide) rfl ?_
          refine zG_aload_n X dX5_setSkip_47 rfl ?_
          refine zG_aload_n X dX5_setSkip_48 rfl ?_
          refine zG_iload_n X dX5_setSkip_49 rfl ?_
          refine zj_callV1 (as2 := [_]) X (k_X5_isWheel lo (d - 1) (by omega) J G F hF (u := _) hu m0 m5) dX5_setSkip_50 mv_X5_isWheel ml_X5_61 (by first | rfl | assumption) rfl (by first | decide | omega) rfl rfl (by show d - 1 + 1 ≤ d; omega) (by show 19 + 2 + 35 * (d - 1) ≤ 35 * (d); omega) (Nat.le_of_ble_eq_true rfl) (Nat.le_of_ble_eq_true rfl) (Nat.le_of_ble_eq_true rfl) ?_
          rw [if_pos hb]
          refine zj_if_ne X dX5_setSkip_53 (tgt := 60) (by decide) (by first | decide | omega) (fun h_53 => ?_) (fun h_53 => ?_)
          · refine zG_iload X dX5_setSkip_60 rfl ?_
            refine zj_if_eq X dX5_setSkip_62 (tgt := 69) (by decide) (by first | decide | omega) (fun h_62 => ?_) (fun h_62 => ?_)
            · refine zj_iconst X dX5_setSkip_69 ?_
              refine zj_callV1 (as2 := [_]) X (k_X5_refused lo (d - 1) J G F (x := 2) (by decide)) dX5_setSkip_70 mv_X5_refused ml_X5_33 (by first | rfl | assumption) rfl (by first | decide | omega) rfl rfl (by show d - 1 + 1 ≤ d; omega) (by show 19 + 2 + 35 * (d - 1) ≤ 35 * (d); omega) (Nat.le_of_ble_eq_true rfl) (Nat.le_of_ble_eq_true rfl) (Nat.le_of_ble_eq_true rfl) ?_
              refine zj_if_eq X dX5_setSkip_73 (tgt := 78) (by decide) (by first | decide | omega) (fun h_73 => ?_) (fun h_73 => ?_)
              · exact absurd h_73 (by first | decide | omega)
              · refine zj_iconst X dX5_setSkip_76 ?_
                refine zG_iret X dX5_setSkip_77 rfl ?_
                first
                  | exact zMR.no (if_pos (by omega)) (by decide)
                  | exact zMR.no ((if_neg (by omega)).trans (if_pos (by omega))) (by decide)
                  | (exfalso; omega)
            · exact absurd h_62 (by first | decide | omega)
          · exact absurd h_53 (by first | decide | omega)
        · exact absurd h_16 (by first | decide | omega)
  · rw [if_neg hb]
    refine zj_if_eq X dX5_setSkip_5 (tgt := 44) (by decide) (by first | decide | omega) (fun h_5 => ?_) (fun h_5 => ?_)
    · refine zj_iconst X dX5_setSkip_44 ?_
      refine zG_istore X dX5_setSkip_45 (by decide) rfl ?_
      refine zG_aload_n X dX5_setSkip_47 rfl ?_
      refine zG_aload_n X dX5_setSkip_48 rfl ?_
      refine zG_iload_n X dX5_setSkip_49 rfl ?_
      refine zj_callV1 (as2 := [_]) X (k_X5_isWheel lo (d - 1) (by omega) J G F hF (u := _) hu m0 m5) dX5_setSkip_50 mv_X5_isWheel ml_X5_61 (by first | rfl | assumption) rfl (by first | decide | omega) rfl rfl (by show d - 1 + 1 ≤ d; omega) (by show 19 + 2 + 35 * (d - 1) ≤ 35 * (d); omega) (Nat.le_of_ble_eq_true rfl) (Nat.le_of_ble_eq_true rfl) (Nat.le_of_ble_eq_true rfl) ?_
      rw [if_neg hb]
      refine zj_if_ne X dX5_setSkip_53 (tgt := 60) (by decide) (by first | decide | omega) (fun h_53 => ?_) (fun h_53 => ?_)
      · exact absurd h_53 (by first | decide | omega)
      · refine zj_iconst X dX5_setSkip_56 ?_
        refine zG_goto X dX5_setSkip_57 (tgt := 70) (by decide) ?_
        refine zj_callV1 (as2 := [_]) X (k_X5_refused lo (d - 1) J G F (x := 1) (by decide)) dX5_setSkip_70 mv_X5_refused ml_X5_33 (by first | rfl | assumption) rfl (by first | decide | omega) rfl rfl (by show d - 1 + 1 ≤ d; omega) (by show 19 + 2 + 35 * (d - 1) ≤ 35 * (d); omega) (Nat.le_of_ble_eq_true rfl) (Nat.le_of_ble_eq_true rfl) (Nat.le_of_ble_eq_true rfl) ?_
        refine zj_if_eq X dX5_setSkip_73 (tgt := 78) (by decide) (by first | decide | omega) (fun h_73 => ?_) (fun h_73 => ?_)
        · exact absurd h_73 (by first | decide | omega)
        · refine zj_iconst X dX5_setSkip_76 ?_
          refine zG_iret X dX5_setSkip_77 rfl ?_
          first
            | exact zMR.no (if_pos (by omega)) (by decide)
            | exact zMR.no ((if_neg (by omega)).trans (if_pos (by omega))) (by decide)
            | (exfalso; omega)
    · exact absurd h_5 (by first | decide | omega)
set_option maxHeartbeats 4000000 in
set_option maxRecDepth 100000 in
theorem k_X5_setWheel (lo d : Nat) (hd : 3 ≤ d) (J : Nat → Nat → Int) (G : Nat → Nat → Int64) (F : Nat → Nat → Option Nat) (hF : zFk F) (mo : mOk (J 51)) (t1 : 0 ≤ J 50 3) (t2 : J 50 3 ≤ 4) {u v w2 : Int} (hu : zr u) (hv : zr v) (hw2 : zr w2) : zCt lo yX5_setWheel cX5_setWheel 5 (some .int) d 0 0 [.ref (lo + 50), .int (zI u), .int (zI v), .int (zI w2)] 57 57 (zM J) G F (zMR (if ¬ (0 ≤ u ∧ u < J 51 0) then 1 else if ¬ (0 ≤ v ∧ v < J 51 (13 + 7 * u.toNat + 0) ∧ 0 ≤ w2 ∧ w2 < J 51 (13 + 7 * u.toNat + 0)) then 2 else 0) (J 51 (13 + 7 * u.toNat + 1)) J (zup (zup (msJ (zup J 50 4 0)) 51 (13 + 7 * u.toNat + 1) v) 51 (13 + 7 * u.toNat + 2) w2) G F) := by
  refine zCt.mk (by decide) (mv_X5_setWheel.2.2.2.1) (Nat.le_of_ble_eq_true rfl) ?_
  intro p l e s m args below meth c D cA X
  obtain ⟨⟨m0, m5⟩, mw⟩ := mo
  refine zG_aload_n X dX5_setWheel_0 rfl ?_
  refine zG_aload_n X dX5_setWheel_1 rfl ?_
  refine zG_iload_n X dX5_setWheel_2 rfl ?_
  refine zj_callV1 (as2 := [_]) X (k_X5_isWheel lo (d - 1) (by omega) J G F hF (u := u) hu m0 m5) dX5_setWheel_3 mv_X5_isWheel ml_X5_61 (by first | rfl | assumption) rfl (by first | decide | omega) rfl rfl (by show d - 1 + 1 ≤ d; omega) (by show 19 + 2 + 35 * (d - 1) ≤ 35 * (d); omega) (Nat.le_of_ble_eq_true rfl) (Nat.le_of_ble_eq_true rfl) (Nat.le_of_ble_eq_true rfl) ?_
  by_cases hb : 0 ≤ u ∧ u ≤ J 51 0 - 1
  · rw [if_pos hb]
    obtain ⟨k, rfl⟩ := Int.eq_ofNat_of_zero_le hb.1
    have hk5 : k < 5 := by omega
    have hmk := mw k (by omega)
    simp only [Int.toNat_natCast]
    refine zj_if_ne X dX5_setWheel_6 (tgt := 13) (by decide) (by first | decide | omega) (fun h_6 => ?_) (fun h_6 => ?_)
    · refine zG_aload_n X dX5_setWheel_13 rfl ?_
      refine zG_iload_n X dX5_setWheel_14 rfl ?_
      refine zG_iload_n X dX5_setWheel_15 rfl ?_
      refine zj_callV1 (as2 := [_, _]) X (k_X5_toothk lo (d - 1) (by omega) J G F hF (k := k) hk5 rfl (t := v) hv (by omega) (by omega)) dX5_setWheel_16 mv_X5_isToothOf ml_X5_64 (by first | rfl | assumption) rfl (by first | decide | omega) rfl rfl (by show d - 1 + 1 ≤ d; omega) (by show 19 + 3 + 35 * (d - 1) ≤ 35 * (d); omega) (Nat.le_of_ble_eq_true rfl) (Nat.le_of_ble_eq_true rfl) (Nat.le_of_ble_eq_true rfl) ?_
      by_cases hv2 : 0 ≤ v ∧ v < J 51 (13 + 7 * k + 0)
      · rw [if_pos hv2]
        refine zj_if_eq X dX5_setWheel_19 (tgt := 35) (by decide) (by first | decide | omega) (fun h_19 => ?_) (fun h_19 => ?_)
        · exact absurd h_19 (by first | decide | omega)
        · refine zG_aload_n X dX5_setWheel_22 rfl ?_
          refine zG_iload_n X dX5_setWheel_23 rfl ?_
          refine zG_iload_n X dX5_setWheel_24 rfl ?_
          refine zj_callV1 (as2 := [_, _]) X (k_X5_toothk lo (d - 1) (by omega) J G F hF (k := k) hk5 rfl (t := w2) hw2 (by omega) (by omega)) dX5_setWheel_25 mv_X5_isToothOf ml_X5_64 (by first | rfl | assumption) rfl (by first | decide | omega) rfl rfl (by show d - 1 + 1 ≤ d; omega) (by show 19 + 3 + 35 * (d - 1) ≤ 35 * (d); omega) (Nat.le_of_ble_eq_true rfl) (Nat.le_of_ble_eq_true rfl) (Nat.le_of_ble_eq_true rfl) ?_
          by_cases ht2 : 0 ≤ w2 ∧ w2 < J 51 (13 + 7 * k + 0)
          · rw [if_pos ht2]
            refine zj_if_eq X dX5_setWheel_28 (tgt := 35) (by decide) (by first | decide | omega) (fun h_28 => ?_) (fun h_28 => ?_)
            · exact absurd h_28 (by first | decide | omega)
            · refine zj_iconst X dX5_setWheel_31 ?_
              refine zG_goto X dX5_setWheel_32 (tgt := 36) (by decide) ?_
              refine zj_callV1 (as2 := [_]) X (k_X5_refused lo (d - 1) J G F (x := 0) (by decide)) dX5_setWheel_36 mv_X5_refused ml_X5_33 (by first | rfl | assumption) rfl (by first | decide | omega) rfl rfl (by show d - 1 + 1 ≤ d; omega) (by show 19 + 2 + 35 * (d - 1) ≤ 35 * (d); omega) (Nat.le_of_ble_eq_true rfl) (Nat.le_of_ble_eq_true rfl) (Nat.le_of_ble_eq_true rfl) ?_
              refine zj_if_eq X dX5_setWheel_39 (tgt := 44) (by decide) (by first | decide | omega) (fun h_39 => ?_) (fun h_39 => ?_)
              · refine zG_aload_n X dX5_setWheel_44 rfl ?_
                refine zj_callV0 (as2 := []) X (k_X5_saves lo (d - 1) (zup J 50 4 0) G F hF (by rw [zup_ne (by decide)]; omega) (by rw [zup_ne (by decide)]; omega)) dX5_setWheel_45 mv_X5_saves ml_X5_55 (by first | rfl | assumption) rfl (by first | decide | omega) rfl rfl (by show d - 1 + 1 ≤ d; omega) (by show 19 + 2 + 35 * (d - 1) ≤ 35 * (d); omega) (Nat.le_of_ble_eq_true rfl) (Nat.le_of_ble_eq_true rfl) (Nat.le_of_ble_eq_true rfl) ?_
                refine zG_aload_n X dX5_setWheel_48 rfl ?_
                refine zG_iload_n X dX5_setWheel_49 rfl ?_
                refine zj_iconst X dX5_setWheel_50 ?_
                refine zj_callV1 (as2 := [_, _]) X (k_X5_ofv lo (d - 1) (by omega) (msJ (zup J 50 4 0)) G F hF (u := (k : Int)) (v := 1) (x := J 51 (13 + 7 * k + 1)) k 1 (by omega) (by omega) rfl rfl ms51) dX5_setWheel_51 mv_X5_of ml_X5_45 (by first | rfl | assumption) rfl (by first | decide | omega) rfl rfl (by show d - 1 + 1 ≤ d; omega) (by show 19 + 3 + 35 * (d - 1) ≤ 35 * (d); omega) (Nat.le_of_ble_eq_true rfl) (Nat.le_of_ble_eq_true rfl) (Nat.le_of_ble_eq_true rfl) ?_
                refine zG_istore X dX5_setWheel_54 (by decide) rfl ?_
                refine zG_aload_n X dX5_setWheel_56 rfl ?_
                refine zG_getR X dX5_setWheel_57 fl_X5_7 (by first | rfl | assumption) (by first | decide | omega) (by decide) rfl (by first | exact zF_at hF rfl rfl | assumption) ?_
                refine zG_iload_n X dX5_setWheel_60 rfl ?_
                refine zj_callS1 (as2 := [_]) X (k_X5_at lo (d - 1) _ G F (k := (k : Int))) dX5_setWheel_61 ms_X5_at ml_X5_37 rfl rfl (by show d - 1 + 1 ≤ d; omega) (by show 19 + 1 + 35 * (d - 1) ≤ 35 * (d); omega) (Nat.le_of_ble_eq_true rfl) (Nat.le_of_ble_eq_true rfl) (Nat.le_of_ble_eq_true rfl) ?_
                refine zj_iconst X dX5_setWheel_64 ?_
                refine zj_iadd X dX5_setWheel_65 ?_
                refine zG_iload_n X dX5_setWheel_66 rfl ?_
                refine zj_iastore X dX5_setWheel_67 (by first | rfl | assumption) (by first | decide | omega) (13 + 7 * k + 1) (by omega) (by omega) ?_
                refine zG_aload_n X dX5_setWheel_68 rfl ?_
                refine zG_getR X dX5_setWheel_69 fl_X5_7 (by first | rfl | assumption) (by first | decide | omega) (by decide) rfl (by first | exact zF_at hF rfl rfl | assumption) ?_
                refine zG_iload_n X dX5_setWheel_72 rfl ?_
                refine zj_callS1 (as2 := [_]) X (k_X5_at lo (d - 1) _ G F (k := (k : Int))) dX5_setWheel_73 ms_X5_at ml_X5_37 rfl rfl (by show d - 1 + 1 ≤ d; omega) (by show 19 + 1 + 35 * (d - 1) ≤ 35 * (d); omega) (Nat.le_of_ble_eq_true rfl) (Nat.le_of_ble_eq_true rfl) (Nat.le_of_ble_eq_true rfl) ?_
                refine zj_iconst X dX5_setWheel_76 ?_
                refine zj_iadd X dX5_setWheel_77 ?_
                refine zG_iload_n X dX5_setWheel_78 rfl ?_
                refine zj_iastore X dX5_setWheel_79 (by first | rfl | assumption) (by first | decide | omega) (13 + 7 * k + 2) (by omega) (by omega) ?_
                refine zG_iload X dX5_setWheel_80 rfl ?_
                refine zG_iret X dX5_setWheel_82 rfl ?_
                first
                  | exact zMR.yes (by first | exact if_neg (by omega) | exact (if_neg (by omega)).trans (if_neg (by omega))) (by simp [zup, upr, ms504]) (rfl) sameM_rf
                  | (exfalso; omega)
              · exact absurd h_39 (by first | decide | omega)
          · rw [if_neg ht2]
            refine zj_if_eq X dX5_setWheel_28 (tgt := 35) (by decide) (by first | decide | omega) (fun h_28 => ?_) (fun h_28 => ?_)
            · refine zj_iconst X dX5_setWheel_35 ?_
              refine zj_callV1 (as2 := [_]) X (k_X5_refused lo (d - 1) J G F (x := 2) (by decide)) dX5_setWheel_36 mv_X5_refused ml_X5_33 (by first | rfl | assumption) rfl (by first | decide | omega) rfl rfl (by show d - 1 + 1 ≤ d; omega) (by show 19 + 2 + 35 * (d - 1) ≤ 35 * (d); omega) (Nat.le_of_ble_eq_true rfl) (Nat.le_of_ble_eq_true rfl) (Nat.le_of_ble_eq_true rfl) ?_
              refine zj_if_eq X dX5_setWheel_39 (tgt := 44) (by decide) (by first | decide | omega) (fun h_39 => ?_) (fun h_39 => ?_)
              · exact absurd h_39 (by first | decide | omega)
              · refine zj_iconst X dX5_setWheel_42 ?_
                refine zG_iret X dX5_setWheel_43 rfl ?_
                first
                  | exact zMR.no (if_pos (by omega)) (by decide)
                  | exact zMR.no ((if_neg (by omega)).trans (if_pos (by omega))) (by decide)
                  | (exfalso; omega)
            · exact absurd h_28 (by first | decide | omega)
      · rw [if_neg hv2]
        refine zj_if_eq X dX5_setWheel_19 (tgt := 35) (by decide) (by first | decide | omega) (fun h_19 => ?_) (fun h_19 => ?_)
        · refine zj_iconst X dX5_setWheel_35 ?_
          refine zj_callV1 (as2 := [_]) X (k_X5_refused lo (d - 1) J G F (x := 2) (by decide)) dX5_setWheel_36 mv_X5_refused ml_X5_33 (by first | rfl | assumption) rfl (by first | decide | omega) rfl rfl (by show d - 1 + 1 ≤ d; omega) (by show 19 + 2 + 35 * (d - 1) ≤ 35 * (d); omega) (Nat.le_of_ble_eq_true rfl) (Nat.le_of_ble_eq_true rfl) (Nat.le_of_ble_eq_true rfl) ?_
          refine zj_if_eq X dX5_setWheel_39 (tgt := 44) (by decide) (by first | decide | omega) (fun h_39 => ?_) (fun h_39 => ?_)
          · exact absurd h_39 (by first | decide | omega)
          · refine zj_iconst X dX5_setWheel_42 ?_
            refine zG_iret X dX5_setWheel_43 rfl ?_
            first
              | exact zMR.no (if_pos (by omega)) (by decide)
              | exact zMR.no ((if_neg (by omega)).trans (if_pos (by omega))) (by decide)
              | (exfalso; omega)
        · exact absurd h_19 (by first | decide | omega)
    · exact absurd h_6 (by first | decide | omega)
  · rw [if_neg hb]
    refine zj_if_ne X dX5_setWheel_6 (tgt := 13) (by decide) (by first | decide | omega) (fun h_6 => ?_) (fun h_6 => ?_)
    · exact absurd h_6 (by first | decide | omega)
    · refine zj_iconst X dX5_setWheel_9 ?_
      refine zG_goto X dX5_setWheel_10 (tgt := 36) (by decide) ?_
      refine zj_callV1 (as2 := [_]) X (k_X5_refused lo (d - 1) J G F (x := 1) (by decide)) dX5_setWheel_36 mv_X5_refused ml_X5_33 (by first | rfl | assumption) rfl (by first | decide | omega) rfl rfl (by show d - 1 + 1 ≤ d; omega) (by show 19 + 2 + 35 * (d - 1) ≤ 35 * (d); omega) (Nat.le_of_ble_eq_true rfl) (Nat.le_of_ble_eq_true rfl) (Nat.le_of_ble_eq_true rfl) ?_
      refine zj_if_eq X dX5_setWheel_39 (tgt := 44) (by decide) (by first | decide | omega) (fun h_39 => ?_) (fun h_39 => ?_)
      · exact absurd h_39 (by first | decide | omega)
      · refine zj_iconst X dX5_setWheel_42 ?_
        refine zG_iret X dX5_setWheel_43 rfl ?_
        first
          | exact zMR.no (if_pos (by omega)) (by decide)
          | exact zMR.no ((if_neg (by omega)).trans (if_pos (by omega))) (by decide)
          | (exfalso; omega)
set_option maxHeartbeats 4000000 in
set_option maxRecDepth 100000 in
theorem k_X5_setMoon (lo d : Nat) (hd : 3 ≤ d) (J : Nat → Nat → Int) (G : Nat → Nat → Int64) (F : Nat → Nat → Option Nat) (hF : zFk F) (mo : mOk (J 51)) (t1 : 0 ≤ J 50 3) (t2 : J 50 3 ≤ 4) {u v : Int} (hu : zr u) (hv : zr v) : zCt lo yX5_setMoon cX5_setMoon 4 (some .int) d 0 0 [.ref (lo + 50), .int (zI u), .int (zI v)] 57 57 (zM J) G F (zMR (if ¬ (0 ≤ u ∧ u < J 51 0) then 1 else if ¬ (0 ≤ v ∧ v < 720) then 2 else 0) (J 51 2) J (zup (zup (msJ (zup J 50 4 0)) 51 2 u) 51 3 v) G F) := by
  refine zCt.mk (by decide) (mv_X5_setMoon.2.2.2.1) (Nat.le_of_ble_eq_true rfl) ?_
  intro p l e s m args below meth c D cA X
  obtain ⟨⟨m0, m5⟩, mw⟩ := mo
  refine zG_aload_n X dX5_setMoon_0 rfl ?_
  refine zG_aload_n X dX5_setMoon_1 rfl ?_
  refine zG_iload_n X dX5_setMoon_2 rfl ?_
  refine zj_callV1 (as2 := [_]) X (k_X5_isWheel lo (d - 1) (by omega) J G F hF (u := u) hu m0 m5) dX5_setMoon_3 mv_X5_isWheel ml_X5_61 (by first | rfl | assumption) rfl (by first | decide | omega) rfl rfl (by show d - 1 + 1 ≤ d; omega) (by show 19 + 2 + 35 * (d - 1) ≤ 35 * (d); omega) (Nat.le_of_ble_eq_true rfl) (Nat.le_of_ble_eq_true rfl) (Nat.le_of_ble_eq_true rfl) ?_
  by_cases hb : 0 ≤ u ∧ u ≤ J 51 0 - 1
  · rw [if_pos hb]
    refine zj_if_ne X dX5_setMoon_6 (tgt := 13) (by decide) (by first | decide | omega) (fun h_6 => ?_) (fun h_6 => ?_)
    · refine zG_iload_n X dX5_setMoon_13 rfl ?_
      refine zj_iconst X dX5_setMoon_14 ?_
      refine zj_sipush X dX5_setMoon_15 (by decide) ?_
      refine zj_callS1 (as2 := [_, _, _]) X (k_X5_in lo (d - 1) J G F (x := v) (a := 0) (b := 719) (by first | assumption | (unfold zr; omega)) (by first | decide | (unfold zr; omega)) (by first | decide | (unfold zr; omega))) dX5_setMoon_18 ms_X5_in ml_X5_41 rfl rfl (by show d - 1 + 1 ≤ d; omega) (by show 19 + 3 + 35 * (d - 1) ≤ 35 * (d); omega) (Nat.le_of_ble_eq_true rfl) (Nat.le_of_ble_eq_true rfl) (Nat.le_of_ble_eq_true rfl) ?_
      by_cases hv2 : 0 ≤ v ∧ v ≤ 719
      · rw [if_pos hv2]
        refine zj_if_eq X dX5_setMoon_21 (tgt := 28) (by decide) (by first | decide | omega) (fun h_21 => ?_) (fun h_21 => ?_)
        · exact absurd h_21 (by first | decide | omega)
        · refine zj_iconst X dX5_setMoon_24 ?_
          refine zG_goto X dX5_setMoon_25 (tgt := 29) (by decide) ?_
          refine zj_callV1 (as2 := [_]) X (k_X5_refused lo (d - 1) J G F (x := 0) (by decide)) dX5_setMoon_29 mv_X5_refused ml_X5_33 (by first | rfl | assumption) rfl (by first | decide | omega) rfl rfl (by show d - 1 + 1 ≤ d; omega) (by show 19 + 2 + 35 * (d - 1) ≤ 35 * (d); omega) (Nat.le_of_ble_eq_true rfl) (Nat.le_of_ble_eq_true rfl) (Nat.le_of_ble_eq_true rfl) ?_
          refine zj_if_eq X dX5_setMoon_32 (tgt := 37) (by decide) (by first | decide | omega) (fun h_32 => ?_) (fun h_32 => ?_)
          · refine zG_aload_n X dX5_setMoon_37 rfl ?_
            refine zj_callV0 (as2 := []) X (k_X5_saves lo (d - 1) (zup J 50 4 0) G F hF (by rw [zup_ne (by decide)]; omega) (by rw [zup_ne (by decide)]; omega)) dX5_setMoon_38 mv_X5_saves ml_X5_55 (by first | rfl | assumption) rfl (by first | decide | omega) rfl rfl (by show d - 1 + 1 ≤ d; omega) (by show 19 + 2 + 35 * (d - 1) ≤ 35 * (d); omega) (Nat.le_of_ble_eq_true rfl) (Nat.le_of_ble_eq_true rfl) (Nat.le_of_ble_eq_true rfl) ?_
            refine zG_aload_n X dX5_setMoon_41 rfl ?_
            refine zG_getR X dX5_setMoon_42 fl_X5_7 (by first | rfl | assumption) (by first | decide | omega) (by decide) rfl (by first | exact zF_at hF rfl rfl | assumption) ?_
            refine zj_iconst X dX5_setMoon_45 ?_
            refine zj_ialoadv (v := J 51 2) X dX5_setMoon_46 (by first | rfl | assumption) (by first | decide | omega) (2) (by decide) (by decide) (ms51) ?_
            refine zG_istore_n X dX5_setMoon_47 (by decide) rfl ?_
            refine zG_aload_n X dX5_setMoon_48 rfl ?_
            refine zG_getR X dX5_setMoon_49 fl_X5_7 (by first | rfl | assumption) (by first | decide | omega) (by decide) rfl (by first | exact zF_at hF rfl rfl | assumption) ?_
            refine zj_iconst X dX5_setMoon_52 ?_
            refine zG_iload_n X dX5_setMoon_53 rfl ?_
            refine zj_iastore X dX5_setMoon_54 (by first | rfl | assumption) (by first | decide | omega) (2) (by decide) (by decide) ?_
            refine zG_aload_n X dX5_setMoon_55 rfl ?_
            refine zG_getR X dX5_setMoon_56 fl_X5_7 (by first | rfl | assumption) (by first | decide | omega) (by decide) rfl (by first | exact zF_at hF rfl rfl | assumption) ?_
            refine zj_iconst X dX5_setMoon_59 ?_
            refine zG_iload_n X dX5_setMoon_60 rfl ?_
            refine zj_iastore X dX5_setMoon_61 (by first | rfl | assumption) (by first | decide | omega) (3) (by decide) (by decide) ?_
            refine zG_iload_n X dX5_setMoon_62 rfl ?_
            refine zG_iret X dX5_setMoon_63 rfl ?_
            first
              | exact zMR.yes (by first | exact if_neg (by omega) | exact (if_neg (by omega)).trans (if_neg (by omega))) (by simp [zup, upr, ms504]) (rfl) sameM_rf
              | (exfalso; omega)
          · exact absurd h_32 (by first | decide | omega)
      · rw [if_neg hv2]
        refine zj_if_eq X dX5_setMoon_21 (tgt := 28) (by decide) (by first | decide | omega) (fun h_21 => ?_) (fun h_21 => ?_)
        · refine zj_iconst X dX5_setMoon_28 ?_
          refine zj_callV1 (as2 := [_]) X (k_X5_refused lo (d - 1) J G F (x := 2) (by decide)) dX5_setMoon_29 mv_X5_refused ml_X5_33 (by first | rfl | assumption) rfl (by first | decide | omega) rfl rfl (by show d - 1 + 1 ≤ d; omega) (by show 19 + 2 + 35 * (d - 1) ≤ 35 * (d); omega) (Nat.le_of_ble_eq_true rfl) (Nat.le_of_ble_eq_true rfl) (Nat.le_of_ble_eq_true rfl) ?_
          refine zj_if_eq X dX5_setMoon_32 (tgt := 37) (by decide) (by first | decide | omega) (fun h_32 => ?_) (fun h_32 => ?_)
          · exact absurd h_32 (by first | decide | omega)
          · refine zj_iconst X dX5_setMoon_35 ?_
            refine zG_iret X dX5_setMoon_36 rfl ?_
            first
              | exact zMR.no (if_pos (by omega)) (by decide)
              | exact zMR.no ((if_neg (by omega)).trans (if_pos (by omega))) (by decide)
              | (exfalso; omega)
        · exact absurd h_21 (by first | decide | omega)
    · exact absurd h_6 (by first | decide | omega)
  · rw [if_neg hb]
    refine zj_if_ne X dX5_setMoon_6 (tgt := 13) (by decide) (by first | decide | omega) (fun h_6 => ?_) (fun h_6 => ?_)
    · exact absurd h_6 (by first | decide | omega)
    · refine zj_iconst X dX5_setMoon_9 ?_
      refine zG_goto X dX5_setMoon_10 (tgt := 29) (by decide) ?_
      refine zj_callV1 (as2 := [_]) X (k_X5_refused lo (d - 1) J G F (x := 1) (by decide)) dX5_setMoon_29 mv_X5_refused ml_X5_33 (by first | rfl | assumption) rfl (by first | decide | omega) rfl rfl (by show d - 1 + 1 ≤ d; omega) (by show 19 + 2 + 35 * (d - 1) ≤ 35 * (d); omega) (Nat.le_of_ble_eq_true rfl) (Nat.le_of_ble_eq_true rfl) (Nat.le_of_ble_eq_true rfl) ?_
      refine zj_if_eq X dX5_setMoon_32 (tgt := 37) (by decide) (by first | decide | omega) (fun h_32 => ?_) (fun h_32 => ?_)
      · exact absurd h_32 (by first | decide | omega)
      · refine zj_iconst X dX5_setMoon_35 ?_
        refine zG_iret X dX5_setMoon_36 rfl ?_
        first
          | exact zMR.no (if_pos (by omega)) (by decide)
          | exact zMR.no ((if_neg (by omega)).trans (if_pos (by omega))) (by decide)
          | (exfalso; omega)
set_option maxHeartbeats 4000000 in
set_option maxRecDepth 100000 in
theorem k_X5_setMarket (lo d : Nat) (hd : 3 ≤ d) (J : Nat → Nat → Int) (G : Nat → Nat → Int64) (F : Nat → Nat → Option Nat) (hF : zFk F) (mo : mOk (J 51)) (t1 : 0 ≤ J 50 3) (t2 : J 50 3 ≤ 4) {u v w2 z : Int} (hu : zr u) (hv : zr v) (hw2 : zr w2) (hz : zr z) : zCt lo yX5_setMarket cX5_setMarket 6 (some .int) d 0 0 [.ref (lo + 50), .int (zI u), .int (zI v), .int (zI w2), .int (zI z)] 57 57 (zM J) G F (zMR (if ¬ (0 ≤ u ∧ u < J 51 0) then 1 else if ¬ (0 ≤ v ∧ v ≤ 1439 ∧ 1 ≤ w2 ∧ w2 ≤ 600 ∧ 0 ≤ z ∧ z ≤ 5) then 2 else 0) (J 51 4) J (upr (zup (zup (zup (zup (msJ (zup J 50 4 0)) 51 4 u) 51 5 v) 51 6 w2) 51 7 z) 51 (emR ((zup (zup (zup (zup (msJ (zup J 50 4 0)) 51 4 u) 51 5 v) 51 6 w2) 51 7 z) 51) 60)) G F) := by
  refine zCt.mk (by decide) (mv_X5_setMarket.2.2.2.1) (Nat.le_of_ble_eq_true rfl) ?_
  intro p l e s m args below meth c D cA X
  obtain ⟨⟨m0, m5⟩, mw⟩ := mo
  refine zG_aload_n X dX5_setMarket_0 rfl ?_
  refine zG_aload_n X dX5_setMarket_1 rfl ?_
  refine zG_iload_n X dX5_setMarket_2 rfl ?_
  refine zj_callV1 (as2 := [_]) X (k_X5_isWheel lo (d - 1) (by omega) J G F hF (u := u) hu m0 m5) dX5_setMarket_3 mv_X5_isWheel ml_X5_61 (by first | rfl | assumption) rfl (by first | decide | omega) rfl rfl (by show d - 1 + 1 ≤ d; omega) (by show 19 + 2 + 35 * (d - 1) ≤ 35 * (d); omega) (Nat.le_of_ble_eq_true rfl) (Nat.le_of_ble_eq_true rfl) (Nat.le_of_ble_eq_true rfl) ?_
  by_cases hb : 0 ≤ u ∧ u ≤ J 51 0 - 1
  · rw [if_pos hb]
    refine zj_if_ne X dX5_setMarket_6 (tgt := 13) (by decide) (by first | decide | omega) (fun h_6 => ?_) (fun h_6 => ?_)
    · refine zG_iload_n X dX5_setMarket_13 rfl ?_
      refine zj_iconst X dX5_setMarket_14 ?_
      refine zj_sipush X dX5_setMarket_15 (by decide) ?_
      refine zj_callS1 (as2 := [_, _, _]) X (k_X5_in lo (d - 1) J G F (x := v) (a := 0) (b := 1439) (by first | assumption | (unfold zr; omega)) (by first | decide | (unfold zr; omega)) (by first | decide | (unfold zr; omega))) dX5_setMarket_18 ms_X5_in ml_X5_41 rfl rfl (by show d - 1 + 1 ≤ d; omega) (by show 19 + 3 + 35 * (d - 1) ≤ 35 * (d); omega) (Nat.le_of_ble_eq_true rfl) (Nat.le_of_ble_eq_true rfl) (Nat.le_of_ble_eq_true rfl) ?_
      by_cases hv2 : 0 ≤ v ∧ v ≤ 1439
      · rw [if_pos hv2]
        refine zj_if_eq X dX5_setMarket_21 (tgt := 49) (by decide) (by first | decide | omega) (fun h_21 => ?_) (fun h_21 => ?_)
        · exact absurd h_21 (by first | decide | omega)
        · refine zG_iload_n X dX5_setMarket_24 rfl ?_
          refine zj_iconst X dX5_setMarket_25 ?_
          refine zj_sipush X dX5_setMarket_26 (by decide) ?_
          refine zj_callS1 (as2 := [_, _, _]) X (k_X5_in lo (d - 1) J G F (x := w2) (a := 1) (b := 600) (by first | assumption | (unfold zr; omega)) (by first | decide | (unfold zr; omega)) (by first | decide | (unfold zr; omega))) dX5_setMarket_29 ms_X5_in ml_X5_41 rfl rfl (by show d - 1 + 1 ≤ d; omega) (by show 19 + 3 + 35 * (d - 1) ≤ 35 * (d); omega) (Nat.le_of_ble_eq_true rfl) (Nat.le_of_ble_eq_true rfl) (Nat.le_of_ble_eq_true rfl) ?_
          by_cases hw3 : 1 ≤ w2 ∧ w2 ≤ 600
          · rw [if_pos hw3]
            refine zj_if_eq X dX5_setMarket_32 (tgt := 49) (by decide) (by first | decide | omega) (fun h_32 => ?_) (fun h_32 => ?_)
            · exact absurd h_32 (by first | decide | omega)
            · refine zG_iload X dX5_setMarket_35 rfl ?_
              refine zj_iconst X dX5_setMarket_37 ?_
              refine zj_iconst X dX5_setMarket_38 ?_
              refine zj_callS1 (as2 := [_, _, _]) X (k_X5_in lo (d - 1) J G F (x := z) (a := 0) (b := 5) (by first | assumption | (unfold zr; omega)) (by first | decide | (unfold zr; omega)) (by first | decide | (unfold zr; omega))) dX5_setMarket_39 ms_X5_in ml_X5_41 rfl rfl (by show d - 1 + 1 ≤ d; omega) (by show 19 + 3 + 35 * (d - 1) ≤ 35 * (d); omega) (Nat.le_of_ble_eq_true rfl) (Nat.le_of_ble_eq_true rfl) (Nat.le_of_ble_eq_true rfl) ?_
              by_cases hz3 : 0 ≤ z ∧ z ≤ 5
              · rw [if_pos hz3]
                refine zj_if_eq X dX5_setMarket_42 (tgt := 49) (by decide) (by first | decide | omega) (fun h_42 => ?_) (fun h_42 => ?_)
                · exact absurd h_42 (by first | decide | omega)
                · refine zj_iconst X dX5_setMarket_45 ?_
                  refine zG_goto X dX5_setMarket_46 (tgt := 50) (by decide) ?_
                  refine zj_callV1 (as2 := [_]) X (k_X5_refused lo (d - 1) J G F (x := 0) (by decide)) dX5_setMarket_50 mv_X5_refused ml_X5_33 (by first | rfl | assumption) rfl (by first | decide | omega) rfl rfl (by show d - 1 + 1 ≤ d; omega) (by show 19 + 2 + 35 * (d - 1) ≤ 35 * (d); omega) (Nat.le_of_ble_eq_true rfl) (Nat.le_of_ble_eq_true rfl) (Nat.le_of_ble_eq_true rfl) ?_
                  refine zj_if_eq X dX5_setMarket_53 (tgt := 58) (by decide) (by first | decide | omega) (fun h_53 => ?_) (fun h_53 => ?_)
                  · refine zG_aload_n X dX5_setMarket_58 rfl ?_
                    refine zj_callV0 (as2 := []) X (k_X5_saves lo (d - 1) (zup J 50 4 0) G F hF (by rw [zup_ne (by decide)]; omega) (by rw [zup_ne (by decide)]; omega)) dX5_setMarket_59 mv_X5_saves ml_X5_55 (by first | rfl | assumption) rfl (by first | decide | omega) rfl rfl (by show d - 1 + 1 ≤ d; omega) (by show 19 + 2 + 35 * (d - 1) ≤ 35 * (d); omega) (Nat.le_of_ble_eq_true rfl) (Nat.le_of_ble_eq_true rfl) (Nat.le_of_ble_eq_true rfl) ?_
                    refine zG_aload_n X dX5_setMarket_62 rfl ?_
                    refine zG_getR X dX5_setMarket_63 fl_X5_7 (by first | rfl | assumption) (by first | decide | omega) (by decide) rfl (by first | exact zF_at hF rfl rfl | assumption) ?_
                    refine zj_iconst X dX5_setMarket_66 ?_
                    refine zj_ialoadv (v := J 51 4) X dX5_setMarket_67 (by first | rfl | assumption) (by first | decide | omega) (4) (by decide) (by decide) (ms51) ?_
                    refine zG_istore X dX5_setMarket_68 (by decide) rfl ?_
                    refine zG_aload_n X dX5_setMarket_70 rfl ?_
                    refine zG_getR X dX5_setMarket_71 fl_X5_7 (by first | rfl | assumption) (by first | decide | omega) (by decide) rfl (by first | exact zF_at hF rfl rfl | assumption) ?_
                    refine zj_iconst X dX5_setMarket_74 ?_
                    refine zG_iload_n X dX5_setMarket_75 rfl ?_
                    refine zj_iastore X dX5_setMarket_76 (by first | rfl | assumption) (by first | decide | omega) (4) (by decide) (by decide) ?_
                    refine zG_aload_n X dX5_setMarket_77 rfl ?_
                    refine zG_getR X dX5_setMarket_78 fl_X5_7 (by first | rfl | assumption) (by first | decide | omega) (by decide) rfl (by first | exact zF_at hF rfl rfl | assumption) ?_
                    refine zj_iconst X dX5_setMarket_81 ?_
                    refine zG_iload_n X dX5_setMarket_82 rfl ?_
                    refine zj_iastore X dX5_setMarket_83 (by first | rfl | assumption) (by first | decide | omega) (5) (by decide) (by decide) ?_
                    refine zG_aload_n X dX5_setMarket_84 rfl ?_
                    refine zG_getR X dX5_setMarket_85 fl_X5_7 (by first | rfl | assumption) (by first | decide | omega) (by decide) rfl (by first | exact zF_at hF rfl rfl | assumption) ?_
                    refine zj_bipush X dX5_setMarket_88 (by decide) ?_
                    refine zG_iload_n X dX5_setMarket_90 rfl ?_
                    refine zj_iastore X dX5_setMarket_91 (by first | rfl | assumption) (by first | decide | omega) (6) (by decide) (by decide) ?_
                    refine zG_aload_n X dX5_setMarket_92 rfl ?_
                    refine zG_getR X dX5_setMarket_93 fl_X5_7 (by first | rfl | assumption) (by first | decide | omega) (by decide) rfl (by first | exact zF_at hF rfl rfl | assumption) ?_
                    refine zj_bipush X dX5_setMarket_96 (by decide) ?_
                    refine zG_iload X dX5_setMarket_98 rfl ?_
                    refine zj_iastore X dX5_setMarket_100 (by first | rfl | assumption) (by first | decide | omega) (7) (by decide) (by decide) ?_
                    refine zG_aload_n X dX5_setMarket_101 rfl ?_
                    refine zj_callV0 (as2 := []) X (k_X5_emptiesSet lo (d - 1) (zup (zup (zup (zup (msJ (zup J 50 4 0)) 51 4 u) 51 5 v) 51 6 w2) 51 7 z) G F hF) dX5_setMarket_102 mv_X5_emptiesSet ml_X5_72 (by first | rfl | assumption) rfl (by first | decide | omega) rfl rfl (by show d - 1 + 1 ≤ d; omega) (by show 19 + 2 + 35 * (d - 1) ≤ 35 * (d); omega) (Nat.le_of_ble_eq_true rfl) (Nat.le_of_ble_eq_true rfl) (Nat.le_of_ble_eq_true rfl) ?_
                    refine zG_iload X dX5_setMarket_105 rfl ?_
                    refine zG_iret X dX5_setMarket_107 rfl ?_
                    first
                      | exact zMR.yes (by first | exact if_neg (by omega) | exact (if_neg (by omega)).trans (if_neg (by omega))) (by simp [zup, upr, ms504]) (rfl) sameM_rf
                      | (exfalso; omega)
                  · exact absurd h_53 (by first | decide | omega)
              · rw [if_neg hz3]
                refine zj_if_eq X dX5_setMarket_42 (tgt := 49) (by decide) (by first | decide | omega) (fun h_42 => ?_) (fun h_42 => ?_)
                · refine zj_iconst X dX5_setMarket_49 ?_
                  refine zj_callV1 (as2 := [_]) X (k_X5_refused lo (d - 1) J G F (x := 2) (by decide)) dX5_setMarket_50 mv_X5_refused ml_X5_33 (by first | rfl | assumption) rfl (by first | decide | omega) rfl rfl (by show d - 1 + 1 ≤ d; omega) (by show 19 + 2 + 35 * (d - 1) ≤ 35 * (d); omega) (Nat.le_of_ble_eq_true rfl) (Nat.le_of_ble_eq_true rfl) (Nat.le_of_ble_eq_true rfl) ?_
                  refine zj_if_eq X dX5_setMarket_53 (tgt := 58) (by decide) (by first | decide | omega) (fun h_53 => ?_) (fun h_53 => ?_)
                  · exact absurd h_53 (by first | decide | omega)
                  · refine zj_iconst X dX5_setMarket_56 ?_
                    refine zG_iret X dX5_setMarket_57 rfl ?_
                    first
                      | exact zMR.no (if_pos (by omega)) (by decide)
                      | exact zMR.no ((if_neg (by omega)).trans (if_pos (by omega))) (by decide)
                      | (exfalso; omega)
                · exact absurd h_42 (by first | decide | omega)
          · rw [if_neg hw3]
            refine zj_if_eq X dX5_setMarket_32 (tgt := 49) (by decide) (by first | decide | omega) (fun h_32 => ?_) (fun h_32 => ?_)
            · refine zj_iconst X dX5_setMarket_49 ?_
              refine zj_callV1 (as2 := [_]) X (k_X5_refused lo (d - 1) J G F (x := 2) (by decide)) dX5_setMarket_50 mv_X5_refused ml_X5_33 (by first | rfl | assumption) rfl (by first | decide | omega) rfl rfl (by show d - 1 + 1 ≤ d; omega) (by show 19 + 2 + 35 * (d - 1) ≤ 35 * (d); omega) (Nat.le_of_ble_eq_true rfl) (Nat.le_of_ble_eq_true rfl) (Nat.le_of_ble_eq_true rfl) ?_
              refine zj_if_eq X dX5_setMarket_53 (tgt := 58) (by decide) (by first | decide | omega) (fun h_53 => ?_) (fun h_53 => ?_)
              · exact absurd h_53 (by first | decide | omega)
              · refine zj_iconst X dX5_setMarket_56 ?_
                refine zG_iret X dX5_setMarket_57 rfl ?_
                first
                  | exact zMR.no (if_pos (by omega)) (by decide)
                  | exact zMR.no ((if_neg (by omega)).trans (if_pos (by omega))) (by decide)
                  | (exfalso; omega)
            · exact absurd h_32 (by first | decide | omega)
      · rw [if_neg hv2]
        refine zj_if_eq X dX5_setMarket_21 (tgt := 49) (by decide) (by first | decide | omega) (fun h_21 => ?_) (fun h_21 => ?_)
        · refine zj_iconst X dX5_setMarket_49 ?_
          refine zj_callV1 (as2 := [_]) X (k_X5_refused lo (d - 1) J G F (x := 2) (by decide)) dX5_setMarket_50 mv_X5_refused ml_X5_33 (by first | rfl | assumption) rfl (by first | decide | omega) rfl rfl (by show d - 1 + 1 ≤ d; omega) (by show 19 + 2 + 35 * (d - 1) ≤ 35 * (d); omega) (Nat.le_of_ble_eq_true rfl) (Nat.le_of_ble_eq_true rfl) (Nat.le_of_ble_eq_true rfl) ?_
          refine zj_if_eq X dX5_setMarket_53 (tgt := 58) (by decide) (by first | decide | omega) (fun h_53 => ?_) (fun h_53 => ?_)
          · exact absurd h_53 (by first | decide | omega)
          · refine zj_iconst X dX5_setMarket_56 ?_
            refine zG_iret X dX5_setMarket_57 rfl ?_
            first
              | exact zMR.no (if_pos (by omega)) (by decide)
              | exact zMR.no ((if_neg (by omega)).trans (if_pos (by omega))) (by decide)
              | (exfalso; omega)
        · exact absurd h_21 (by first | decide | omega)
    · exact absurd h_6 (by first | decide | omega)
  · rw [if_neg hb]
    refine zj_if_ne X dX5_setMarket_6 (tgt := 13) (by decide) (by first | decide | omega) (fun h_6 => ?_) (fun h_6 => ?_)
    · exact absurd h_6 (by first | decide | omega)
    · refine zj_iconst X dX5_setMarket_9 ?_
      refine zG_goto X dX5_setMarket_10 (tgt := 50) (by decide) ?_
      refine zj_callV1 (as2 := [_]) X (k_X5_refused lo (d - 1) J G F (x := 1) (by decide)) dX5_setMarket_50 mv_X5_refused ml_X5_33 (by first | rfl | assumption) rfl (by first | decide | omega) rfl rfl (by show d - 1 + 1 ≤ d; omega) (by show 19 + 2 + 35 * (d - 1) ≤ 35 * (d); omega) (Nat.le_of_ble_eq_true rfl) (Nat.le_of_ble_eq_true rfl) (Nat.le_of_ble_eq_true rfl) ?_
      refine zj_if_eq X dX5_setMarket_53 (tgt := 58) (by decide) (by first | decide | omega) (fun h_53 => ?_) (fun h_53 => ?_)
      · exact absurd h_53 (by first | decide | omega)
      · refine zj_iconst X dX5_setMarket_56 ?_
        refine zG_iret X dX5_setMarket_57 rfl ?_
        first
          | exact zMR.no (if_pos (by omega)) (by decide)
          | exact zMR.no ((if_neg (by omega)).trans (if_pos (by omega))) (by decide)
          | (exfalso; omega)
set_option maxHeartbeats 4000000 in
set_option maxRecDepth 100000 in
theorem k_X5_setDay (lo d : Nat) (hd : 3 ≤ d) (J : Nat → Nat → Int) (G : Nat → Nat → Int64) (F : Nat → Nat → Option Nat) (hF : zFk F) (mo : mOk (J 51)) (t1 : 0 ≤ J 50 3) (t2 : J 50 3 ≤ 4) (mk1 : 0 ≤ J 51 4) (mk2 : J 51 4 < J 51 0 ∨ J 51 0 = 0 ∧ J 51 4 = 0) {u : Int} (hu : zr u) {f : Int} (hf : f = 0 ∨ f = 1) : zCt lo yX5_setDay cX5_setDay 3 (some .int) d 0 0 [.ref (lo + 50), .int (zI u), .int (zI f)] 57 57 (zM J) G F (zMR (if ¬ (0 < J 51 0 ∧ 0 ≤ u ∧ u < J 51 (13 + 7 * (J 51 4).toNat + 0)) then 1 else 0) (zsm (fun t => (zup (msJ (zup J 50 4 0)) 51 (48 + u.toNat) f) 51 (48 + t)) 60) J (zup (msJ (zup J 50 4 0)) 51 (48 + u.toNat) f) G F) := by
  refine zCt.mk (by decide) (mv_X5_setDay.2.2.2.1) (Nat.le_of_ble_eq_true rfl) ?_
  intro p l e s m args below meth c D cA X
  obtain ⟨⟨m0, m5⟩, mw⟩ := mo
  rcases hf with rfl | rfl
  · refine zG_aload_n X dX5_setDay_0 rfl ?_
    refine zG_aload_n X dX5_setDay_1 rfl ?_
    refine zG_getR X dX5_setDay_2 fl_X5_7 (by first | rfl | assumption) (by first | decide | omega) (by decide) rfl (by first | exact zF_at hF rfl rfl | assumption) ?_
    refine zj_iconst X dX5_setDay_5 ?_
    refine zj_iaload X dX5_setDay_6 (by first | rfl | assumption) (by first | decide | omega) (0) (by decide) (by decide) ?_
    refine zj_if_le X dX5_setDay_7 (tgt := 28) (by decide) (by first | decide | omega) (fun h_7 => ?_) (fun h_7 => ?_)
    · refine zj_iconst X dX5_setDay_28 ?_
      refine zj_callV1 (as2 := [_]) X (k_X5_refused lo (d - 1) J G F (x := 1) (by decide)) dX5_setDay_29 mv_X5_refused ml_X5_33 (by first | rfl | assumption) rfl (by first | decide | omega) rfl rfl (by show d - 1 + 1 ≤ d; omega) (by show 19 + 2 + 35 * (d - 1) ≤ 35 * (d); omega) (Nat.le_of_ble_eq_true rfl) (Nat.le_of_ble_eq_true rfl) (Nat.le_of_ble_eq_true rfl) ?_
      refine zj_if_eq X dX5_setDay_32 (tgt := 37) (by decide) (by first | decide | omega) (fun h_32 => ?_) (fun h_32 => ?_)
      · exact absurd h_32 (by first | decide | omega)
      · refine zj_iconst X dX5_setDay_35 ?_
        refine zG_iret X dX5_setDay_36 rfl ?_
        first
          | exact zMR.no (if_pos (by omega)) (by decide)
          | exact zMR.no ((if_neg (by omega)).trans (if_pos (by omega))) (by decide)
          | (exfalso; omega)
    · refine zG_aload_n X dX5_setDay_10 rfl ?_
      refine zG_aload_n X dX5_setDay_11 rfl ?_
      refine zG_getR X dX5_setDay_12 fl_X5_7 (by first | rfl | assumption) (by first | decide | omega) (by decide) rfl (by first | exact zF_at hF rfl rfl | assumption) ?_
      refine zj_iconst X dX5_setDay_15 ?_
      refine zj_iaload X dX5_setDay_16 (by first | rfl | assumption) (by first | decide | omega) (4) (by decide) (by decide) ?_
      refine zG_iload_n X dX5_setDay_17 rfl ?_
      refine zj_callV1 (as2 := [_, _]) X (k_X5_toothk lo (d - 1) (by omega) J G F hF (k := (J 51 4).toNat) (by omega) (by omega) (t := u) hu (mw (J 51 4).toNat (by omega)).1 (mw (J 51 4).toNat (by omega)).2.1) dX5_setDay_18 mv_X5_isToothOf ml_X5_64 (by first | rfl | assumption) rfl (by first | decide | omega) rfl rfl (by show d - 1 + 1 ≤ d; omega) (by show 19 + 3 + 35 * (d - 1) ≤ 35 * (d); omega) (Nat.le_of_ble_eq_true rfl) (Nat.le_of_ble_eq_true rfl) (Nat.le_of_ble_eq_true rfl) ?_
      by_cases hb : 0 ≤ u ∧ u < J 51 (13 + 7 * (J 51 4).toNat + 0)
      · rw [if_pos hb]
        have hmk := mw (J 51 4).toNat (by omega)
        refine zj_if_eq X dX5_setDay_21 (tgt := 28) (by decide) (by first | decide | omega) (fun h_21 => ?_) (fun h_21 => ?_)
        · exact absurd h_21 (by first | decide | omega)
        · refine zj_iconst X dX5_setDay_24 ?_
          refine zG_goto X dX5_setDay_25 (tgt := 29) (by decide) ?_
          refine zj_callV1 (as2 := [_]) X (k_X5_refused lo (d - 1) J G F (x := 0) (by decide)) dX5_setDay_29 mv_X5_refused ml_X5_33 (by first | rfl | assumption) rfl (by first | decide | omega) rfl rfl (by show d - 1 + 1 ≤ d; omega) (by show 19 + 2 + 35 * (d - 1) ≤ 35 * (d); omega) (Nat.le_of_ble_eq_true rfl) (Nat.le_of_ble_eq_true rfl) (Nat.le_of_ble_eq_true rfl) ?_
          refine zj_if_eq X dX5_setDay_32 (tgt := 37) (by decide) (by first | decide | omega) (fun h_32 => ?_) (fun h_32 => ?_)
          · refine zG_aload_n X dX5_setDay_37 rfl ?_
            refine zj_callV0 (as2 := []) X (k_X5_saves lo (d - 1) (zup J 50 4 0) G F hF (by rw [zup_ne (by decide)]; omega) (by rw [zup_ne (by decide)]; omega)) dX5_setDay_38 mv_X5_saves ml_X5_55 (by first | rfl | assumption) rfl (by first | decide | omega) rfl rfl (by show d - 1 + 1 ≤ d; omega) (by show 19 + 2 + 35 * (d - 1) ≤ 35 * (d); omega) (Nat.le_of_ble_eq_true rfl) (Nat.le_of_ble_eq_true rfl) (Nat.le_of_ble_eq_true rfl) ?_
            refine zG_aload_n X dX5_setDay_41 rfl ?_
            refine zG_getR X dX5_setDay_42 fl_X5_7 (by first | rfl | assumption) (by first | decide | omega) (by decide) rfl (by first | exact zF_at hF rfl rfl | assumption) ?_
            refine zj_bipush X dX5_setDay_45 (by decide) ?_
            refine zG_iload_n X dX5_setDay_47 rfl ?_
            refine zj_iadd X dX5_setDay_48 ?_
            refine zG_iload_n X dX5_setDay_49 rfl ?_
            refine zj_if_eq X dX5_setDay_50 (tgt := 57) (by decide) (by first | decide | omega) (fun h_50 => ?_) (fun h_50 => ?_)
            · refine zj_iconst X dX5_setDay_57 ?_
              refine zj_iastore X dX5_setDay_58 (by first | rfl | assumption) (by first | decide | omega) (48 + u.toNat) (by omega) (by omega) ?_
              refine zG_aload_n X dX5_setDay_59 rfl ?_
              refine zj_callV1 (as2 := []) X (k_X5_inSet lo (d - 1) (zup (msJ (zup J 50 4 0)) 51 (48 + u.toNat) 0) G F hF) dX5_setDay_60 mv_X5_inSet ml_X5_75 (by first | rfl | assumption) rfl (by first | decide | omega) rfl rfl (by show d - 1 + 1 ≤ d; omega) (by show 19 + 3 + 35 * (d - 1) ≤ 35 * (d); omega) (Nat.le_of_ble_eq_true rfl) (Nat.le_of_ble_eq_true rfl) (Nat.le_of_ble_eq_true rfl) ?_
              refine zG_iret X dX5_setDay_63 rfl ?_
              first
                | exact zMR.yes (by first | exact if_neg (by omega) | exact (if_neg (by omega)).trans (if_neg (by omega))) (by simp [zup, upr, ms504]) (rfl) sameM_rf
                | (exfalso; omega)
            · exact absurd h_50 (by first | decide | omega)
          · exact absurd h_32 (by first | decide | omega)
      · rw [if_neg hb]
        refine zj_if_eq X dX5_setDay_21 (tgt := 28) (by decide) (by first | decide | omega) (fun h_21 => ?_) (fun h_21 => ?_)
        · refine zj_iconst X dX5_setDay_28 ?_
          refine zj_callV1 (as2 := [_]) X (k_X5_refused lo (d - 1) J G F (x := 1) (by decide)) dX5_setDay_29 mv_X5_refused ml_X5_33 (by first | rfl | assumption) rfl (by first | decide | omega) rfl rfl (by show d - 1 + 1 ≤ d; omega) (by show 19 + 2 + 35 * (d - 1) ≤ 35 * (d); omega) (Nat.le_of_ble_eq_true rfl) (Nat.le_of_ble_eq_true rfl) (Nat.le_of_ble_eq_true rfl) ?_
          refine zj_if_eq X dX5_setDay_32 (tgt := 37) (by decide) (by first | decide | omega) (fun h_32 => ?_) (fun h_32 => ?_)
          · exact absurd h_32 (by first | decide | omega)
          · refine zj_iconst X dX5_setDay_35 ?_
            refine zG_iret X dX5_setDay_36 rfl ?_
            first
              | exact zMR.no (if_pos (by omega)) (by decide)
              | exact zMR.no ((if_neg (by omega)).trans (if_pos (by omega))) (by decide)
              | (exfalso; omega)
        · exact absurd h_21 (by first | decide | omega)
  · refine zG_aload_n X dX5_setDay_0 rfl ?_
    refine zG_aload_n X dX5_setDay_1 rfl ?_
    refine zG_getR X dX5_setDay_2 fl_X5_7 (by first | rfl | assumption) (by first | decide | omega) (by decide) rfl (by first | exact zF_at hF rfl rfl | assumption) ?_
    refine zj_iconst X dX5_setDay_5 ?_
    refine zj_iaload X dX5_setDay_6 (by first | rfl | assumption) (by first | decide | omega) (0) (by decide) (by decide) ?_
    refine zj_if_le X dX5_setDay_7 (tgt := 28) (by decide) (by first | decide | omega) (fun h_7 => ?_) (fun h_7 => ?_)
    · refine zj_iconst X dX5_setDay_28 ?_
      refine zj_callV1 (as2 := [_]) X (k_X5_refused lo (d - 1) J G F (x := 1) (by decide)) dX5_setDay_29 mv_X5_refused ml_X5_33 (by first | rfl | assumption) rfl (by first | decide | omega) rfl rfl (by show d - 1 + 1 ≤ d; omega) (by show 19 + 2 + 35 * (d - 1) ≤ 35 * (d); omega) (Nat.le_of_ble_eq_true rfl) (Nat.le_of_ble_eq_true rfl) (Nat.le_of_ble_eq_true rfl) ?_
      refine zj_if_eq X dX5_setDay_32 (tgt := 37) (by decide) (by first | decide | omega) (fun h_32 => ?_) (fun h_32 => ?_)
      · exact absurd h_32 (by first | decide | omega)
      · refine zj_iconst X dX5_setDay_35 ?_
        refine zG_iret X dX5_setDay_36 rfl ?_
        first
          | exact zMR.no (if_pos (by omega)) (by decide)
          | exact zMR.no ((if_neg (by omega)).trans (if_pos (by omega))) (by decide)
          | (exfalso; omega)
    · refine zG_aload_n X dX5_setDay_10 rfl ?_
      refine zG_aload_n X dX5_setDay_11 rfl ?_
      refine zG_getR X dX5_setDay_12 fl_X5_7 (by first | rfl | assumption) (by first | decide | omega) (by decide) rfl (by first | exact zF_at hF rfl rfl | assumption) ?_
      refine zj_iconst X dX5_setDay_15 ?_
      refine zj_iaload X dX5_setDay_16 (by first | rfl | assumption) (by first | decide | omega) (4) (by decide) (by decide) ?_
      refine zG_iload_n X dX5_setDay_17 rfl ?_
      refine zj_callV1 (as2 := [_, _]) X (k_X5_toothk lo (d - 1) (by omega) J G F hF (k := (J 51 4).toNat) (by omega) (by omega) (t := u) hu (mw (J 51 4).toNat (by omega)).1 (mw (J 51 4).toNat (by omega)).2.1) dX5_setDay_18 mv_X5_isToothOf ml_X5_64 (by first | rfl | assumption) rfl (by first | decide | omega) rfl rfl (by show d - 1 + 1 ≤ d; omega) (by show 19 + 3 + 35 * (d - 1) ≤ 35 * (d); omega) (Nat.le_of_ble_eq_true rfl) (Nat.le_of_ble_eq_true rfl) (Nat.le_of_ble_eq_true rfl) ?_
      by_cases hb : 0 ≤ u ∧ u < J 51 (13 + 7 * (J 51 4).toNat + 0)
      · rw [if_pos hb]
        have hmk := mw (J 51 4).toNat (by omega)
        refine zj_if_eq X dX5_setDay_21 (tgt := 28) (by decide) (by first | decide | omega) (fun h_21 => ?_) (fun h_21 => ?_)
        · exact absurd h_21 (by first | decide | omega)
        · refine zj_iconst X dX5_setDay_24 ?_
          refine zG_goto X dX5_setDay_25 (tgt := 29) (by decide) ?_
          refine zj_callV1 (as2 := [_]) X (k_X5_refused lo (d - 1) J G F (x := 0) (by decide)) dX5_setDay_29 mv_X5_refused ml_X5_33 (by first | rfl | assumption) rfl (by first | decide | omega) rfl rfl (by show d - 1 + 1 ≤ d; omega) (by show 19 + 2 + 35 * (d - 1) ≤ 35 * (d); omega) (Nat.le_of_ble_eq_true rfl) (Nat.le_of_ble_eq_true rfl) (Nat.le_of_ble_eq_true rfl) ?_
          refine zj_if_eq X dX5_setDay_32 (tgt := 37) (by decide) (by first | decide | omega) (fun h_32 => ?_) (fun h_32 => ?_)
          · refine zG_aload_n X dX5_setDay_37 rfl ?_
            refine zj_callV0 (as2 := []) X (k_X5_saves lo (d - 1) (zup J 50 4 0) G F hF (by rw [zup_ne (by decide)]; omega) (by rw [zup_ne (by decide)]; omega)) dX5_setDay_38 mv_X5_saves ml_X5_55 (by first | rfl | assumption) rfl (by first | decide | omega) rfl rfl (by show d - 1 + 1 ≤ d; omega) (by show 19 + 2 + 35 * (d - 1) ≤ 35 * (d); omega) (Nat.le_of_ble_eq_true rfl) (Nat.le_of_ble_eq_true rfl) (Nat.le_of_ble_eq_true rfl) ?_
            refine zG_aload_n X dX5_setDay_41 rfl ?_
            refine zG_getR X dX5_setDay_42 fl_X5_7 (by first | rfl | assumption) (by first | decide | omega) (by decide) rfl (by first | exact zF_at hF rfl rfl | assumption) ?_
            refine zj_bipush X dX5_setDay_45 (by decide) ?_
            refine zG_iload_n X dX5_setDay_47 rfl ?_
            refine zj_iadd X dX5_setDay_48 ?_
            refine zG_iload_n X dX5_setDay_49 rfl ?_
            refine zj_if_eq X dX5_setDay_50 (tgt := 57) (by decide) (by first | decide | omega) (fun h_50 => ?_) (fun h_50 => ?_)
            · exact absurd h_50 (by first | decide | omega)
            · refine zj_iconst X dX5_setDay_53 ?_
              refine zG_goto X dX5_setDay_54 (tgt := 58) (by decide) ?_
              refine zj_iastore X dX5_setDay_58 (by first | rfl | assumption) (by first | decide | omega) (48 + u.toNat) (by omega) (by omega) ?_
              refine zG_aload_n X dX5_setDay_59 rfl ?_
              refine zj_callV1 (as2 := []) X (k_X5_inSet lo (d - 1) (zup (msJ (zup J 50 4 0)) 51 (48 + u.toNat) 1) G F hF) dX5_setDay_60 mv_X5_inSet ml_X5_75 (by first | rfl | assumption) rfl (by first | decide | omega) rfl rfl (by show d - 1 + 1 ≤ d; omega) (by show 19 + 3 + 35 * (d - 1) ≤ 35 * (d); omega) (Nat.le_of_ble_eq_true rfl) (Nat.le_of_ble_eq_true rfl) (Nat.le_of_ble_eq_true rfl) ?_
              refine zG_iret X dX5_setDay_63 rfl ?_
              first
                | exact zMR.yes (by first | exact if_neg (by omega) | exact (if_neg (by omega)).trans (if_neg (by omega))) (by simp [zup, upr, ms504]) (rfl) sameM_rf
                | (exfalso; omega)
          · exact absurd h_32 (by first | decide | omega)
      · rw [if_neg hb]
        refine zj_if_eq X dX5_setDay_21 (tgt := 28) (by decide) (by first | decide | omega) (fun h_21 => ?_) (fun h_21 => ?_)
        · refine zj_iconst X dX5_setDay_28 ?_
          refine zj_callV1 (as2 := [_]) X (k_X5_refused lo (d - 1) J G F (x := 1) (by decide)) dX5_setDay_29 mv_X5_refused ml_X5_33 (by first | rfl | assumption) rfl (by first | decide | omega) rfl rfl (by show d - 1 + 1 ≤ d; omega) (by show 19 + 2 + 35 * (d - 1) ≤ 35 * (d); omega) (Nat.le_of_ble_eq_true rfl) (Nat.le_of_ble_eq_true rfl) (Nat.le_of_ble_eq_true rfl) ?_
          refine zj_if_eq X dX5_setDay_32 (tgt := 37) (by decide) (by first | decide | omega) (fun h_32 => ?_) (fun h_32 => ?_)
          · exact absurd h_32 (by first | decide | omega)
          · refine zj_iconst X dX5_setDay_35 ?_
            refine zG_iret X dX5_setDay_36 rfl ?_
            first
              | exact zMR.no (if_pos (by omega)) (by decide)
              | exact zMR.no ((if_neg (by omega)).trans (if_pos (by omega))) (by decide)
              | (exfalso; omega)
        · exact absurd h_21 (by first | decide | omega)
set_option maxHeartbeats 4000000 in
set_option maxRecDepth 100000 in
theorem k_X5_addWheel (lo d : Nat) (hd : 3 ≤ d) (J : Nat → Nat → Int) (G : Nat → Nat → Int64) (F : Nat → Nat → Option Nat) (hF : zFk F) (mo : mOk (J 51)) (t1 : 0 ≤ J 50 3) (t2 : J 50 3 ≤ 4) (d1 : 0 ≤ J 51 1) (d2 : J 51 1 ≤ 1000000) (p1 : 0 ≤ J 51 12) (p2 : J 51 12 ≤ 1000000) {u v : Int} (hu : zr u) (hv : zr v) : zCt lo yX5_addWheel cX5_addWheel 3 (some .int) d 0 0 [.ref (lo + 50), .int (zI u), .int (zI v)] 57 57 (zM J) G F (zMR (if ¬ (2 ≤ u ∧ u ≤ 60 ∧ 0 ≤ v ∧ v < u) then 1 else if J 51 0 = 5 then 2 else 0) (J 51 0) J (comJ (msJ (zup J 50 4 0)) (J 51 0).toNat u v) G F) := by
  refine zCt.mk (by decide) (mv_X5_addWheel.2.2.2.1) (Nat.le_of_ble_eq_true rfl) ?_
  intro p l e s m args below meth c D cA X
  obtain ⟨⟨m0, m5⟩, mw⟩ := mo
  refine zG_aload_n X dX5_addWheel_0 rfl ?_
  refine zG_iload_n X dX5_addWheel_1 rfl ?_
  refine zj_callS1 (as2 := [_]) X (k_X5_areTeeth lo (d - 1) (by omega) J G F (x := u) hu) dX5_addWheel_2 ms_X5_areTeeth ml_X5_52 rfl rfl (by show d - 1 + 1 ≤ d; omega) (by show 19 + 1 + 35 * (d - 1) ≤ 35 * (d); omega) (Nat.le_of_ble_eq_true rfl) (Nat.le_of_ble_eq_true rfl) (Nat.le_of_ble_eq_true rfl) ?_
  by_cases hb : 2 ≤ u ∧ u ≤ 60
  · rw [if_pos hb]
    refine zj_if_eq X dX5_addWheel_5 (tgt := 19) (by decide) (by first | decide | omega) (fun h_5 => ?_) (fun h_5 => ?_)
    · exact absurd h_5 (by first | decide | omega)
    · refine zG_iload_n X dX5_addWheel_8 rfl ?_
      refine zj_iconst X dX5_addWheel_9 ?_
      refine zG_iload_n X dX5_addWheel_10 rfl ?_
      refine zj_iconst X dX5_addWheel_11 ?_
      refine zj_isub X dX5_addWheel_12 ?_
      refine zj_callS1 (as2 := [_, _, _]) X (k_X5_in lo (d - 1) J G F (x := v) (a := 0) (b := u - 1) (by first | assumption | (unfold zr; omega)) (by first | decide | (unfold zr; omega)) (by first | decide | (unfold zr; omega))) dX5_addWheel_13 ms_X5_in ml_X5_41 rfl rfl (by show d - 1 + 1 ≤ d; omega) (by show 19 + 3 + 35 * (d - 1) ≤ 35 * (d); omega) (Nat.le_of_ble_eq_true rfl) (Nat.le_of_ble_eq_true rfl) (Nat.le_of_ble_eq_true rfl) ?_
      by_cases hv2 : 0 ≤ v ∧ v ≤ u - 1
      · rw [if_pos hv2]
        refine zj_if_ne X dX5_addWheel_16 (tgt := 23) (by decide) (by first | decide | omega) (fun h_16 => ?_) (fun h_16 => ?_)
        · refine zG_aload_n X dX5_addWheel_23 rfl ?_
          refine zG_getR X dX5_addWheel_24 fl_X5_7 (by first | rfl | assumption) (by first | decide | omega) (by decide) rfl (by first | exact zF_at hF rfl rfl | assumption) ?_
          refine zj_iconst X dX5_addWheel_27 ?_
          refine zj_iaload X dX5_addWheel_28 (by first | rfl | assumption) (by first | decide | omega) (0) (by decide) (by decide) ?_
          refine zj_iconst X dX5_addWheel_29 ?_
          refine zj_icmp_ne X dX5_addWheel_30 (tgt := 37) (by decide) (by first | decide | omega) (by first | decide | omega) (fun h_30 => ?_) (fun h_30 => ?_)
          · refine zj_iconst X dX5_addWheel_37 ?_
            refine zj_callV1 (as2 := [_]) X (k_X5_refused lo (d - 1) J G F (x := 0) (by decide)) dX5_addWheel_38 mv_X5_refused ml_X5_33 (by first | rfl | assumption) rfl (by first | decide | omega) rfl rfl (by show d - 1 + 1 ≤ d; omega) (by show 19 + 2 + 35 * (d - 1) ≤ 35 * (d); omega) (Nat.le_of_ble_eq_true rfl) (Nat.le_of_ble_eq_true rfl) (Nat.le_of_ble_eq_true rfl) ?_
            refine zj_if_eq X dX5_addWheel_41 (tgt := 46) (by decide) (by first | decide | omega) (fun h_41 => ?_) (fun h_41 => ?_)
            · refine zG_aload_n X dX5_addWheel_46 rfl ?_
              refine zj_callV0 (as2 := []) X (k_X5_saves lo (d - 1) (zup J 50 4 0) G F hF (by rw [zup_ne (by decide)]; omega) (by rw [zup_ne (by decide)]; omega)) dX5_addWheel_47 mv_X5_saves ml_X5_55 (by first | rfl | assumption) rfl (by first | decide | omega) rfl rfl (by show d - 1 + 1 ≤ d; omega) (by show 19 + 2 + 35 * (d - 1) ≤ 35 * (d); omega) (Nat.le_of_ble_eq_true rfl) (Nat.le_of_ble_eq_true rfl) (Nat.le_of_ble_eq_true rfl) ?_
              refine zG_aload_n X dX5_addWheel_50 rfl ?_
              refine zG_iload_n X dX5_addWheel_51 rfl ?_
              refine zG_iload_n X dX5_addWheel_52 rfl ?_
              refine zj_callV1 (as2 := [_, _]) X (k_X5_comes lo (d - 1) (by omega) (msJ (zup J 50 4 0)) G F hF (k := (J 51 0).toNat) (by omega) (by rw [ms51]; omega) (u := u) (v := v) (by omega) hu (by omega) (by omega) (by rw [ms51]; exact d1) (by rw [ms51]; exact d2) (by rw [ms51]; exact p1) (by rw [ms51]; exact p2)) dX5_addWheel_53 mv_X5_comes ml_X5_58 (by first | rfl | assumption) rfl (by first | decide | omega) rfl rfl (by show d - 1 + 1 ≤ d; omega) (by show 19 + 4 + 35 * (d - 1) ≤ 35 * (d); omega) (Nat.le_of_ble_eq_true rfl) (Nat.le_of_ble_eq_true rfl) (Nat.le_of_ble_eq_true rfl) ?_
              refine zG_iret X dX5_addWheel_56 rfl ?_
              first
                | exact zMR.yes (by first | exact if_neg (by omega) | exact (if_neg (by omega)).trans (if_neg (by omega))) (by simp [comJ, zup, upr, ms504]) (by omega) sameM_rf
                | (exfalso; omega)
            · exact absurd h_41 (by first | decide | omega)
          · refine zj_iconst X dX5_addWheel_33 ?_
            refine zG_goto X dX5_addWheel_34 (tgt := 38) (by decide) ?_
            refine zj_callV1 (as2 := [_]) X (k_X5_refused lo (d - 1) J G F (x := 2) (by decide)) dX5_addWheel_38 mv_X5_refused ml_X5_33 (by first | rfl | assumption) rfl (by first | decide | omega) rfl rfl (by show d - 1 + 1 ≤ d; omega) (by show 19 + 2 + 35 * (d - 1) ≤ 35 * (d); omega) (Nat.le_of_ble_eq_true rfl) (Nat.le_of_ble_eq_true rfl) (Nat.le_of_ble_eq_true rfl) ?_
            refine zj_if_eq X dX5_addWheel_41 (tgt := 46) (by decide) (by first | decide | omega) (fun h_41 => ?_) (fun h_41 => ?_)
            · exact absurd h_41 (by first | decide | omega)
            · refine zj_iconst X dX5_addWheel_44 ?_
              refine zG_iret X dX5_addWheel_45 rfl ?_
              first
                | exact zMR.no (if_pos (by omega)) (by decide)
                | exact zMR.no ((if_neg (by omega)).trans (if_pos (by omega))) (by decide)
                | (exfalso; omega)
        · exact absurd h_16 (by first | decide | omega)
      · rw [if_neg hv2]
        refine zj_if_ne X dX5_addWheel_16 (tgt := 23) (by decide) (by first | decide | omega) (fun h_16 => ?_) (fun h_16 => ?_)
        · exact absurd h_16 (by first | decide | omega)
        · refine zj_iconst X dX5_addWheel_19 ?_
          refine zG_goto X dX5_addWheel_20 (tgt := 38) (by decide) ?_
          refine zj_callV1 (as2 := [_]) X (k_X5_refused lo (d - 1) J G F (x := 1) (by decide)) dX5_addWheel_38 mv_X5_refused ml_X5_33 (by first | rfl | assumption) rfl (by first | decide | omega) rfl rfl (by show d - 1 + 1 ≤ d; omega) (by show 19 + 2 + 35 * (d - 1) ≤ 35 * (d); omega) (Nat.le_of_ble_eq_true rfl) (Nat.le_of_ble_eq_true rfl) (Nat.le_of_ble_eq_true rfl) ?_
          refine zj_if_eq X dX5_addWheel_41 (tgt := 46) (by decide) (by first | decide | omega) (fun h_41 => ?_) (fun h_41 => ?_)
          · exact absurd h_41 (by first | decide | omega)
          · refine zj_iconst X dX5_addWheel_44 ?_
            refine zG_iret X dX5_addWheel_45 rfl ?_
            first
              | exact zMR.no (if_pos (by omega)) (by decide)
              | exact zMR.no ((if_neg (by omega)).trans (if_pos (by omega))) (by decide)
              | (exfalso; omega)
  · rw [if_neg hb]
    refine zj_if_eq X dX5_addWheel_5 (tgt := 19) (by decide) (by first | decide | omega) (fun h_5 => ?_) (fun h_5 => ?_)
    · refine zj_iconst X dX5_addWheel_19 ?_
      refine zG_goto X dX5_addWheel_20 (tgt := 38) (by decide) ?_
      refine zj_callV1 (as2 := [_]) X (k_X5_refused lo (d - 1) J G F (x := 1) (by decide)) dX5_addWheel_38 mv_X5_refused ml_X5_33 (by first | rfl | assumption) rfl (by first | decide | omega) rfl rfl (by show d - 1 + 1 ≤ d; omega) (by show 19 + 2 + 35 * (d - 1) ≤ 35 * (d); omega) (Nat.le_of_ble_eq_true rfl) (Nat.le_of_ble_eq_true rfl) (Nat.le_of_ble_eq_true rfl) ?_
      refine zj_if_eq X dX5_addWheel_41 (tgt := 46) (by decide) (by first | decide | omega) (fun h_41 => ?_) (fun h_41 => ?_)
      · exact absurd h_41 (by first | decide | omega)
      · refine zj_iconst X dX5_addWheel_44 ?_
        refine zG_iret X dX5_addWheel_45 rfl ?_
        first
          | exact zMR.no (if_pos (by omega)) (by decide)
          | exact zMR.no ((if_neg (by omega)).trans (if_pos (by omega))) (by decide)
          | (exfalso; omega)
    · exact absurd h_5 (by first | decide | omega)
set_option maxHeartbeats 4000000 in
set_option maxRecDepth 100000 in
theorem k_X5_append (lo d : Nat) (hd : 3 ≤ d) (J : Nat → Nat → Int) (G : Nat → Nat → Int64) (F : Nat → Nat → Option Nat) (hF : zFk F) (t1 : 0 ≤ J 50 6) (t2 : J 50 6 ≤ 90) {u : Int} (hu : zr u) : zCt lo yX5_append cX5_append 2 (some .int) d 0 0 [.ref (lo + 50), .int (zI u)] 57 57 (zM J) G F (zMR (if u < 0 ∨ 127 < u then 1 else if 90 ≤ J 50 6 then 2 else 0) (J 50 6 + 1) J (zup (zup (zup J 50 4 0) 54 (J 50 6).toNat u) 50 6 (J 50 6 + 1)) G F) := by
  refine zCt.mk (by decide) (mv_X5_append.2.2.2.1) (Nat.le_of_ble_eq_true rfl) ?_
  intro p l e s m args below meth c D cA X
  refine zG_aload_n X dX5_append_0 rfl ?_
  refine zG_iload_n X dX5_append_1 rfl ?_
  refine zj_iconst X dX5_append_2 ?_
  refine zj_bipush X dX5_append_3 (by decide) ?_
  refine zj_callS1 (as2 := [_, _, _]) X (k_X5_in lo (d - 1) J G F (x := u) (a := 0) (b := 127) (by first | assumption | (unfold zr; omega)) (by first | decide | (unfold zr; omega)) (by first | decide | (unfold zr; omega))) dX5_append_5 ms_X5_in ml_X5_41 rfl rfl (by show d - 1 + 1 ≤ d; omega) (by show 19 + 3 + 35 * (d - 1) ≤ 35 * (d); omega) (Nat.le_of_ble_eq_true rfl) (Nat.le_of_ble_eq_true rfl) (Nat.le_of_ble_eq_true rfl) ?_
  by_cases hb : 0 ≤ u ∧ u ≤ 127
  · rw [if_pos hb]
    refine zj_if_ne X dX5_append_8 (tgt := 15) (by decide) (by first | decide | omega) (fun h_8 => ?_) (fun h_8 => ?_)
    · refine zG_aload_n X dX5_append_15 rfl ?_
      refine zj_get X dX5_append_16 fl_X5_142 (by first | rfl | assumption) (by first | decide | omega) (by decide) rfl ?_
      refine zj_bipush X dX5_append_19 (by decide) ?_
      refine zj_icmp_ne X dX5_append_21 (tgt := 28) (by decide) (by first | decide | omega) (by first | decide | omega) (fun h_21 => ?_) (fun h_21 => ?_)
      · refine zj_iconst X dX5_append_28 ?_
        refine zj_callV1 (as2 := [_]) X (k_X5_refused lo (d - 1) J G F (x := 0) (by decide)) dX5_append_29 mv_X5_refused ml_X5_33 (by first | rfl | assumption) rfl (by first | decide | omega) rfl rfl (by show d - 1 + 1 ≤ d; omega) (by show 19 + 2 + 35 * (d - 1) ≤ 35 * (d); omega) (Nat.le_of_ble_eq_true rfl) (Nat.le_of_ble_eq_true rfl) (Nat.le_of_ble_eq_true rfl) ?_
        refine zj_if_eq X dX5_append_32 (tgt := 37) (by decide) (by first | decide | omega) (fun h_32 => ?_) (fun h_32 => ?_)
        · refine zG_aload_n X dX5_append_37 rfl ?_
          refine zG_getR X dX5_append_38 fl_X5_19 (by first | rfl | assumption) (by first | decide | omega) (by decide) rfl (by first | exact zF_at hF rfl rfl | assumption) ?_
          refine zG_aload_n X dX5_append_41 rfl ?_
          refine zj_getv (v := J 50 6) X dX5_append_42 fl_X5_142 (by first | rfl | assumption) (by first | decide | omega) (by decide) rfl (by exact zup_ne (by decide)) ?_
          refine zG_iload_n X dX5_append_45 rfl ?_
          refine zj_iastore X dX5_append_46 (by first | rfl | assumption) (by first | decide | omega) ((J 50 6).toNat) (by omega) (by omega) ?_
          refine zG_aload_n X dX5_append_47 rfl ?_
          refine zG_dup X dX5_append_48 rfl ?_
          refine zj_getv (v := J 50 6) X dX5_append_49 fl_X5_142 (by first | rfl | assumption) (by first | decide | omega) (by decide) rfl (by exact (zup_ne (by omega)).trans (zup_ne (by decide))) ?_
          refine zj_iconst X dX5_append_52 ?_
          refine zj_iadd X dX5_append_53 ?_
          refine zj_put X dX5_append_54 fl_X5_142 (by first | rfl | assumption) (by first | decide | omega) (by decide) rfl rfl ?_
          refine zG_aload_n X dX5_append_57 rfl ?_
          refine zj_getv (v := J 50 6 + 1) X dX5_append_58 fl_X5_142 (by first | rfl | assumption) (by first | decide | omega) (by decide) rfl (by exact zup_eq) ?_
          refine zG_iret X dX5_append_61 rfl ?_
          first
            | exact zMR.yes (by first | exact if_neg (by omega) | exact (if_neg (by omega)).trans (if_neg (by omega))) (by simp [zup, upr, ms504]) (rfl) sameM_rf
            | (exfalso; omega)
        · exact absurd h_32 (by first | decide | omega)
      · refine zj_iconst X dX5_append_24 ?_
        refine zG_goto X dX5_append_25 (tgt := 29) (by decide) ?_
        refine zj_callV1 (as2 := [_]) X (k_X5_refused lo (d - 1) J G F (x := 2) (by decide)) dX5_append_29 mv_X5_refused ml_X5_33 (by first | rfl | assumption) rfl (by first | decide | omega) rfl rfl (by show d - 1 + 1 ≤ d; omega) (by show 19 + 2 + 35 * (d - 1) ≤ 35 * (d); omega) (Nat.le_of_ble_eq_true rfl) (Nat.le_of_ble_eq_true rfl) (Nat.le_of_ble_eq_true rfl) ?_
        refine zj_if_eq X dX5_append_32 (tgt := 37) (by decide) (by first | decide | omega) (fun h_32 => ?_) (fun h_32 => ?_)
        · exact absurd h_32 (by first | decide | omega)
        · refine zj_iconst X dX5_append_35 ?_
          refine zG_iret X dX5_append_36 rfl ?_
          first
            | exact zMR.no (if_pos (by omega)) (by decide)
            | exact zMR.no ((if_neg (by omega)).trans (if_pos (by omega))) (by decide)
            | (exfalso; omega)
    · exact absurd h_8 (by first | decide | omega)
  · rw [if_neg hb]
    refine zj_if_ne X dX5_append_8 (tgt := 15) (by decide) (by first | decide | omega) (fun h_8 => ?_) (fun h_8 => ?_)
    · exact absurd h_8 (by first | decide | omega)
    · refine zj_iconst X dX5_append_11 ?_
      refine zG_goto X dX5_append_12 (tgt := 29) (by decide) ?_
      refine zj_callV1 (as2 := [_]) X (k_X5_refused lo (d - 1) J G F (x := 1) (by decide)) dX5_append_29 mv_X5_refused ml_X5_33 (by first | rfl | assumption) rfl (by first | decide | omega) rfl rfl (by show d - 1 + 1 ≤ d; omega) (by show 19 + 2 + 35 * (d - 1) ≤ 35 * (d); omega) (Nat.le_of_ble_eq_true rfl) (Nat.le_of_ble_eq_true rfl) (Nat.le_of_ble_eq_true rfl) ?_
      refine zj_if_eq X dX5_append_32 (tgt := 37) (by decide) (by first | decide | omega) (fun h_32 => ?_) (fun h_32 => ?_)
      · exact absurd h_32 (by first | decide | omega)
      · refine zj_iconst X dX5_append_35 ?_
        refine zG_iret X dX5_append_36 rfl ?_
        first
          | exact zMR.no (if_pos (by omega)) (by decide)
          | exact zMR.no ((if_neg (by omega)).trans (if_pos (by omega))) (by decide)
          | (exfalso; omega)
set_option maxHeartbeats 4000000 in
set_option maxRecDepth 100000 in
theorem k_X5_clearText (lo d : Nat) (J : Nat → Nat → Int) (G : Nat → Nat → Int64) (F : Nat → Nat → Option Nat) : zCt lo yX5_clearText cX5_clearText 2 (some .int) d 0 0 [.ref (lo + 50)] 57 57 (zM J) G F (zMR 0 (J 50 6) J (zup (zup J 50 4 0) 50 6 0) G F) := by
  refine zCt.mk (by decide) (mv_X5_clearText.2.2.2.1) (Nat.le_of_ble_eq_true rfl) ?_
  intro p l e s m args below meth c D cA X
  refine zG_aload_n X dX5_clearText_0 rfl ?_
  refine zj_iconst X dX5_clearText_1 ?_
  refine zj_put X dX5_clearText_2 fl_X5_26 (by first | rfl | assumption) (by first | decide | omega) (by decide) rfl rfl ?_
  refine zG_aload_n X dX5_clearText_5 rfl ?_
  refine zj_getv (v := J 50 6) X dX5_clearText_6 fl_X5_142 (by first | rfl | assumption) (by first | decide | omega) (by decide) rfl (by exact zup_ne (by decide)) ?_
  refine zG_istore_n X dX5_clearText_9 (by decide) rfl ?_
  refine zG_aload_n X dX5_clearText_10 rfl ?_
  refine zj_iconst X dX5_clearText_11 ?_
  refine zj_put X dX5_clearText_12 fl_X5_142 (by first | rfl | assumption) (by first | decide | omega) (by decide) rfl rfl ?_
  refine zG_iload_n X dX5_clearText_15 rfl ?_
  refine zG_iret X dX5_clearText_16 rfl ?_
  exact zMR.yes rfl (by simp [zup]) rfl sameM_rf
set_option maxHeartbeats 4000000 in
set_option maxRecDepth 100000 in
theorem k_X5_print (lo d : Nat) (hd : 3 ≤ d) (J : Nat → Nat → Int) (G : Nat → Nat → Int64) (F : Nat → Nat → Option Nat) (hF : zFk F) (mo : mOk (J 51)) (t1 : 0 ≤ J 50 3) (t2 : J 50 3 ≤ 4) : zCt lo yX5_print cX5_print 1 (some .int) d 0 0 [.ref (lo + 50)] 57 57 (zM J) G F (zMR 0 (J 51 12) J (prM (msJ (zup J 50 4 0))) G F) := by
  refine zCt.mk (by decide) (mv_X5_print.2.2.2.1) (Nat.le_of_ble_eq_true rfl) ?_
  intro p l e s m args below meth c D cA X
  obtain ⟨⟨m0, m5⟩, mw⟩ := mo
  refine zG_aload_n X dX5_print_0 rfl ?_
  refine zj_iconst X dX5_print_1 ?_
  refine zj_put X dX5_print_2 fl_X5_26 (by first | rfl | assumption) (by first | decide | omega) (by decide) rfl rfl ?_
  refine zG_aload_n X dX5_print_5 rfl ?_
  refine zj_callV0 (as2 := []) X (k_X5_saves lo (d - 1) (zup J 50 4 0) G F hF (by rw [zup_ne (by decide)]; omega) (by rw [zup_ne (by decide)]; omega)) dX5_print_6 mv_X5_saves ml_X5_55 (by first | rfl | assumption) rfl (by first | decide | omega) rfl rfl (by show d - 1 + 1 ≤ d; omega) (by show 19 + 2 + 35 * (d - 1) ≤ 35 * (d); omega) (Nat.le_of_ble_eq_true rfl) (Nat.le_of_ble_eq_true rfl) (Nat.le_of_ble_eq_true rfl) ?_
  refine zG_aload_n X dX5_print_9 rfl ?_
  refine zj_callV1 (as2 := []) X (k_X5_prints lo (d - 1) (by omega) (msJ (zup J 50 4 0)) G F hF (by rw [ms51]; omega) (by rw [ms51]; omega)) dX5_print_10 mv_X5_prints ml_X5_99 (by first | rfl | assumption) rfl (by first | decide | omega) rfl rfl (by show d - 1 + 1 ≤ d; omega) (by show 19 + 3 + 35 * (d - 1) ≤ 35 * (d); omega) (Nat.le_of_ble_eq_true rfl) (Nat.le_of_ble_eq_true rfl) (Nat.le_of_ble_eq_true rfl) ?_
  refine zG_iret X dX5_print_13 rfl ?_
  exact zMR.yes rfl (by simp [prM, upr, ms504]) ms51 sameM_rf
