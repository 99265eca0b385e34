/-! a wheel read, all wheels read -/
def mkJ (J : Nat → Nat → Int) (a : Nat) (u v : Int) : Nat → Nat → Int := zup (zup (zup (zup (zup (zup J a 0 u) a 1 v) a 2 0) a 3 (-1)) a 4 (-1)) a 5 0
theorem rdOk_mk {J : Nat → Nat → Int} {F : Nat → Nat → Option Nat} {a : Nat} {u v : Int} (h : rdOk J F) (h1 : a ≠ 41) (h2 : a ≠ 49) : rdOk (mkJ J a u v) F := rdOk_up (rdOk_up (rdOk_up (rdOk_up (rdOk_up (rdOk_up h h1 h2) h1 h2) h1 h2) h1 h2) h1 h2) h1 h2
theorem rdOk_sk {J : Nat → Nat → Int} {F : Nat → Nat → Option Nat} {k : Nat} (h : rdOk J F) (hk : k < 5) : rdOk (rskJ J k) F := by
  unfold rskJ
  exact rdOk_up (rdOk_up (rdOk_up (rdOk_S (rdOk_nu (rdOk_S (rdOk_dr h)))) (by omega) (by omega)) (by omega) (by omega)) (by omega) (by omega)
theorem rskJ_o {J : Nat → Nat → Int} {k x i : Nat} (h : x ≠ 41) (h2 : x ≠ 43 + k ∨ i < 3 ∨ 5 < i) : rskJ J k x i = J x i := by
  unfold rskJ
  rw [zup_ne (by omega), zup_ne (by omega), zup_ne (by omega), rdS_o h, nuJ_o h, rdS_o h, drJ_o h]
theorem mkJ_o {J : Nat → Nat → Int} {a x i : Nat} {u v : Int} (h : x ≠ a) : mkJ J a u v x i = J x i := zup6_ot h
theorem mkJ_0 {J : Nat → Nat → Int} {a : Nat} {u v : Int} : mkJ J a u v a 0 = u := by simp [mkJ, zup]
def rwhN (J : Nat → Nat → Int) (k : Nat) : Nat → Nat → Int := mkJ (nuJ (rdS (nuJ J 2 60) 44) 0 (nuR J - 1)) (43 + k) (nuR J) (nuR (rdS (nuJ J 2 60) 44))
def rwhK (J : Nat → Nat → Int) (k : Nat) : Nat → Nat → Int := if isNx (rwhN J k) 64 then rskJ (rdS (rwhN J k) 64) k else rwhN J k
def rwhJ (J : Nat → Nat → Int) (k : Nat) : Nat → Nat → Int := rdS (rwhK J k) 59
theorem rwhN_ok {J : Nat → Nat → Int} {F : Nat → Nat → Option Nat} {k : Nat} (h : rdOk J F) (hk : k < 5) (hw : rwOk J) : rdOk (rwhN J k) F ∧ rwOk (rwhN J k) := by
  refine ⟨rdOk_mk (rdOk_nu (rdOk_S (rdOk_nu h))) (by omega) (by omega), fun j hj => ?_⟩
  unfold rwhN
  by_cases q : j = k
  · subst q
    rw [mkJ_0]
    exact (nu_at h).2
  · rw [mkJ_o (by omega), nuJ_o (by omega), rdS_o (by omega), nuJ_o (by omega)]
    exact hw j hj
theorem rwhK_ok {J : Nat → Nat → Int} {F : Nat → Nat → Option Nat} {k : Nat} (h : rdOk J F) (hk : k < 5) (hw : rwOk J) : rdOk (rwhK J k) F ∧ rwOk (rwhK J k) := by
  have hn := rwhN_ok h hk hw
  unfold rwhK
  split
  · refine ⟨rdOk_sk (rdOk_S hn.1) hk, fun j hj => ?_⟩
    rw [rskJ_o (by omega) (Or.inr (Or.inl (by decide))), rdS_o (by omega)]
    exact hn.2 j hj
  · exact hn
theorem rwhJ_ok {J : Nat → Nat → Int} {F : Nat → Nat → Option Nat} {k : Nat} (h : rdOk J F) (hk : k < 5) (hw : rwOk J) : rdOk (rwhJ J k) F ∧ rwOk (rwhJ J k) := by
  have hn := rwhK_ok h hk hw
  refine ⟨rdOk_S hn.1, fun j hj => ?_⟩
  unfold rwhJ
  rw [rdS_o (by omega)]
  exact hn.2 j hj
theorem rwhJ_o {J : Nat → Nat → Int} {k x i : Nat} (h : x ≠ 41) (h2 : x ≠ 43 + k) : rwhJ J k x i = J x i := by
  unfold rwhJ rwhK
  rw [rdS_o h]
  split
  · rw [rskJ_o h (Or.inl h2), rdS_o h]
    unfold rwhN
    rw [mkJ_o h2, nuJ_o h, rdS_o h, nuJ_o h]
  · unfold rwhN
    rw [mkJ_o h2, nuJ_o h, rdS_o h, nuJ_o h]
set_option maxHeartbeats 4000000 in
set_option maxRecDepth 100000 in
theorem k_X1_readWheel (lo d : Nat) (hd : 4 ≤ d) (J : Nat → Nat → Int) (G : Nat → Nat → Int64) (F : Nat → Nat → Option Nat) (hF : zFk F) (hr : rdOk J F) (hrw : rwOk J) {k : Nat} (hk : k < 5) : zCt lo yX1_readWheel cX1_readWheel 5 none d 0 0 [.ref (lo + 41), .ref (lo + (43 + k)), .int (zI (k : Int))] 57 57 (zM J) G F (zD [] (rwhJ J k) G F) := by
  refine zCt.mk (by decide) (mv_X1_readWheel.2.2.2.1) (Nat.le_of_ble_eq_true rfl) ?_
  intro p l e s m args below meth c D cA X
  have hn9 := (nu_at hr).2
  have r1 := rdOk_nu (a := 2) (b := 60) hr
  have r2 := rdOk_S (u := 44) r1
  have hn := rwhN_ok hr hk hrw
  have hkk := rwhK_ok hr hk hrw
  have hns : rwOk (rdS (rwhN J k) 64) := fun j hj => by rw [rdS_o (by omega)]; exact hn.2 j hj
  have hsk := zSh_rw hk
  have hnk : 43 + k < 57 := by omega
  refine zG_aload_n X dX1_readWheel_0 rfl ?_
  refine zj_iconst X dX1_readWheel_1 ?_
  refine zj_bipush X dX1_readWheel_2 (by decide) ?_
  refine zj_callV1 (as2 := [_, _]) X (k_X1_readNumber lo (d - 1) (by omega) J G F hF hr (u := 2) (v := 60) (by decide) (by decide)) dX1_readWheel_4 mv_X1_readNumber ml_X1_50 (by first | rfl | assumption) rfl (by first | decide | omega) rfl rfl (by show d - 1 + 1 ≤ d; omega) (by show 19 + 6 + 35 * (d - 1) ≤ 35 * (d); omega) (Nat.le_of_ble_eq_true rfl) (Nat.le_of_ble_eq_true rfl) (Nat.le_of_ble_eq_true rfl) ?_
  refine zG_istore_n X dX1_readWheel_7 (by decide) rfl ?_
  refine zG_aload_n X dX1_readWheel_8 rfl ?_
  refine zj_bipush X dX1_readWheel_9 (by decide) ?_
  refine zj_callV0 (as2 := [_]) X (k_X1_readSign lo (d - 1) (by omega) _ G F hF r1 (u := 44) (by decide) (by decide)) dX1_readWheel_11 mv_X1_readSign ml_X1_53 (by first | rfl | assumption) rfl (by first | decide | omega) rfl rfl (by show d - 1 + 1 ≤ d; omega) (by show 19 + 2 + 35 * (d - 1) ≤ 35 * (d); omega) (Nat.le_of_ble_eq_true rfl) (Nat.le_of_ble_eq_true rfl) (Nat.le_of_ble_eq_true rfl) ?_
  refine zG_aload_n X dX1_readWheel_14 rfl ?_
  refine zj_iconst X dX1_readWheel_15 ?_
  refine zG_iload_n X dX1_readWheel_16 rfl ?_
  refine zj_iconst X dX1_readWheel_17 ?_
  refine zj_isub X dX1_readWheel_18 ?_
  refine zj_callV1 (as2 := [_, _]) X (k_X1_readNumber lo (d - 1) (by omega) _ G F hF r2 (u := 0) (v := nuR J - 1) (by decide) (by unfold zr; omega)) dX1_readWheel_19 mv_X1_readNumber ml_X1_50 (by first | rfl | assumption) rfl (by first | decide | omega) rfl rfl (by show d - 1 + 1 ≤ d; omega) (by show 19 + 6 + 35 * (d - 1) ≤ 35 * (d); omega) (Nat.le_of_ble_eq_true rfl) (Nat.le_of_ble_eq_true rfl) (Nat.le_of_ble_eq_true rfl) ?_
  refine zG_istore X dX1_readWheel_22 (by decide) rfl ?_
  refine zG_aload_n X dX1_readWheel_24 rfl ?_
  refine zG_iload_n X dX1_readWheel_25 rfl ?_
  refine zG_iload X dX1_readWheel_26 rfl ?_
  refine zj_callV0 (as2 := [_, _]) X (k_X3_make lo (d - 1) (by omega) _ G F hsk hnk (u := nuR J) (v := nuR (rdS (nuJ J 2 60) 44))) dX1_readWheel_28 mv_X3_make ml_X1_57 (by first | rfl | assumption) rfl (by first | decide | omega) rfl rfl (by show d - 1 + 1 ≤ d; omega) (by show 19 + 3 + 35 * (d - 1) ≤ 35 * (d); omega) (Nat.le_of_ble_eq_true rfl) (Nat.le_of_ble_eq_true rfl) (Nat.le_of_ble_eq_true rfl) ?_
  rw [show (zup (zup (zup (zup (zup (zup (nuJ (rdS (nuJ J 2 60) 44) 0 (nuR J - 1)) (43 + k) 0 (nuR J)) (43 + k) 1 (nuR (rdS (nuJ J 2 60) 44))) (43 + k) 2 0) (43 + k) 3 (-1)) (43 + k) 4 (-1)) (43 + k) 5 0) = rwhN J k from rfl]
  refine zG_aload_n X dX1_readWheel_31 rfl ?_
  refine zj_bipush X dX1_readWheel_32 (by decide) ?_
  refine zj_callV1 (as2 := [_]) X (k_X1_isNext lo (d - 1) _ G F hF hn.1 (u := 64) (by decide)) dX1_readWheel_34 mv_X1_isNext ml_X1_63 (by first | rfl | assumption) rfl (by first | decide | omega) rfl rfl (by show d - 1 + 1 ≤ d; omega) (by show 19 + 2 + 35 * (d - 1) ≤ 35 * (d); omega) (Nat.le_of_ble_eq_true rfl) (Nat.le_of_ble_eq_true rfl) (Nat.le_of_ble_eq_true rfl) ?_
  by_cases hb : isNx (rwhN J k) 64
  · rw [if_pos hb]
    have hK : rwhK J k = rskJ (rdS (rwhN J k) 64) k := if_pos hb
    refine zj_if_eq X dX1_readWheel_37 (tgt := 52) (by decide) (by first | decide | omega) (fun h_37 => ?_) (fun h_37 => ?_)
    · exact absurd h_37 (by first | decide | omega)
    · refine zG_aload_n X dX1_readWheel_40 rfl ?_
      refine zj_bipush X dX1_readWheel_41 (by decide) ?_
      refine zj_callV0 (as2 := [_]) X (k_X1_readSign lo (d - 1) (by omega) _ G F hF hn.1 (u := 64) (by decide) (by decide)) dX1_readWheel_43 mv_X1_readSign ml_X1_53 (by first | rfl | assumption) rfl (by first | decide | omega) rfl rfl (by show d - 1 + 1 ≤ d; omega) (by show 19 + 2 + 35 * (d - 1) ≤ 35 * (d); omega) (Nat.le_of_ble_eq_true rfl) (Nat.le_of_ble_eq_true rfl) (Nat.le_of_ble_eq_true rfl) ?_
      refine zG_aload_n X dX1_readWheel_46 rfl ?_
      refine zG_aload_n X dX1_readWheel_47 rfl ?_
      refine zG_iload_n X dX1_readWheel_48 rfl ?_
      refine zj_callV0 (as2 := [_, _]) X (k_X1_readSkip lo (d - 1) (by omega) _ G F hF (rdOk_S hn.1) hns (k := k) hk) dX1_readWheel_49 mv_X1_readSkip ml_X1_67 (by first | rfl | assumption) rfl (by first | decide | omega) rfl rfl (by show d - 1 + 1 ≤ d; omega) (by show 19 + 6 + 35 * (d - 1) ≤ 35 * (d); omega) (Nat.le_of_ble_eq_true rfl) (Nat.le_of_ble_eq_true rfl) (Nat.le_of_ble_eq_true rfl) ?_
      rw [show rskJ (rdS (rwhN J k) 64) k = rwhK J k from hK.symm]
      refine zG_aload_n X dX1_readWheel_52 rfl ?_
      refine zj_bipush X dX1_readWheel_53 (by decide) ?_
      refine zj_callV0 (as2 := [_]) X (k_X1_readSign lo (d - 1) (by omega) (rwhK J k) G F hF hkk.1 (u := 59) (by decide) (by decide)) dX1_readWheel_55 mv_X1_readSign ml_X1_53 (by first | rfl | assumption) rfl (by first | decide | omega) rfl rfl (by show d - 1 + 1 ≤ d; omega) (by show 19 + 2 + 35 * (d - 1) ≤ 35 * (d); omega) (Nat.le_of_ble_eq_true rfl) (Nat.le_of_ble_eq_true rfl) (Nat.le_of_ble_eq_true rfl) ?_
      refine zG_vret X dX1_readWheel_58 rfl ?_
      exact zD.rf
  · rw [if_neg hb]
    have hK : rwhK J k = rwhN J k := if_neg hb
    rw [← hK]
    refine zj_if_eq X dX1_readWheel_37 (tgt := 52) (by decide) (by first | decide | omega) (fun h_37 => ?_) (fun h_37 => ?_)
    · refine zG_aload_n X dX1_readWheel_52 rfl ?_
      refine zj_bipush X dX1_readWheel_53 (by decide) ?_
      refine zj_callV0 (as2 := [_]) X (k_X1_readSign lo (d - 1) (by omega) (rwhK J k) G F hF hkk.1 (u := 59) (by decide) (by decide)) dX1_readWheel_55 mv_X1_readSign ml_X1_53 (by first | rfl | assumption) rfl (by first | decide | omega) rfl rfl (by show d - 1 + 1 ≤ d; omega) (by show 19 + 2 + 35 * (d - 1) ≤ 35 * (d); omega) (Nat.le_of_ble_eq_true rfl) (Nat.le_of_ble_eq_true rfl) (Nat.le_of_ble_eq_true rfl) ?_
      refine zG_vret X dX1_readWheel_58 rfl ?_
      exact zD.rf
    · exact absurd h_37 (by first | decide | omega)
