/-! what the Reader leaves as it was -/
theorem rdF_o {J : Nat → Nat → Int} {u : Int} {x i : Nat} (h : x ≠ 41) : rdF J u x i = J x i := by
  unfold rdF
  split
  · exact zup_ot h
  · rfl
theorem rdS_o {J : Nat → Nat → Int} {u : Int} {x i : Nat} (h : x ≠ 41) : rdS J u x i = J x i := by
  unfold rdS
  split
  · exact zup_ot h
  · exact rdF_o h
theorem drJ_o {J : Nat → Nat → Int} {u : Int} {x i : Nat} (h : x ≠ 41) : drJ J u x i = J x i := by
  unfold drJ
  split
  · exact zup_ot h
  · exact rdF_o h
theorem nuJ_o {J : Nat → Nat → Int} {a b : Int} {x i : Nat} (h : x ≠ 41) : nuJ J a b x i = J x i := by
  unfold nuJ nuJc
  split
  · rw [rdF_o h, atJ_o (Or.inl h)]
  · split
    · rw [rdF_o h, atJ_o (Or.inl h)]
    · rw [atJ_o (Or.inl h)]
theorem rdOk_up {J : Nat → Nat → Int} {F : Nat → Nat → Option Nat} {x i : Nat} {v : Int} (h : rdOk J F) (h1 : x ≠ 41) (h2 : x ≠ 49) : rdOk (zup J x i v) F := by
  obtain ⟨ht, htx, ha1, ha2, hl1, hl2, he1, he2⟩ := h
  have e : ∀ j, zup J x i v 41 j = J 41 j := fun j => zup_ot (fun z => h1 z.symm)
  refine ⟨ht, fun j => by rw [zup_ot (fun z => h2 z.symm)]; exact htx j, ?_⟩
  rw [e, e, e]
  exact ⟨ha1, ha2, hl1, hl2, he1, he2⟩
theorem rdOk_4 {J : Nat → Nat → Int} {F : Nat → Nat → Option Nat} {v : Int} (h : rdOk J F) (h1 : 0 ≤ v) (h2 : v ≤ 90) : rdOk (zup J 41 4 v) F := by
  obtain ⟨ht, htx, ha1, ha2, hl1, hl2, he1, he2⟩ := h
  refine ⟨ht, fun j => by rw [zup_ot (by decide)]; exact htx j, ?_⟩
  rw [show zup J 41 4 v 41 4 = v by simp [zup], zup_oi (show 3 ≠ 4 by decide), zup_oi (show 5 ≠ 4 by decide)]
  exact ⟨h1, h2, hl1, hl2, he1, he2⟩
theorem rdOk_F {J : Nat → Nat → Int} {F : Nat → Nat → Option Nat} {v : Int} (h : rdOk J F) (h1 : -1 ≤ v) (h2 : v ≤ 90) : rdOk (rdF J v) F := by
  unfold rdF
  split
  · obtain ⟨ht, htx, ha1, ha2, hl1, hl2, he1, he2⟩ := h
    refine ⟨ht, fun j => by rw [zup_ot (by decide)]; exact htx j, ?_⟩
    rw [show zup J 41 5 v 41 5 = v by simp [zup], zup_oi (show 3 ≠ 5 by decide), zup_oi (show 4 ≠ 5 by decide)]
    exact ⟨ha1, ha2, hl1, hl2, h1, h2⟩
  · exact h
theorem rdOk_S {J : Nat → Nat → Int} {F : Nat → Nat → Option Nat} {u : Int} (h : rdOk J F) : rdOk (rdS J u) F := by
  have h' := h
  obtain ⟨ht, htx, ha1, ha2, hl1, hl2, he1, he2⟩ := h'
  unfold rdS
  split
  · rename_i hn
    have := hn.1
    exact rdOk_4 h (by omega) (by omega)
  · exact rdOk_F h (by omega) ha2
theorem rdOk_dr {J : Nat → Nat → Int} {F : Nat → Nat → Option Nat} {u : Int} (h : rdOk J F) : rdOk (drJ J u) F := by
  have h' := h
  obtain ⟨ht, htx, ha1, ha2, hl1, hl2, he1, he2⟩ := h'
  unfold drJ
  split
  · rename_i hn
    unfold drV at hn
    by_cases hd : isDg J
    · have := hd.1
      exact rdOk_4 h (by omega) (by omega)
    · rw [if_neg hd] at hn
      omega
  · exact rdOk_F h (by omega) ha2
theorem nu_at {J : Nat → Nat → Int} {F : Nat → Nat → Option Nat} (h : rdOk J F) : J 41 4 + ((nuG J 2 0 : Nat) : Int) ≤ 90 ∧ 0 ≤ nuR J ∧ nuR J ≤ 99 := by
  obtain ⟨ht, htx, ha1, ha2, hl1, hl2, he1, he2⟩ := h
  unfold nuR
  by_cases h0 : isDg (atJ J 0)
  · have e0 : dgV (atJ J 0) = atJ J 0 49 (atJ J 0 41 4).toNat - 48 := if_pos h0.1
    have d0 := h0.2
    have l0 := h0.1
    rw [atJ_4, atJ_o (Or.inr (by decide))] at l0
    by_cases h1 : isDg (atJ J 1)
    · have hc : nuG J 2 0 = 2 := by
        rw [nuG_s, if_pos h0, nuG_s, if_pos h1]
        rfl
      have e1 : dgV (atJ J 1) = atJ J 1 49 (atJ J 1 41 4).toNat - 48 := if_pos h1.1
      have d1 := h1.2
      have l1 := h1.1
      rw [atJ_4, atJ_o (Or.inr (by decide))] at l1
      rw [hc, nuV_s, nuV_s, e0, e1, show nuV J 0 = 0 from rfl]
      push_cast
      omega
    · have hc : nuG J 2 0 = 1 := by
        rw [nuG_s, if_pos h0, nuG_s, if_neg h1]
      rw [hc, nuV_s, e0, show nuV J 0 = 0 from rfl]
      push_cast
      omega
  · have hc : nuG J 2 0 = 0 := by
      rw [nuG_s, if_neg h0]
    rw [hc, show nuV J 0 = 0 from rfl]
    exact ⟨by omega, Int.le_refl _, by decide⟩
theorem rdOk_nu {J : Nat → Nat → Int} {F : Nat → Nat → Option Nat} {a b : Int} (h : rdOk J F) : rdOk (nuJ J a b) F := by
  have h' := h
  have hn := (nu_at h).1
  obtain ⟨ht, htx, ha1, ha2, hl1, hl2, he1, he2⟩ := h'
  have h2 := rdOk_at h hn
  unfold nuJ nuJc
  split
  · exact rdOk_F h2 (by omega) hn
  · split
    · exact rdOk_F h2 (by omega) ha2
    · exact h2
def rwOk (J : Nat → Nat → Int) : Prop := ∀ j, j < 5 → 0 ≤ J (43 + j) 0 ∧ J (43 + j) 0 ≤ 99
def rskJ (J : Nat → Nat → Int) (k : Nat) : Nat → Nat → Int :=
  zup (zup (zup (rdS (nuJ (rdS (drJ J k) 44) 0 (rdS (drJ J k) 44 (43 + (drR J k).toNat) 0 - 1)) (if isNx (nuJ (rdS (drJ J k) 44) 0 (rdS (drJ J k) 44 (43 + (drR J k).toNat) 0 - 1)) 43 then 43 else 45)) (43 + k) 3 (drR J k)) (43 + k) 4 (nuR (rdS (drJ J k) 44))) (43 + k) 5 (if isNx (nuJ (rdS (drJ J k) 44) 0 (rdS (drJ J k) 44 (43 + (drR J k).toNat) 0 - 1)) 43 then 1 else -1)
theorem drR_in {J : Nat → Nat → Int} {F : Nat → Nat → Option Nat} {u : Int} (h : rdOk J F) (h1 : 0 ≤ u) : 0 ≤ drR J u ∧ (drR J u < u ∨ u = 0 ∧ drR J u = 0 ∨ drR J u = 0) := by
  unfold drR drV
  by_cases hd : isDg J
  · have e0 : dgV J = J 49 (J 41 4).toNat - 48 := if_pos hd.1
    have := hd.2
    rw [if_pos hd, e0]
    split <;> omega
  · rw [if_neg hd]
    split <;> omega
theorem zSh_rw {i : Nat} (hi : i < 5) : zShape[43 + i]? = some (.inl 3) := by
  have : i = 0 ∨ i = 1 ∨ i = 2 ∨ i = 3 ∨ i = 4 := by omega
  rcases this with rfl | rfl | rfl | rfl | rfl <;> rfl
theorem zF_rw {F : Nat → Nat → Option Nat} (hF : zFk F) {i : Nat} (hi : i < 5) : F 42 i = some (43 + i) := by
  rw [hF _ _ rfl]
  simp [zF0, hi]
set_option maxHeartbeats 4000000 in
set_option maxRecDepth 100000 in
theorem k_X1_readSkip (lo d : Nat) (hd : 3 ≤ d) (J : Nat → Nat → Int) (G : Nat → Nat → Int64) (F : Nat → Nat → Option Nat) (hF : zFk F) (hr : rdOk J F) (hrw : rwOk J) {k : Nat} (hk : k < 5) : zCt lo yX1_readSkip cX1_readSkip 6 none d 0 0 [.ref (lo + 41), .ref (lo + (43 + k)), .int (zI (k : Int))] 57 57 (zM J) G F (zD [] (rskJ J k) G F) := by
  refine zCt.mk (by decide) (mv_X1_readSkip.2.2.2.1) (Nat.le_of_ble_eq_true rfl) ?_
  intro p l e s m args below meth c D cA X
  have hdr := drR_in (u := (k : Int)) hr (by omega)
  have hd5 : (drR J k).toNat < 5 := by omega
  have r1 := rdOk_dr (u := (k : Int)) hr
  have r2 := rdOk_S (u := 44) r1
  have ht9 := hrw (drR J k).toNat hd5
  have e9 : (rdS (drJ J k) 44) (43 + (drR J k).toNat) 0 = J (43 + (drR J k).toNat) 0 := (rdS_o (by omega)).trans (drJ_o (by omega))
  have r3 := rdOk_nu (a := 0) (b := ((rdS (drJ J k) 44) (43 + (drR J k).toNat) 0 - 1)) r2
  have hsd := zSh_rw hd5
  have hnd : 43 + (drR J k).toNat < 57 := by omega
  have hfd := zF_rw hF hd5
  have hsk := zSh_rw hk
  have hnk : 43 + k < 57 := by omega
  refine zG_aload_n X dX1_readSkip_0 rfl ?_
  refine zG_iload_n X dX1_readSkip_1 rfl ?_
  refine zj_callV1 (as2 := [_]) X (k_X1_readDriver lo (d - 1) (by omega) J G F hF hr (by omega) (by omega)) dX1_readSkip_2 mv_X1_readDriver ml_X1_70 (by first | rfl | assumption) rfl (by first | decide | omega) rfl rfl (by show d - 1 + 1 ≤ d; omega) (by show 19 + 3 + 35 * (d - 1) ≤ 35 * (d); omega) (Nat.le_of_ble_eq_true rfl) (Nat.le_of_ble_eq_true rfl) (Nat.le_of_ble_eq_true rfl) ?_
  refine zG_istore_n X dX1_readSkip_5 (by decide) rfl ?_
  refine zG_aload_n X dX1_readSkip_6 rfl ?_
  refine zj_bipush X dX1_readSkip_7 (by decide) ?_
  refine zj_callV0 (as2 := [_]) X (k_X1_readSign lo (d - 1) (by omega) _ G F hF r1 (u := 44) (by decide) (by decide)) dX1_readSkip_9 mv_X1_readSign ml_X1_53 (by first | rfl | assumption) rfl (by first | decide | omega) rfl rfl (by show d - 1 + 1 ≤ d; omega) (by show 19 + 2 + 35 * (d - 1) ≤ 35 * (d); omega) (Nat.le_of_ble_eq_true rfl) (Nat.le_of_ble_eq_true rfl) (Nat.le_of_ble_eq_true rfl) ?_
  refine zG_aload_n X dX1_readSkip_12 rfl ?_
  refine zj_iconst X dX1_readSkip_13 ?_
  refine zG_aload_n X dX1_readSkip_14 rfl ?_
  refine zG_getR X dX1_readSkip_15 fl_X1_13 (by first | rfl | assumption) (by first | decide | omega) (by decide) rfl (by first | exact zF_at hF rfl rfl | assumption) ?_
  refine zG_iload_n X dX1_readSkip_18 rfl ?_
  refine zj_aaload5 X dX1_readSkip_19 (by first | rfl | assumption) (by first | decide | omega) ((drR J k).toNat) (by omega) (by omega) (hfd) ?_
  refine zj_get X dX1_readSkip_20 fl_X1_74 (by first | rfl | assumption) (by first | decide | omega) (by decide) rfl ?_
  refine zj_iconst X dX1_readSkip_23 ?_
  refine zj_isub X dX1_readSkip_24 ?_
  refine zj_callV1 (as2 := [_, _]) X (k_X1_readNumber lo (d - 1) (by omega) _ G F hF r2 (u := 0) (v := ((rdS (drJ J k) 44) (43 + (drR J k).toNat) 0 - 1)) (by decide) (by unfold zr; omega)) dX1_readSkip_25 mv_X1_readNumber ml_X1_50 (by first | rfl | assumption) rfl (by first | decide | omega) rfl rfl (by show d - 1 + 1 ≤ d; omega) (by show 19 + 6 + 35 * (d - 1) ≤ 35 * (d); omega) (Nat.le_of_ble_eq_true rfl) (Nat.le_of_ble_eq_true rfl) (Nat.le_of_ble_eq_true rfl) ?_
  refine zG_istore X dX1_readSkip_28 (by decide) rfl ?_
  refine zG_aload_n X dX1_readSkip_30 rfl ?_
  refine zj_bipush X dX1_readSkip_31 (by decide) ?_
  refine zj_callV1 (as2 := [_]) X (k_X1_isNext lo (d - 1) _ G F hF r3 (u := 43) (by decide)) dX1_readSkip_33 mv_X1_isNext ml_X1_63 (by first | rfl | assumption) rfl (by first | decide | omega) rfl rfl (by show d - 1 + 1 ≤ d; omega) (by show 19 + 2 + 35 * (d - 1) ≤ 35 * (d); omega) (Nat.le_of_ble_eq_true rfl) (Nat.le_of_ble_eq_true rfl) (Nat.le_of_ble_eq_true rfl) ?_
  by_cases hb : isNx (nuJ (rdS (drJ J k) 44) 0 ((rdS (drJ J k) 44) (43 + (drR J k).toNat) 0 - 1)) 43
  · rw [if_pos hb]
    have e43 : (if isNx (nuJ (rdS (drJ J k) 44) 0 ((rdS (drJ J k) 44) (43 + (drR J k).toNat) 0 - 1)) 43 then (43 : Int) else 45) = 43 := if_pos hb
    have e1 : (if isNx (nuJ (rdS (drJ J k) 44) 0 ((rdS (drJ J k) 44) (43 + (drR J k).toNat) 0 - 1)) 43 then (1 : Int) else -1) = 1 := if_pos hb
    refine zj_if_eq X dX1_readSkip_36 (tgt := 43) (by decide) (by first | decide | omega) (fun h_36 => ?_) (fun h_36 => ?_)
    · exact absurd h_36 (by first | decide | omega)
    · refine zj_iconst X dX1_readSkip_39 ?_
      refine zG_goto X dX1_readSkip_40 (tgt := 44) (by decide) ?_
      refine zG_istore X dX1_readSkip_44 (by decide) rfl ?_
      refine zG_aload_n X dX1_readSkip_46 rfl ?_
      refine zG_iload X dX1_readSkip_47 rfl ?_
      refine zj_if_le X dX1_readSkip_49 (tgt := 57) (by decide) (by first | decide | omega) (fun h_49 => ?_) (fun h_49 => ?_)
      · exact absurd h_49 (by first | decide | omega)
      · refine zj_bipush X dX1_readSkip_52 (by decide) ?_
        refine zG_goto X dX1_readSkip_54 (tgt := 59) (by decide) ?_
        refine zj_callV0 (as2 := [_]) X (k_X1_readSign lo (d - 1) (by omega) _ G F hF r3 (by decide) (by decide)) dX1_readSkip_59 mv_X1_readSign ml_X1_53 (by first | rfl | assumption) rfl (by first | decide | omega) rfl rfl (by show d - 1 + 1 ≤ d; omega) (by show 19 + 2 + 35 * (d - 1) ≤ 35 * (d); omega) (Nat.le_of_ble_eq_true rfl) (Nat.le_of_ble_eq_true rfl) (Nat.le_of_ble_eq_true rfl) ?_
        refine zG_aload_n X dX1_readSkip_62 rfl ?_
        refine zG_iload_n X dX1_readSkip_63 rfl ?_
        refine zG_iload X dX1_readSkip_64 rfl ?_
        refine zG_iload X dX1_readSkip_66 rfl ?_
        refine zj_callV0 (as2 := [_, _, _]) X (k_X3_skipAt lo (d - 1) _ G F hsk hnk) dX1_readSkip_68 mv_X3_skipAt ml_X1_77 (by first | rfl | assumption) rfl (by first | decide | omega) rfl rfl (by show d - 1 + 1 ≤ d; omega) (by show 19 + 4 + 35 * (d - 1) ≤ 35 * (d); omega) (Nat.le_of_ble_eq_true rfl) (Nat.le_of_ble_eq_true rfl) (Nat.le_of_ble_eq_true rfl) ?_
        refine zG_vret X dX1_readSkip_71 rfl ?_
        exact zD.of rfl (by unfold rskJ; rw [e43, e1]) rfl rfl
  · rw [if_neg hb]
    have e43 : (if isNx (nuJ (rdS (drJ J k) 44) 0 ((rdS (drJ J k) 44) (43 + (drR J k).toNat) 0 - 1)) 43 then (43 : Int) else 45) = 45 := if_neg hb
    have e1 : (if isNx (nuJ (rdS (drJ J k) 44) 0 ((rdS (drJ J k) 44) (43 + (drR J k).toNat) 0 - 1)) 43 then (1 : Int) else -1) = -1 := if_neg hb
    refine zj_if_eq X dX1_readSkip_36 (tgt := 43) (by decide) (by first | decide | omega) (fun h_36 => ?_) (fun h_36 => ?_)
    · refine zj_iconst X dX1_readSkip_43 ?_
      refine zG_istore X dX1_readSkip_44 (by decide) rfl ?_
      refine zG_aload_n X dX1_readSkip_46 rfl ?_
      refine zG_iload X dX1_readSkip_47 rfl ?_
      refine zj_if_le X dX1_readSkip_49 (tgt := 57) (by decide) (by first | decide | omega) (fun h_49 => ?_) (fun h_49 => ?_)
      · refine zj_bipush X dX1_readSkip_57 (by decide) ?_
        refine zj_callV0 (as2 := [_]) X (k_X1_readSign lo (d - 1) (by omega) _ G F hF r3 (by decide) (by decide)) dX1_readSkip_59 mv_X1_readSign ml_X1_53 (by first | rfl | assumption) rfl (by first | decide | omega) rfl rfl (by show d - 1 + 1 ≤ d; omega) (by show 19 + 2 + 35 * (d - 1) ≤ 35 * (d); omega) (Nat.le_of_ble_eq_true rfl) (Nat.le_of_ble_eq_true rfl) (Nat.le_of_ble_eq_true rfl) ?_
        refine zG_aload_n X dX1_readSkip_62 rfl ?_
        refine zG_iload_n X dX1_readSkip_63 rfl ?_
        refine zG_iload X dX1_readSkip_64 rfl ?_
        refine zG_iload X dX1_readSkip_66 rfl ?_
        refine zj_callV0 (as2 := [_, _, _]) X (k_X3_skipAt lo (d - 1) _ G F hsk hnk) dX1_readSkip_68 mv_X3_skipAt ml_X1_77 (by first | rfl | assumption) rfl (by first | decide | omega) rfl rfl (by show d - 1 + 1 ≤ d; omega) (by show 19 + 4 + 35 * (d - 1) ≤ 35 * (d); omega) (Nat.le_of_ble_eq_true rfl) (Nat.le_of_ble_eq_true rfl) (Nat.le_of_ble_eq_true rfl) ?_
        refine zG_vret X dX1_readSkip_71 rfl ?_
        exact zD.of rfl (by unfold rskJ; rw [e43, e1]) rfl rfl
      · exact absurd h_49 (by first | decide | omega)
    · exact absurd h_36 (by first | decide | omega)
