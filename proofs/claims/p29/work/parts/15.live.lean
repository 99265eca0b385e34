set_option maxHeartbeats 4000000 in
set_option maxRecDepth 100000 in
theorem k_X2_fateOfMarket (lo d : Nat) (hd : 3 ≤ d) (J : Nat → Nat → Int) (G : Nat → Nat → Int64) (F : Nat → Nat → Option Nat) (hF : zFk F) {w : Nat} (hw : w = 37 ∨ w = 39) {hs : Nat → Int} {wd : Nat → Nat → Int} {ps : Nat → Int} {lag wt : Int} (vh : vH J hs wd) (vw : vW J w ps lag wt) (ok : hwOk hs wd) (po : pOk wd ps) (l1 : 0 ≤ lag) (l2 : lag < 720) (w1 : 0 ≤ wt) (w2 : wt ≤ 100) : zCt lo yX2_fateOfMarket cX2_fateOfMarket 1 (some .int) d 0 0 [.ref (lo + w)] 57 57 (zM J) G F (zD [.int (zI (mfate hs wd (sbC G 1) ps lag wt))] J G F) := by
  refine zCt.mk (by decide) (mv_X2_fateOfMarket.2.2.2.1) (Nat.le_of_ble_eq_true rfl) ?_
  intro p l e s m args below meth c D cA X
  have hsw : zShape[w]? = some (.inl 2) := by rcases hw with rfl | rfl <;> rfl
  have hsp : zShape[w + 1]? = some (.inr (0, 5)) := by rcases hw with rfl | rfl <;> rfl
  have hwn : w + 1 < 57 := by omega
  have hfh : F w 0 = some 1 := by rcases hw with rfl | rfl <;> exact zF_at hF rfl rfl
  have hfp : F w 1 = some (w + 1) := by rcases hw with rfl | rfl <;> exact zF_at hF rfl rfl
  have hcf := ok.1
  unfold hOk at hcf
  have hJ0 : J 1 1 = hs 0 := vh.1 0 (by decide)
  refine zG_aload_n X dX2_fateOfMarket_0 rfl ?_
  refine zj_callV1 (as2 := []) X (k_X2_isMarketDue lo (d - 1) (by omega) J G F hF hw vh vw ok po l1 l2 w1 w2) dX2_fateOfMarket_1 mv_X2_isMarketDue ml_X2_105 (by first | rfl | assumption) rfl (by first | decide | omega) rfl rfl (by show d - 1 + 1 ≤ d; omega) (by show 19 + 1 + 35 * (d - 1) ≤ 35 * (d); omega) (Nat.le_of_ble_eq_true rfl) (Nat.le_of_ble_eq_true rfl) (Nat.le_of_ble_eq_true rfl) ?_
  by_cases hd1 : mdue hs (sbC G 1) ps wt
  · rw [if_pos hd1]
    refine zj_if_ne X dX2_fateOfMarket_4 (tgt := 9) (by decide) (by first | decide | omega) (fun h_4 => ?_) (fun h_4 => ?_)
    · refine zG_aload_n X dX2_fateOfMarket_9 rfl ?_
      refine zj_callV1 (as2 := []) X (k_X2_isFordFree lo (d - 1) (by omega) J G F hF hw vh vw ok po l1 l2 hd1.1) dX2_fateOfMarket_10 mv_X2_isFordFree ml_X2_109 (by first | rfl | assumption) rfl (by first | decide | omega) rfl rfl (by show d - 1 + 1 ≤ d; omega) (by show 19 + 4 + 35 * (d - 1) ≤ 35 * (d); omega) (Nat.le_of_ble_eq_true rfl) (Nat.le_of_ble_eq_true rfl) (Nat.le_of_ble_eq_true rfl) ?_
      by_cases hf1 : mfree hs (mhigh hs wd ps lag)
      · rw [if_pos hf1]
        refine zj_if_eq X dX2_fateOfMarket_13 (tgt := 18) (by decide) (by first | decide | omega) (fun h_13 => ?_) (fun h_13 => ?_)
        · exact absurd h_13 (by first | decide | omega)
        · refine zj_iconst X dX2_fateOfMarket_16 ?_
          refine zG_iret X dX2_fateOfMarket_17 rfl ?_
          exact zD.of (by unfold mfate; rw [if_neg (fun q => q hd1), if_pos hf1]) rfl rfl rfl
      · rw [if_neg hf1]
        refine zj_if_eq X dX2_fateOfMarket_13 (tgt := 18) (by decide) (by first | decide | omega) (fun h_13 => ?_) (fun h_13 => ?_)
        · refine zG_aload_n X dX2_fateOfMarket_18 rfl ?_
          refine zj_getv (v := wt) X dX2_fateOfMarket_19 fl_X2_34 (by first | rfl | assumption) (by first | decide | omega) (by decide) rfl (vw.2.2) ?_
          refine zG_aload_n X dX2_fateOfMarket_22 rfl ?_
          refine zG_getR X dX2_fateOfMarket_23 fl_X2_9 (by first | rfl | assumption) (by first | decide | omega) (by decide) rfl (by first | exact zF_at hF rfl rfl | assumption) ?_
          refine zj_getv (v := hs 7) X dX2_fateOfMarket_26 fl_X2_112 (by first | rfl | assumption) (by first | decide | omega) (by decide) rfl (vh.1 7 (by decide)) ?_
          refine zj_icmp_ge X dX2_fateOfMarket_29 (tgt := 36) (by decide) (by first | decide | omega) (by first | decide | omega) (fun h_29 => ?_) (fun h_29 => ?_)
          · refine zj_iconst X dX2_fateOfMarket_36 ?_
            refine zG_iret X dX2_fateOfMarket_37 rfl ?_
            exact zD.of (by unfold mfate; rw [if_neg (fun q => q hd1), if_neg hf1]; split <;> first | rfl | omega) rfl rfl rfl
          · refine zj_iconst X dX2_fateOfMarket_32 ?_
            refine zG_goto X dX2_fateOfMarket_33 (tgt := 37) (by decide) ?_
            refine zG_iret X dX2_fateOfMarket_37 rfl ?_
            exact zD.of (by unfold mfate; rw [if_neg (fun q => q hd1), if_neg hf1]; split <;> first | rfl | omega) rfl rfl rfl
        · exact absurd h_13 (by first | decide | omega)
    · exact absurd h_4 (by first | decide | omega)
  · rw [if_neg hd1]
    refine zj_if_ne X dX2_fateOfMarket_4 (tgt := 9) (by decide) (by first | decide | omega) (fun h_4 => ?_) (fun h_4 => ?_)
    · exact absurd h_4 (by first | decide | omega)
    · refine zj_iconst X dX2_fateOfMarket_7 ?_
      refine zG_iret X dX2_fateOfMarket_8 rfl ?_
      exact zD.of (by unfold mfate; rw [if_pos hd1]) rfl rfl rfl
theorem mfate_in {hs : Nat → Int} {wd : Nat → Nat → Int} {sb : Nat → Bool} {ps : Nat → Int} {lag wt : Int} : 0 ≤ mfate hs wd sb ps lag wt ∧ mfate hs wd sb ps lag wt ≤ 3 := by
  unfold mfate
  (repeat' split) <;> decide
theorem mfate_2 {hs : Nat → Int} {wd : Nat → Nat → Int} {sb : Nat → Bool} {ps : Nat → Int} {lag wt : Int} (h : mfate hs wd sb ps lag wt = 2) : wt < hs 7 := by
  unfold mfate at h
  split at h
  · cases h
  · split at h
    · cases h
    · split at h
      · assumption
      · cases h
/-- the walk w of the world J, at the positions ps, with wt days waited -/
def wkJ (J : Nat → Nat → Int) (w : Nat) (ps : Nat → Int) (wt : Int) : Nat → Nat → Int := zup (upr J (w + 1) ps) w 2 wt
theorem wkJ_wt {J : Nat → Nat → Int} {w : Nat} {ps : Nat → Int} {wt x : Int} : zup (wkJ J w ps wt) w 2 x = wkJ J w ps x := by
  funext a i
  by_cases h : a = w ∧ i = 2 <;> simp [wkJ, zup, h]
theorem wkJ_ps {J : Nat → Nat → Int} {w : Nat} {ps q : Nat → Int} {wt : Int} : upr (wkJ J w ps wt) (w + 1) q = wkJ J w q wt := by
  funext a i
  by_cases h : a = w + 1
  · subst h; simp [wkJ, zup, upr]
  · simp [wkJ, zup, upr, h]
theorem wkJ_self {J : Nat → Nat → Int} {w : Nat} : wkJ J w (J (w + 1)) (J w 2) = J := by
  unfold wkJ
  rw [upr_self]
  funext a i
  by_cases h : a = w ∧ i = 2
  · obtain ⟨rfl, rfl⟩ := h; simp [zup]
  · simp [zup, h]
theorem wkJ_o {J : Nat → Nat → Int} {w : Nat} {ps : Nat → Int} {wt : Int} {a i : Nat} (h : a ≠ w + 1) (h2 : a ≠ w ∨ i ≠ 2) : wkJ J w ps wt a i = J a i := by
  unfold wkJ
  rw [zup_ne (by omega), upr_ne h]
theorem vH_wk {J : Nat → Nat → Int} {hs : Nat → Int} {wd : Nat → Nat → Int} (v : vH J hs wd) {w : Nat} (hw : 8 ≤ w) {ps : Nat → Int} {wt : Int} : vH (wkJ J w ps wt) hs wd := by
  refine ⟨fun j hj => ?_, fun k i hk => ?_⟩
  · rw [← v.1 j hj]
    unfold hsC
    rw [wkJ_o (by omega) (Or.inl (by omega)), wkJ_o (by omega) (Or.inl (by omega))]
  · rw [wkJ_o (by omega) (Or.inl (by omega))]
    exact v.2 k i hk
theorem vW_wk {J : Nat → Nat → Int} {w : Nat} {ps : Nat → Int} {wt : Int} : vW (wkJ J w ps wt) w ps (J w 3) wt := by
  refine ⟨fun i => ?_, ?_, ?_⟩
  · unfold wkJ
    rw [zup_ne (by omega), upr_eq]
  · rw [wkJ_o (by omega) (Or.inr (by omega))]
  · exact zup_eq
theorem k_move (lo d : Nat) (hd : 2 ≤ d) (J : Nat → Nat → Int) (G : Nat → Nat → Int64) (F : Nat → Nat → Option Nat) (hF : zFk F) {w : Nat} (hw : w = 37 ∨ w = 39) {hs : Nat → Int} {wd : Nat → Nat → Int} {ps : Nat → Int} {wt : Int} (vh : vH J hs wd) (ok : hwOk hs wd) (po : pOk wd ps) (h4 : J w 4 = 0 ∨ J w 4 = 1) : zCt lo yX2_moveWheels cX2_moveWheels 4 none d 0 0 [.ref (lo + w)] 57 57 (zM (wkJ J w ps wt)) G F (zD [] (wkJ J w (mvp wd (decide (J w 4 = 1)) (hs 0).toNat ps) wt) G F) := by
  have v := vH_wk (ps := ps) (wt := wt) vh (w := w) (by omega)
  have e4 : wkJ J w ps wt w 4 = J w 4 := wkJ_o (by omega) (Or.inr (by omega))
  have ep : wkJ J w ps wt (w + 1) = ps := funext vW_wk.1
  have e1 : wkJ J w ps wt 1 1 = hs 0 := v.1 0 (by decide)
  have hc := ok.1
  unfold hOk at hc
  have := k_X2_moveWheels lo d hd (wkJ J w ps wt) G F hF hw (vH_ok v ok) (pOk_congr (fun k hk => v.2 k 0 hk) (fun k hk => by rw [ep]) po) (by rw [e4]; exact h4)
  rw [e4, ep, e1, mvp_congr (wd := wdC (wkJ J w ps wt) 1) (wd2 := wd) (fun k i hk => v.2 k i hk) _ (by omega), wkJ_ps] at this
  exact this
set_option maxHeartbeats 4000000 in
set_option maxRecDepth 100000 in
theorem k_live (lo d : Nat) (hd : 4 ≤ d) (J : Nat → Nat → Int) (G : Nat → Nat → Int64) (F : Nat → Nat → Option Nat) (hF : zFk F) {w : Nat} (hw : w = 37 ∨ w = 39) {hs : Nat → Int} {wd : Nat → Nat → Int} {ps : Nat → Int} {wt : Int} (vh : vH J hs wd) (ok : hwOk hs wd) (po : pOk wd ps) (l1 : 0 ≤ J w 3) (l2 : J w 3 < 720) (h4 : J w 4 = 0 ∨ J w 4 = 1) (w1 : 0 ≤ wt) (w2 : wt ≤ 100) : zCt lo yX2_liveDay cX2_liveDay 2 (some .int) d 0 0 [.ref (lo + w)] 57 57 (zM (wkJ J w ps wt)) G F (zD [.int (zI (mfate hs wd (sbC G 1) ps (J w 3) wt))] (wkJ J w (mvp wd (decide (J w 4 = 1)) (hs 0).toNat ps) (if mfate hs wd (sbC G 1) ps (J w 3) wt = 2 then wt + 1 else 0)) G F) := by
  refine zCt.mk (by decide) (mv_X2_liveDay.2.2.2.1) (Nat.le_of_ble_eq_true rfl) ?_
  intro p l e s m args below meth c D cA X
  have hsw : zShape[w]? = some (.inl 2) := by rcases hw with rfl | rfl <;> rfl
  have hsp : zShape[w + 1]? = some (.inr (0, 5)) := by rcases hw with rfl | rfl <;> rfl
  have hwn : w + 1 < 57 := by omega
  have hfh : F w 0 = some 1 := by rcases hw with rfl | rfl <;> exact zF_at hF rfl rfl
  have hfp : F w 1 = some (w + 1) := by rcases hw with rfl | rfl <;> exact zF_at hF rfl rfl
  refine zG_aload_n X dX2_liveDay_0 rfl ?_
  refine zj_callV1 (as2 := []) X (k_X2_fateOfMarket lo (d - 1) (by omega) _ G F hF hw (vH_wk vh (by omega)) vW_wk ok po l1 l2 w1 w2) dX2_liveDay_1 mv_X2_fateOfMarket ml_X2_63 (by first | rfl | assumption) rfl (by first | decide | omega) rfl rfl (by show d - 1 + 1 ≤ d; omega) (by show 19 + 1 + 35 * (d - 1) ≤ 35 * (d); omega) (Nat.le_of_ble_eq_true rfl) (Nat.le_of_ble_eq_true rfl) (Nat.le_of_ble_eq_true rfl) ?_
  have hfi := mfate_in (hs := hs) (wd := wd) (sb := sbC G 1) (ps := ps) (lag := J w 3) (wt := wt)
  refine zG_istore_n X dX2_liveDay_4 (by decide) rfl ?_
  refine zG_aload_n X dX2_liveDay_5 rfl ?_
  refine zG_iload_n X dX2_liveDay_6 rfl ?_
  refine zj_iconst X dX2_liveDay_7 ?_
  refine zj_icmp_ne X dX2_liveDay_8 (tgt := 20) (by decide) (by first | decide | omega) (by first | decide | omega) (fun h_8 => ?_) (fun h_8 => ?_)
  · refine zj_iconst X dX2_liveDay_20 ?_
    refine zj_put X dX2_liveDay_21 fl_X2_34 (by first | rfl | assumption) (by first | decide | omega) (by decide) rfl rfl ?_
    rw [wkJ_wt]
    refine zG_aload_n X dX2_liveDay_24 rfl ?_
    refine zj_callV0 (as2 := []) X (k_move lo (d - 1) (by omega) J G F hF hw vh ok po h4) dX2_liveDay_25 mv_X2_moveWheels ml_X2_66 (by first | rfl | assumption) rfl (by first | decide | omega) rfl rfl (by show d - 1 + 1 ≤ d; omega) (by show 19 + 4 + 35 * (d - 1) ≤ 35 * (d); omega) (Nat.le_of_ble_eq_true rfl) (Nat.le_of_ble_eq_true rfl) (Nat.le_of_ble_eq_true rfl) ?_
    refine zG_iload_n X dX2_liveDay_28 rfl ?_
    refine zG_iret X dX2_liveDay_29 rfl ?_
    exact zD.of rfl (by first | rw [if_pos h_8] | rw [if_neg h_8]) rfl rfl
  · refine zG_aload_n X dX2_liveDay_11 rfl ?_
    refine zj_getv (v := wt) X dX2_liveDay_12 fl_X2_34 (by first | rfl | assumption) (by first | decide | omega) (by decide) rfl (vW_wk.2.2) ?_
    refine zj_iconst X dX2_liveDay_15 ?_
    refine zj_iadd X dX2_liveDay_16 ?_
    refine zG_goto X dX2_liveDay_17 (tgt := 21) (by decide) ?_
    refine zj_put X dX2_liveDay_21 fl_X2_34 (by first | rfl | assumption) (by first | decide | omega) (by decide) rfl rfl ?_
    rw [wkJ_wt]
    refine zG_aload_n X dX2_liveDay_24 rfl ?_
    refine zj_callV0 (as2 := []) X (k_move lo (d - 1) (by omega) J G F hF hw vh ok po h4) dX2_liveDay_25 mv_X2_moveWheels ml_X2_66 (by first | rfl | assumption) rfl (by first | decide | omega) rfl rfl (by show d - 1 + 1 ≤ d; omega) (by show 19 + 4 + 35 * (d - 1) ≤ 35 * (d); omega) (Nat.le_of_ble_eq_true rfl) (Nat.le_of_ble_eq_true rfl) (Nat.le_of_ble_eq_true rfl) ?_
    refine zG_iload_n X dX2_liveDay_28 rfl ?_
    refine zG_iret X dX2_liveDay_29 rfl ?_
    exact zD.of rfl (by first | rw [if_pos h_8] | rw [if_neg h_8]) rfl rfl
set_option maxHeartbeats 4000000 in
set_option maxRecDepth 100000 in
theorem k_X4_isIn (lo d : Nat) (J : Nat → Nat → Int) (G : Nat → Nat → Int64) (F : Nat → Nat → Option Nat) {q : Int} {k : Nat} (h1 : 0 ≤ q) (h2 : zr q) (hk : k < 5) : zCt lo yX4_isIn cX4_isIn 2 (some .boolean) d 0 0 [.int (zI q), .int (zI (k : Int))] 57 57 (zM J) G F (zD [.int (zI (if q / 2 ^ k % 2 = 0 then 0 else 1))] J G F) := by
  refine zCt.mk (by decide) (ms_X4_isIn.2.2.1) (Nat.le_of_ble_eq_true rfl) ?_
  intro p l e s m args below meth c D cA X
  refine zG_iload_n X dX4_isIn_0 rfl ?_
  refine zG_iload_n X dX4_isIn_1 rfl ?_
  refine zj_ishr X dX4_isIn_2 (by omega) (by omega) (by omega) ?_
  have hq1 : 0 ≤ q / 2 ^ k := Int.ediv_nonneg h1 (Int.le_of_lt (Int.pow_pos (by decide)))
  have hq2 : q / 2 ^ k ≤ q := Int.ediv_le_self _ h1
  refine zj_iconst X dX4_isIn_3 ?_
  refine zj_iand1 X dX4_isIn_4 (by omega) (by omega) ?_
  refine zj_if_eq X dX4_isIn_5 (tgt := 12) (by decide) (by first | decide | omega) (fun h_5 => ?_) (fun h_5 => ?_)
  · refine zj_iconst X dX4_isIn_12 ?_
    refine zG_zret X dX4_isIn_13 rfl (by first | rfl | assumption) ?_
    exact zD.of (by (repeat' split) <;> first | rfl | omega) rfl rfl rfl
  · refine zj_iconst X dX4_isIn_8 ?_
    refine zG_goto X dX4_isIn_9 (tgt := 13) (by decide) ?_
    refine zG_zret X dX4_isIn_13 rfl (by first | rfl | assumption) ?_
    exact zD.of (by (repeat' split) <;> first | rfl | omega) rfl rfl rfl
set_option maxHeartbeats 4000000 in
set_option maxRecDepth 100000 in
theorem k_meets (lo d : Nat) (hd : 1 ≤ d) (J : Nat → Nat → Int) (G : Nat → Nat → Int64) (F : Nat → Nat → Option Nat) (hF : zFk F) {hs : Nat → Int} {wd : Nat → Nat → Int} {ps : Nat → Int} {wt : Int} (vh : vH J hs wd) (ok : hwOk hs wd) (po : pOk wd ps) {u : Int} (q1 : 0 ≤ u) (q2 : zr u) : zCt lo yX2_meets cX2_meets 3 (some .boolean) d 0 0 [.ref (lo + 37), .int (zI u)] 57 57 (zM (wkJ J 37 ps wt)) G F (zD [.int (zI (if ∀ k, k < (hs 0).toNat → (u / 2 ^ k % 2 = 0 ∨ ps k = wd k 2) then 1 else 0))] (wkJ J 37 ps wt) G F) := by
  refine zCt.mk (by decide) (mv_X2_meets.2.2.2.1) (Nat.le_of_ble_eq_true rfl) ?_
  intro p l e s m args below meth c D cA X
  have hcf := ok.1
  unfold hOk at hcf
  have v := vH_wk (ps := ps) (wt := wt) vh (w := 37) (by omega)
  have hJ0 : wkJ J 37 ps wt 1 1 = hs 0 := v.1 0 (by decide)
  have hv := vW_wk (J := J) (w := 37) (ps := ps) (wt := wt)
  have loop : ∀ (q k : Nat) (hall : ∀ j, j < k → (u / 2 ^ j % 2 = 0 ∨ ps j = wd j 2)), k + q = (hs 0).toNat → zG p l e { frames := d, cells := 0, slots := 0, locals := 35 * d } s m args below meth c D cA lo 3 0 0 (MQ below (zQ D cA lo 57 (zD [.int (zI (if ∀ k, k < (hs 0).toNat → (u / 2 ^ k % 2 = 0 ∨ ps k = wd k 2) then 1 else 0))] (wkJ J 37 ps wt) G F)) args s 0 0 (fun q => lo ≤ q)) 57 (zM (wkJ J 37 ps wt)) G F [some (.ref (lo + 37)), some (.int (zI u)), some (.int (zI (k : Int)))] [] 2 := by
    intro q
    induction q with
    | zero =>
      intro k hall hk
      refine zG_iload_n X dX2_meets_2 rfl ?_
      refine zG_aload_n X dX2_meets_3 rfl ?_
      refine zG_getR X dX2_meets_4 fl_X2_9 (by first | rfl | assumption) (by first | decide | omega) (by decide) rfl (by first | exact zF_at hF rfl rfl | assumption) ?_
      refine zj_getv (v := hs 0) X dX2_meets_7 fl_X2_69 (by first | rfl | assumption) (by first | decide | omega) (by decide) rfl (hJ0) ?_
      refine zj_icmp_ge X dX2_meets_10 (tgt := 50) (by decide) (by first | decide | omega) (by first | decide | omega) (fun h_10 => ?_) (fun h_10 => ?_)
      · refine zj_iconst X dX2_meets_50 ?_
        refine zG_zret X dX2_meets_51 rfl (by first | rfl | assumption) ?_
        exact zD.of (by rw [if_pos (fun j hj => hall j (by omega))]) rfl rfl rfl
      · exact absurd h_10 (by first | decide | omega)
    | succ q ih =>
      intro k hall hk
      have hs3 := zSh_w (i := k) (by omega)
      have hwk := hwOk_w ok (k := k) (by omega)
      have hpk := po k (by omega)
      refine zG_iload_n X dX2_meets_2 rfl ?_
      refine zG_aload_n X dX2_meets_3 rfl ?_
      refine zG_getR X dX2_meets_4 fl_X2_9 (by first | rfl | assumption) (by first | decide | omega) (by decide) rfl (by first | exact zF_at hF rfl rfl | assumption) ?_
      refine zj_getv (v := hs 0) X dX2_meets_7 fl_X2_69 (by first | rfl | assumption) (by first | decide | omega) (by decide) rfl (hJ0) ?_
      refine zj_icmp_ge X dX2_meets_10 (tgt := 50) (by decide) (by first | decide | omega) (by first | decide | omega) (fun h_10 => ?_) (fun h_10 => ?_)
      · exact absurd h_10 (by first | decide | omega)
      · refine zG_iload_n X dX2_meets_13 rfl ?_
        refine zG_iload_n X dX2_meets_14 rfl ?_
        refine zj_callS1 (as2 := [_, _]) X (k_X4_isIn lo (d - 1) _ G F q1 q2 (by omega)) dX2_meets_15 ms_X4_isIn ml_X2_91 rfl rfl (by show d - 1 + 1 ≤ d; omega) (by show 19 + 2 + 35 * (d - 1) ≤ 35 * (d); omega) (Nat.le_of_ble_eq_true rfl) (Nat.le_of_ble_eq_true rfl) (Nat.le_of_ble_eq_true rfl) ?_
        by_cases hb : u / 2 ^ k % 2 = 0
        · rw [if_pos hb]
          refine zj_if_eq X dX2_meets_18 (tgt := 44) (by decide) (by first | decide | omega) (fun h_18 => ?_) (fun h_18 => ?_)
          · refine zj_iinc X dX2_meets_44 rfl (by decide) rfl ?_
            refine zG_goto X dX2_meets_47 (tgt := 2) (by decide) ?_
            exact ih (k + 1) (fun j hj => by
              rcases Nat.lt_or_ge j k with z | z
              · exact hall j z
              · obtain rfl : j = k := by omega
                first | exact Or.inl hb | exact Or.inr h_39) (by omega)
          · exact absurd h_18 (by first | decide | omega)
        · rw [if_neg hb]
          refine zj_if_eq X dX2_meets_18 (tgt := 44) (by decide) (by first | decide | omega) (fun h_18 => ?_) (fun h_18 => ?_)
          · exact absurd h_18 (by first | decide | omega)
          · refine zG_aload_n X dX2_meets_21 rfl ?_
            refine zG_getR X dX2_meets_22 fl_X2_15 (by first | rfl | assumption) (by first | decide | omega) (by decide) rfl (by first | exact zF_at hF rfl rfl | assumption) ?_
            refine zG_iload_n X dX2_meets_25 rfl ?_
            refine zj_ialoadv (v := ps k) X dX2_meets_26 (by first | rfl | assumption) (by first | decide | omega) _ rfl (by omega) (hv.1 k) ?_
            refine zG_aload_n X dX2_meets_27 rfl ?_
            refine zG_getR X dX2_meets_28 fl_X2_9 (by first | rfl | assumption) (by first | decide | omega) (by decide) rfl (by first | exact zF_at hF rfl rfl | assumption) ?_
            refine zG_getR X dX2_meets_31 fl_X2_19 (by first | rfl | assumption) (by first | decide | omega) (by decide) rfl (by first | exact zF_at hF rfl rfl | assumption) ?_
            refine zG_iload_n X dX2_meets_34 rfl ?_
            refine zj_aaload5 X dX2_meets_35 (by first | rfl | assumption) (by first | decide | omega) _ rfl (by omega) (zF_w1 hF (by omega)) ?_
            refine zj_getv (v := wd k 2) X dX2_meets_36 fl_X2_95 (by first | rfl | assumption) (by first | decide | omega) (by decide) rfl (v.2 k 2 (by omega)) ?_
            refine zj_icmp_eq X dX2_meets_39 (tgt := 44) (by decide) (by first | decide | omega) (by first | decide | omega) (fun h_39 => ?_) (fun h_39 => ?_)
            · refine zj_iinc X dX2_meets_44 rfl (by decide) rfl ?_
              refine zG_goto X dX2_meets_47 (tgt := 2) (by decide) ?_
              exact ih (k + 1) (fun j hj => by
                rcases Nat.lt_or_ge j k with z | z
                · exact hall j z
                · obtain rfl : j = k := by omega
                  first | exact Or.inl hb | exact Or.inr h_39) (by omega)
            · refine zj_iconst X dX2_meets_42 ?_
              refine zG_zret X dX2_meets_43 rfl (by first | rfl | assumption) ?_
              exact zD.of (by rw [if_neg (fun z => by have := z k (by omega); rcases this with y | y; exact hb y; exact h_39 y)]) rfl rfl rfl
  refine zj_iconst X dX2_meets_0 ?_
  refine zG_istore_n X dX2_meets_1 (by decide) rfl ?_
  exact loop (hs 0).toNat 0 (fun j hj => by omega) (by omega)
set_option maxHeartbeats 4000000 in
set_option maxRecDepth 100000 in
theorem k_asToday (lo d : Nat) (hd : 1 ≤ d) (J : Nat → Nat → Int) (G : Nat → Nat → Int64) (F : Nat → Nat → Option Nat) (hF : zFk F) {hs : Nat → Int} {wd : Nat → Nat → Int} {ps : Nat → Int} {wt : Int} (vh : vH J hs wd) (ok : hwOk hs wd) (po : pOk wd ps) : zCt lo yX2_isAsToday cX2_isAsToday 2 (some .boolean) d 0 0 [.ref (lo + 37)] 57 57 (zM (wkJ J 37 ps wt)) G F (zD [.int (zI (if ∀ k, k < (hs 0).toNat → ps k = wd k 1 then 1 else 0))] (wkJ J 37 ps wt) G F) := by
  refine zCt.mk (by decide) (mv_X2_isAsToday.2.2.2.1) (Nat.le_of_ble_eq_true rfl) ?_
  intro p l e s m args below meth c D cA X
  have hcf := ok.1
  unfold hOk at hcf
  have v := vH_wk (ps := ps) (wt := wt) vh (w := 37) (by omega)
  have hJ0 : wkJ J 37 ps wt 1 1 = hs 0 := v.1 0 (by decide)
  have hv := vW_wk (J := J) (w := 37) (ps := ps) (wt := wt)
  have loop : ∀ (q k : Nat) (hall : ∀ j, j < k → ps j = wd j 1), k + q = (hs 0).toNat → zG p l e { frames := d, cells := 0, slots := 0, locals := 35 * d } s m args below meth c D cA lo 2 0 0 (MQ below (zQ D cA lo 57 (zD [.int (zI (if ∀ k, k < (hs 0).toNat → ps k = wd k 1 then 1 else 0))] (wkJ J 37 ps wt) G F)) args s 0 0 (fun q => lo ≤ q)) 57 (zM (wkJ J 37 ps wt)) G F [some (.ref (lo + 37)), some (.int (zI (k : Int)))] [] 2 := by
    intro q
    induction q with
    | zero =>
      intro k hall hk
      refine zG_iload_n X dX2_isAsToday_2 rfl ?_
      refine zG_aload_n X dX2_isAsToday_3 rfl ?_
      refine zG_getR X dX2_isAsToday_4 fl_X2_9 (by first | rfl | assumption) (by first | decide | omega) (by decide) rfl (by first | exact zF_at hF rfl rfl | assumption) ?_
      refine zj_getv (v := hs 0) X dX2_isAsToday_7 fl_X2_69 (by first | rfl | assumption) (by first | decide | omega) (by decide) rfl (hJ0) ?_
      refine zj_icmp_ge X dX2_isAsToday_10 (tgt := 42) (by decide) (by first | decide | omega) (by first | decide | omega) (fun h_10 => ?_) (fun h_10 => ?_)
      · refine zj_iconst X dX2_isAsToday_42 ?_
        refine zG_zret X dX2_isAsToday_43 rfl (by first | rfl | assumption) ?_
        exact zD.of (by rw [if_pos (fun j hj => hall j (by omega))]) rfl rfl rfl
      · exact absurd h_10 (by first | decide | omega)
    | succ q ih =>
      intro k hall hk
      have hs3 := zSh_w (i := k) (by omega)
      have hwk := hwOk_w ok (k := k) (by omega)
      have hpk := po k (by omega)
      refine zG_iload_n X dX2_isAsToday_2 rfl ?_
      refine zG_aload_n X dX2_isAsToday_3 rfl ?_
      refine zG_getR X dX2_isAsToday_4 fl_X2_9 (by first | rfl | assumption) (by first | decide | omega) (by decide) rfl (by first | exact zF_at hF rfl rfl | assumption) ?_
      refine zj_getv (v := hs 0) X dX2_isAsToday_7 fl_X2_69 (by first | rfl | assumption) (by first | decide | omega) (by decide) rfl (hJ0) ?_
      refine zj_icmp_ge X dX2_isAsToday_10 (tgt := 42) (by decide) (by first | decide | omega) (by first | decide | omega) (fun h_10 => ?_) (fun h_10 => ?_)
      · exact absurd h_10 (by first | decide | omega)
      · refine zG_aload_n X dX2_isAsToday_13 rfl ?_
        refine zG_getR X dX2_isAsToday_14 fl_X2_15 (by first | rfl | assumption) (by first | decide | omega) (by decide) rfl (by first | exact zF_at hF rfl rfl | assumption) ?_
        refine zG_iload_n X dX2_isAsToday_17 rfl ?_
        refine zj_ialoadv (v := ps k) X dX2_isAsToday_18 (by first | rfl | assumption) (by first | decide | omega) _ rfl (by omega) (hv.1 k) ?_
        refine zG_aload_n X dX2_isAsToday_19 rfl ?_
        refine zG_getR X dX2_isAsToday_20 fl_X2_9 (by first | rfl | assumption) (by first | decide | omega) (by decide) rfl (by first | exact zF_at hF rfl rfl | assumption) ?_
        refine zG_getR X dX2_isAsToday_23 fl_X2_19 (by first | rfl | assumption) (by first | decide | omega) (by decide) rfl (by first | exact zF_at hF rfl rfl | assumption) ?_
        refine zG_iload_n X dX2_isAsToday_26 rfl ?_
        refine zj_aaload5 X dX2_isAsToday_27 (by first | rfl | assumption) (by first | decide | omega) _ rfl (by omega) (zF_w1 hF (by omega)) ?_
        refine zj_getv (v := wd k 1) X dX2_isAsToday_28 fl_X2_25 (by first | rfl | assumption) (by first | decide | omega) (by decide) rfl (v.2 k 1 (by omega)) ?_
        refine zj_icmp_eq X dX2_isAsToday_31 (tgt := 36) (by decide) (by first | decide | omega) (by first | decide | omega) (fun h_31 => ?_) (fun h_31 => ?_)
        · refine zj_iinc X dX2_isAsToday_36 rfl (by decide) rfl ?_
          refine zG_goto X dX2_isAsToday_39 (tgt := 2) (by decide) ?_
          exact ih (k + 1) (fun j hj => by
            rcases Nat.lt_or_ge j k with z | z
            · exact hall j z
            · obtain rfl : j = k := by omega
              exact h_31) (by omega)
        · refine zj_iconst X dX2_isAsToday_34 ?_
          refine zG_zret X dX2_isAsToday_35 rfl (by first | rfl | assumption) ?_
          exact zD.of (by rw [if_neg (fun z => h_31 (z k (by omega)))]) rfl rfl rfl
  refine zj_iconst X dX2_isAsToday_0 ?_
  refine zG_istore_n X dX2_isAsToday_1 (by decide) rfl ?_
  exact loop (hs 0).toNat 0 (fun j hj => by omega) (by omega)
